/-! both ways of seeking the true features are one -/
theorem mem_tryT {n : Nat} {K : Nat → Nat} {nj : Nat} {Js : Nat → JD} {kg p0 f x : Nat} {L : List Nat} : x ∈ tryT n K nj Js kg p0 f L ↔ x ∈ L ∨ (x = withP p0 f (dg kg f) ∧ agreeP n K nj Js p0 x kg = true) := by
  unfold tryT
  cases ha : agreeP n K nj Js p0 (withP p0 f (dg kg f)) kg with
  | false =>
    rw [Bool.and_false, if_neg (by decide)]
    exact ⟨Or.inl, fun q => q.elim id (fun w => by rw [w.1, ha] at w; exact absurd w.2 (by decide))⟩
  | true =>
    rw [Bool.and_true]
    cases hc : L.contains (withP p0 f (dg kg f)) with
    | true =>
      rw [if_neg (by decide)]
      exact ⟨Or.inl, fun q => q.elim id (fun w => by rw [w.1]; simpa using hc)⟩
    | false =>
      rw [if_pos (by decide), List.mem_append]
      constructor
      · rintro (q | q)
        · exact Or.inl q
        · simp at q
          exact Or.inr ⟨q, by rw [q]; exact ha⟩
      · rintro (q | q)
        · exact Or.inl q
        · exact Or.inr (by simp [q.1])
theorem mem_rowT {n : Nat} {K : Nat → Nat} {nj : Nat} {Js : Nat → JD} {kg p0 x : Nat} {L : List Nat} : ∀ f, x ∈ rowT n K nj Js kg p0 f L ↔ x ∈ L ∨ ∃ g, g < f ∧ x = withP p0 g (dg kg g) ∧ agreeP n K nj Js p0 x kg = true
  | 0 => ⟨Or.inl, fun q => q.elim id (fun ⟨g, w, _⟩ => by omega)⟩
  | f + 1 => by
    rw [rowT, mem_tryT, mem_rowT f]
    constructor
    · rintro ((q | ⟨g, a, b⟩) | q)
      · exact Or.inl q
      · exact Or.inr ⟨g, by omega, b⟩
      · exact Or.inr ⟨f, by omega, q⟩
    · rintro (q | ⟨g, a, b⟩)
      · exact Or.inl (Or.inl q)
      · by_cases e : g = f
        · subst e; exact Or.inr b
        · exact Or.inl (Or.inr ⟨g, by omega, b⟩)
theorem row_pre {n : Nat} {K : Nat → Nat} {nj : Nat} {Js : Nat → JD} {kg p0 : Nat} {L : List Nat} : ∀ f, ∃ ext, rowT n K nj Js kg p0 f L = L ++ ext
  | 0 => ⟨[], by rw [List.append_nil]; rfl⟩
  | f + 1 => by
    obtain ⟨ext, he⟩ := row_pre (n := n) (K := K) (nj := nj) (Js := Js) (kg := kg) (p0 := p0) (L := L) f
    rw [rowT, tryT]
    split
    · exact ⟨ext ++ [withP p0 f (dg kg f)], by rw [he, List.append_assoc]⟩
    · exact ⟨ext, he⟩
theorem mem_year {n : Nat} {K : Nat → Nat} {nj : Nat} {Js : Nat → JD} {kg : Nat} {L : List Nat} : ∀ c0, c0 ≤ L.length → (∃ ext, yearTo n K nj Js kg c0 L = L ++ ext) ∧ ∀ x, x ∈ yearTo n K nj Js kg c0 L ↔ x ∈ L ∨ ∃ i, i < c0 ∧ ∃ g, g < n ∧ x = withP (L.getD i 0) g (dg kg g) ∧ agreeP n K nj Js (L.getD i 0) x kg = true
  | 0, _ => ⟨⟨[], by rw [List.append_nil]; rfl⟩, fun x => ⟨Or.inl, fun q => q.elim id (fun ⟨g, w, _⟩ => by omega)⟩⟩
  | c0 + 1, h => by
    obtain ⟨⟨ext, he⟩, hm⟩ := mem_year (n := n) (K := K) (nj := nj) (Js := Js) (kg := kg) (L := L) c0 (by omega)
    have hg : (yearTo n K nj Js kg c0 L).getD c0 0 = L.getD c0 0 := by
      rw [he, getD_app1 (by omega)]
    rw [yearTo, hg]
    refine ⟨?_, fun x => ?_⟩
    · obtain ⟨ext2, he2⟩ := row_pre (n := n) (K := K) (nj := nj) (Js := Js) (kg := kg) (p0 := L.getD c0 0) (L := yearTo n K nj Js kg c0 L) n
      exact ⟨ext ++ ext2, by rw [he2, he, List.append_assoc]⟩
    · rw [mem_rowT, hm]
      constructor
      · rintro ((q | ⟨i, a, b⟩) | q)
        · exact Or.inl q
        · exact Or.inr ⟨i, by omega, b⟩
        · exact Or.inr ⟨c0, by omega, q⟩
      · rintro (q | ⟨i, a, b⟩)
        · exact Or.inl (Or.inl q)
        · by_cases e : i = c0
          · subst e; exact Or.inr b
          · exact Or.inl (Or.inr ⟨i, by omega, b⟩)
theorem year_gen {n : Nat} {K : Nat → Nat} {nj : Nat} {Js : Nat → JD} {kg x : Nat} {L : List Nat} : x ∈ yearTo n K nj Js kg L.length L ↔ ∃ p0 ∈ L, genT n K nj Js kg p0 x := by
  rw [(mem_year L.length (Nat.le_refl _)).2]
  constructor
  · rintro (q | ⟨i, hi, g, a, b, c⟩)
    · exact ⟨x, q, Or.inl rfl⟩
    · refine ⟨L.getD i 0, ?_, Or.inr ⟨g, a, b, c⟩⟩
      rw [List.getD_eq_getElem?_getD, List.getElem?_eq_getElem hi]
      exact List.getElem_mem hi
  · rintro ⟨p0, hp, rfl | ⟨g, a, b, c⟩⟩
    · exact Or.inl hp
    · obtain ⟨i, hi, e⟩ := List.mem_iff_getElem.mp hp
      have eg : L.getD i 0 = p0 := by rw [List.getD_eq_getElem?_getD, List.getElem?_eq_getElem hi, ← e]; rfl
      exact Or.inr ⟨i, hi, g, a, by rw [eg]; exact b, by rw [eg]; exact c⟩
def bestO (h : Nat → Option Nat) : Nat → Option (Nat × Nat)
  | 0 => none
  | a + 1 => match h a with
    | none => bestO h a
    | some y => match bestO h a with
      | none => some (y, a)
      | some q => if y < q.1 then some (y, a) else some q
theorem bestA_O (n : Nat) (K : Nat → Nat) (nj : Nat) (Js : Nat → JD) (kg la : Nat) : ∀ a, bestA n K nj Js kg la a = bestO (truthT n K nj Js kg la) a
  | 0 => rfl
  | a + 1 => by
    rw [bestA, bestO, bestA_O n K nj Js kg la a]
    cases truthT n K nj Js kg la a with
    | none => rfl
    | some y =>
      cases bestO (truthT n K nj Js kg la) a with
      | none => rfl
      | some q => rfl
theorem bestO_none {h : Nat → Option Nat} : ∀ a, (∀ b, b < a → h b = none) → bestO h a = none
  | 0, _ => rfl
  | a + 1, q => by rw [bestO, q a (by omega)]; exact bestO_none a (fun b hb => q b (by omega))
theorem bestO_congr {h h2 : Nat → Option Nat} : ∀ a, (∀ b, b < a → h b = h2 b) → bestO h a = bestO h2 a
  | 0, _ => rfl
  | a + 1, q => by rw [bestO, bestO, q a (by omega), bestO_congr a (fun b hb => q b (by omega))]
theorem bestO_ge {h : Nat → Option Nat} {y : Nat} : ∀ a, (∀ b z, b < a → h b = some z → y < z) → ∀ q, bestO h a = some q → y < q.1
  | 0, _, q, e => by cases e
  | a + 1, w, q, e => by
    rw [bestO] at e
    have ih := bestO_ge (h := h) (y := y) a (fun b z hb => w b z (by omega))
    cases hh : h a with
    | none => rw [hh] at e; exact ih q e
    | some z =>
      rw [hh] at e
      have hz := w a z (by omega) hh
      simp only at e
      cases hb : bestO h a with
      | none => rw [hb] at e; cases e; exact hz
      | some q2 =>
        rw [hb] at e
        simp only at e
        split at e
        · cases e; exact hz
        · cases e; exact ih q hb
theorem bestO_first {h : Nat → Option Nat} {y a0 : Nat} (h0 : h a0 = some y) (h1 : ∀ b z, b < a0 → h b = some z → y < z) (h2 : ∀ b z, h b = some z → y ≤ z) : ∀ d, bestO h (a0 + 1 + d) = some (y, a0)
  | 0 => by
    rw [Nat.add_zero, bestO, h0]
    simp only
    cases hb : bestO h a0 with
    | none => rfl
    | some q =>
      have := bestO_ge a0 h1 q hb
      simp only
      rw [if_pos this]
  | d + 1 => by
    rw [← Nat.add_assoc, bestO, bestO_first h0 h1 h2 d]
    cases hh : h (a0 + 1 + d) with
    | none => rfl
    | some z =>
      have := h2 _ z hh
      simp only
      rw [if_neg (by omega)]
def pairO (n : Nat) (o : Option (Nat × Nat)) : Int32 × Int32 := match o with
  | none => ((-1), (-1))
  | some q => (nI q.1, if q.2 = n then (-1) else nI q.2)
theorem find_first {x : Nat} {e : Nat × Nat} : ∀ {L : List (Nat × Nat)}, srtL L → L.find? (fun e => e.2 == x) = some e → ∀ e2 ∈ L, e2.2 = x → e.1 ≤ e2.1
  | [], _, h, _, _, _ => by cases h
  | a :: L, hs, h, e2, he, hx => by
    have h1 := List.pairwise_cons.mp hs
    rw [List.find?_cons] at h
    cases ha : (a.2 == x) with
    | true =>
      rw [ha] at h
      cases h
      rcases List.mem_cons.mp he with rfl | q
      · exact Nat.le_refl _
      · exact h1.1 e2 q
    | false =>
      rw [ha] at h
      rcases List.mem_cons.mp he with rfl | q
      · simp [hx] at ha
      · exact find_first h1.2 h e2 q hx
theorem least_ex {P : Nat → Prop} : ∀ (a : Nat), P a → ∃ a0, a0 ≤ a ∧ P a0 ∧ ∀ b, b < a0 → ¬ P b := by
  intro a
  induction a using Nat.strongRecOn with
  | ind a ih =>
    intro h
    by_cases q : ∃ b, b < a ∧ P b
    · obtain ⟨b, hb, hp⟩ := q
      obtain ⟨a0, c1, c2, c3⟩ := ih b hb hp
      exact ⟨a0, by omega, c2, c3⟩
    · exact ⟨a, Nat.le_refl a, h, fun b hb hp => q ⟨b, hb, hp⟩⟩
theorem runT_nil (n : Nat) (K : Nat → Nat) (nj : Nat) (Js : Nat → JD) (k y kg : Nat) : runT n K nj Js k y kg [] = none := by
  cases k with
  | zero => rfl
  | succ k => rw [runT, if_pos (show ([] : List Nat).length = 0 from rfl)]
theorem labA_mono {n a b : Nat} (h4 : n ≤ 4) (h1 : a ≤ b) (h2 : b ≤ n) : labA n a ≤ labA n b := by
  unfold labA
  split <;> split <;> omega
theorem tru_yes {n : Nat} (h4 : n ≤ 4) {K : Nat → Nat} {nj : Nat} {Js : Nat → JD} {k y kg : Nat} {L : List (Nat × Nat)} {AA : Nat → List Nat} (hs : srtL L) (hrel : ∀ x b, (∃ e ∈ L, e.2 = x ∧ e.1 ≤ b) ↔ ∃ act, act ≤ n ∧ labA n act ≤ b ∧ x ∈ AA act) (hh : hasP L kg = true) : pairO n (bestO (fun a => runT n K nj Js (k + 1) y kg (AA a)) (n + 1)) = (nI y, firstI L kg) := by
  have hf := find_has L kg
  rw [hh] at hf
  obtain ⟨e, he⟩ := Option.isSome_iff_exists.mp hf
  have hm := List.mem_of_find?_eq_some he
  have h2 : e.2 = kg := by have := List.find?_some he; simpa using this
  obtain ⟨act, a1, a2, a3⟩ := (hrel kg e.1).mp ⟨e, hm, h2, Nat.le_refl _⟩
  obtain ⟨a0, b1, ⟨b2, b3⟩, b4⟩ := least_ex (P := fun a => a ≤ n ∧ kg ∈ AA a) act ⟨a1, a3⟩
  obtain ⟨e2, c1, c2, c3⟩ := (hrel kg (labA n a0)).mpr ⟨a0, b2, Nat.le_refl _, b3⟩
  have d1 := find_first hs he e2 c1 c2
  have d2 := labA_mono h4 b1 a1
  have hlab : e.1 = labA n a0 := by omega
  have h0 : runT n K nj Js (k + 1) y kg (AA a0) = some y := by
    rw [runT, if_neg (fun q => by rw [List.length_eq_zero_iff.mp q] at b3; cases b3), if_pos (by simpa using b3)]
  have hb := bestO_first (h := fun a => runT n K nj Js (k + 1) y kg (AA a)) (y := y) (a0 := a0) h0 (fun b z hb hz => by
    have hno : ¬ kg ∈ AA b := fun q => b4 b hb ⟨by omega, q⟩
    have hz : runT n K nj Js (k + 1) y kg (AA b) = some z := hz
    rw [runT] at hz
    split at hz
    · cases hz
    · rw [if_neg (by simpa using hno)] at hz
      have := runT_lt hz
      omega) (fun b z hz => (runT_lt hz).1) (n - a0)
  rw [show a0 + 1 + (n - a0) = n + 1 by omega] at hb
  rw [hb, firstI, he]
  show (nI y, if a0 = n then (-1) else nI a0) = (nI y, if e.1 = 4 then (-1) else nI e.1)
  rw [hlab, labA]
  by_cases q : a0 = n
  · rw [if_pos q, if_pos q, if_pos rfl]
  · rw [if_neg q, if_neg q, if_neg (by omega)]
theorem tru_no {n : Nat} {K : Nat → Nat} {nj : Nat} {Js : Nat → JD} {k y kg : Nat} {L : List (Nat × Nat)} {AA : Nat → List Nat} (hrel : ∀ x b, (∃ e ∈ L, e.2 = x ∧ e.1 ≤ b) ↔ ∃ act, act ≤ n ∧ labA n act ≤ b ∧ x ∈ AA act) (hh : hasP L kg = false) : ∀ a, a < n + 1 → runT n K nj Js (k + 1) y kg (AA a) = runT n K nj Js k (y + 1) (agedP n K kg) (yearTo n K nj Js (agedP n K kg) (AA a).length (AA a)) := by
  intro a ha
  have hno : ¬ kg ∈ AA a := fun q => by
    obtain ⟨e, h1, h2, _⟩ := (hrel kg (labA n a)).mpr ⟨a, by omega, Nat.le_refl _, q⟩
    have : hasP L kg = true := hasP_mem.mpr (List.mem_map.mpr ⟨e, h1, h2⟩)
    rw [hh] at this
    cases this
  rw [runT]
  by_cases q : (AA a).length = 0
  · rw [if_pos q, List.length_eq_zero_iff.mp q]
    show none = runT n K nj Js k (y + 1) (agedP n K kg) (yearTo n K nj Js (agedP n K kg) 0 [])
    rw [yearTo, runT_nil]
  · rw [if_neg q, if_neg (by simpa using hno)]
theorem tru_main {n : Nat} (h4 : n ≤ 4) {K : Nat → Nat} {nj : Nat} {Js : Nat → JD} : ∀ (k y kg : Nat) (L : List (Nat × Nat)) (AA : Nat → List Nat), 1 ≤ y → srtL L → (∀ x b, (∃ e ∈ L, e.2 = x ∧ e.1 ≤ b) ↔ ∃ act, act ≤ n ∧ labA n act ≤ b ∧ x ∈ AA act) → pairO n (bestO (fun a => runT n K nj Js (k + 1) y kg (AA a)) (n + 1)) = if hasP L kg then (nI y, firstI L kg) else truS n K nj Js k (y + 1) kg L := by
  intro k
  induction k with
  | zero =>
    intro y kg L AA hy hs hrel
    cases hh : hasP L kg with
    | true => rw [if_pos rfl]; exact tru_yes h4 hs hrel hh
    | false =>
      rw [if_neg (by decide), bestO_none _ (fun b hb => by rw [tru_no hrel hh b hb]; rfl)]
      rfl
  | succ k ih =>
    intro y kg L AA hy hs hrel
    cases hh : hasP L kg with
    | true => rw [if_pos rfl]; exact tru_yes h4 hs hrel hh
    | false =>
      obtain ⟨p1, p2⟩ := pass_two (n := n) (K := K) (nj := nj) (Js := Js) (kg := agedP n K kg) hs
      rw [if_neg (by decide), bestO_congr _ (fun b hb => tru_no hrel hh b hb), truS, decide_eq_false (show ¬ y + 1 = 1 by omega)]
      refine ih (y + 1) (agedP n K kg) (passS n K nj Js (agedP n K kg) false L) (fun a => yearTo n K nj Js (agedP n K kg) (AA a).length (AA a)) (by omega) p1 (fun x b => ?_)
      rw [p2]
      constructor
      · rintro ⟨e, h1, h2, h3⟩
        obtain ⟨act, c1, c2, c3⟩ := (hrel e.2 b).mp ⟨e, h1, rfl, h2⟩
        exact ⟨act, c1, c2, year_gen.mpr ⟨e.2, c3, h3⟩⟩
      · rintro ⟨act, c1, c2, c3⟩
        obtain ⟨p0, d1, d2⟩ := year_gen.mp c3
        obtain ⟨e, h1, h2, h3⟩ := (hrel p0 b).mpr ⟨act, c1, c2, d1⟩
        exact ⟨e, h1, h3, by rw [h2]; exact d2⟩
theorem pair_one {n : Nat} (h4 : n ≤ 4) (K : Nat → Nat) (nj : Nat) (Js : Nat → JD) (la kg : Nat) : R_pair n K nj Js la kg = seekI n K nj Js la kg := by
  rw [R_pair, seekI]
  by_cases e : kg = la
  · rw [if_pos e, if_pos e.symm]
  · rw [if_neg e, if_neg (Ne.symm e), bestA_O, truS, decide_eq_true rfl]
    obtain ⟨p1, p2⟩ := pass_one1 h4 (K := K) (nj := nj) (Js := Js) (kg := agedP n K kg) (la := la)
    rw [← tru_main h4 11 1 (agedP n K kg) (passS n K nj Js (agedP n K kg) true [(0, la)]) (startT n K nj Js (agedP n K kg) la) (Nat.le_refl 1) p1 p2]
    have e2 : truthT n K nj Js kg la = fun a => runT n K nj Js 12 1 (agedP n K kg) (startT n K nj Js (agedP n K kg) la a) := by
      funext a; rfl
    rw [e2]
    cases bestO (fun a => runT n K nj Js 12 1 (agedP n K kg) (startT n K nj Js (agedP n K kg) la a)) (n + 1) with
    | none => rfl
    | some q => rfl
theorem truth_one {n : Nat} (h4 : n ≤ 4) (K : Nat → Nat) (mm kg nj : Nat) (Js : Nat → JD) (Ln : Nat → Nat) (tr : Nat) (x : Int32) : R_truth n K mm kg nj Js Ln tr x = r_truth n K mm kg nj Js Ln tr x := by
  rw [R_truth, r_truth, pair_one h4]
theorem slp_one {n : Nat} (h4 : n ≤ 4) (K : Nat → Nat) (mm kg nj : Nat) (Js : Nat → JD) (x z : Int32) : R_slips n K mm kg nj Js x z = r_slips n K mm kg nj Js x z := by
  rw [R_slips, r_slips]
  by_cases hm : mm = 0
  · rw [if_pos hm, if_pos hm]
  · rw [if_neg hm, if_neg hm]
    by_cases hc : (inR (10 ^ n) x && inR (10 ^ n) z) = true
    · rw [if_pos hc, if_pos hc]
      have h104 := pow_le4 h4
      obtain ⟨a, ha, rfl⟩ := inR_of (by omega) (Bool.and_eq_true _ _ ▸ hc).1
      rw [valI_nI (show a < 2147483648 by omega)]
      exact slips_one h4 ha
    · rw [if_neg hc, if_neg hc]
