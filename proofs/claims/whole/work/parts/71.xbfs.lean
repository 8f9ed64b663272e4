/-! both ways of seeking the fewest slips are one -/
theorem hasP_eq {L C : List (Nat × Nat)} (h : L.map Prod.snd = C.map Prod.snd) (q : Nat) : hasP L q = hasP C q := by
  rw [Bool.eq_iff_iff, hasP_mem, hasP_mem, h]
theorem slip_rel {n : Nat} {K : Nat → Nat} {nj : Nat} {Js : Nat → JD} {kg lb p0 f : Nat} {up : Bool} {L C : List (Nat × Nat)} (h : L.map Prod.snd = C.map Prod.snd) (hp : hasP L p0 = true) : (slipB n K nj Js kg lb p0 f up L).map Prod.snd = (slipS n K nj Js kg p0 f up C).map Prod.snd := by
  unfold slipB slipS slipQ
  cases hs : slipP K p0 f up with
  | none =>
    simp only [Option.getD_none]
    rw [hp]
    simpa using h
  | some q =>
    simp only [Option.getD_some]
    rw [hasP_eq h q]
    split
    · rw [List.map_append, List.map_append, h]; rfl
    · exact h
theorem slipB_has {n : Nat} {K : Nat → Nat} {nj : Nat} {Js : Nat → JD} {kg lb p0 f q : Nat} {up : Bool} {L : List (Nat × Nat)} (h : hasP L q = true) : hasP (slipB n K nj Js kg lb p0 f up L) q = true := by
  unfold slipB
  split
  · rw [hasP_app, h]; rfl
  · exact h
theorem expB_has {n : Nat} {K : Nat → Nat} {nj : Nat} {Js : Nat → JD} {kg lb p0 q : Nat} {L : List (Nat × Nat)} (h : hasP L q = true) : ∀ k, hasP (expB n K nj Js kg lb p0 k L) q = true
  | 0 => h
  | k + 1 => slipB_has (expB_has h k)
theorem exp_rel {n : Nat} {K : Nat → Nat} {nj : Nat} {Js : Nat → JD} {kg lb p0 : Nat} {L C : List (Nat × Nat)} (h : L.map Prod.snd = C.map Prod.snd) (hp : hasP L p0 = true) : ∀ f, (expB n K nj Js kg lb p0 (2 * f) L).map Prod.snd = (expS n K nj Js kg p0 f C).map Prod.snd
  | 0 => h
  | f + 1 => by
    rw [show 2 * (f + 1) = 2 * f + 1 + 1 by omega, expB, expB, expS, show (2 * f + 1) / 2 = f by omega, show 2 * f / 2 = f by omega, decide_eq_true (show (2 * f + 1) % 2 = 1 by omega), decide_eq_false (show ¬ 2 * f % 2 = 1 by omega)]
    exact slip_rel (slip_rel (exp_rel h hp f) (expB_has hp _)) (slipB_has (expB_has hp _))
theorem slipB_new {n : Nat} {K : Nat → Nat} {nj : Nat} {Js : Nat → JD} {kg lb p0 f : Nat} {up : Bool} {L : List (Nat × Nat)} {j : Nat} {e : Nat × Nat} (h : (slipB n K nj Js kg lb p0 f up L)[j]? = some e) : L[j]? = some e ∨ (L.length ≤ j ∧ e.1 = lb) := by
  unfold slipB at h
  split at h
  · rcases Nat.lt_or_ge j L.length with q | q
    · rw [List.getElem?_append_left q] at h; exact Or.inl h
    · rw [List.getElem?_append_right q] at h
      refine Or.inr ⟨q, ?_⟩
      have := List.mem_of_getElem? h
      simp at this
      rw [this]
  · exact Or.inl h
theorem slipB_len {n : Nat} {K : Nat → Nat} {nj : Nat} {Js : Nat → JD} {kg lb p0 f : Nat} {up : Bool} {L : List (Nat × Nat)} : L.length ≤ (slipB n K nj Js kg lb p0 f up L).length := by
  unfold slipB
  split
  · simp
  · exact Nat.le_refl _
theorem expB_len {n : Nat} {K : Nat → Nat} {nj : Nat} {Js : Nat → JD} {kg lb p0 : Nat} {L : List (Nat × Nat)} : ∀ k, L.length ≤ (expB n K nj Js kg lb p0 k L).length
  | 0 => Nat.le_refl _
  | k + 1 => Nat.le_trans (expB_len k) slipB_len
theorem expB_new {n : Nat} {K : Nat → Nat} {nj : Nat} {Js : Nat → JD} {kg lb p0 : Nat} {L : List (Nat × Nat)} {j : Nat} {e : Nat × Nat} : ∀ k, (expB n K nj Js kg lb p0 k L)[j]? = some e → L[j]? = some e ∨ (L.length ≤ j ∧ e.1 = lb)
  | 0, h => Or.inl h
  | k + 1, h => by
    rcases slipB_new h with q | q
    · exact expB_new k q
    · exact Or.inr ⟨Nat.le_trans (expB_len k) q.1, q.2⟩
theorem slipS_has {n : Nat} {K : Nat → Nat} {nj : Nat} {Js : Nat → JD} {kg p0 f q : Nat} {up : Bool} {L : List (Nat × Nat)} (h : hasP L q = true) : hasP (slipS n K nj Js kg p0 f up L) q = true := by
  unfold slipS
  split
  · exact h
  · split
    · rw [hasP_app, h]; rfl
    · exact h
theorem expS_has {n : Nat} {K : Nat → Nat} {nj : Nat} {Js : Nat → JD} {kg p0 q : Nat} {L : List (Nat × Nat)} (h : hasP L q = true) : ∀ k, hasP (expS n K nj Js kg p0 k L) q = true
  | 0 => h
  | k + 1 => slipS_has (slipS_has (expS_has h k))
theorem procS_has {n : Nat} {K : Nat → Nat} {nj : Nat} {Js : Nat → JD} {kg q : Nat} : ∀ (k i : Nat) {L : List (Nat × Nat)}, hasP L q = true → hasP (procS n K nj Js kg k i L) q = true
  | 0, _, _, h => h
  | k + 1, i, L, h => procS_has k (i + 1) (expS_has h n)
theorem bfsB_at {n : Nat} {K : Nat → Nat} {nj : Nat} {Js : Nat → JD} {kg to f i y : Nat} {L : List (Nat × Nat)} (hg : goodB n L) (h : hasP L to = true) (hy : ∀ e ∈ L, e.2 = to → e.1 = y) : bfsB n K nj Js kg to (f + 1) i L = nI y := by
  rw [bfsB, if_pos h]
  obtain ⟨e, h1, h2, h3⟩ := labI_yes h
  rw [h3, hy e h1 h2]
theorem layer {n : Nat} {K : Nat → Nat} {nj : Nat} {Js : Nat → JD} {kg to y N : Nat} (hy : y < 20) : ∀ (c0 i f : Nat) (L C : List (Nat × Nat)), L.map Prod.snd = C.map Prod.snd → i + c0 = N → N ≤ L.length → goodB n L → (∀ j e, i ≤ j → j < N → L[j]? = some e → e.1 = y) → (∀ j e, N ≤ j → L[j]? = some e → e.1 = y + 1) → (∀ j e, j < N → L[j]? = some e → e.2 ≠ to) → ∃ L2, L2.map Prod.snd = (procS n K nj Js kg c0 i C).map Prod.snd ∧ goodB n L2 ∧ N ≤ L2.length ∧ (∀ j e, N ≤ j → L2[j]? = some e → e.1 = y + 1) ∧ (hasP (procS n K nj Js kg c0 i C) to = true → bfsB n K nj Js kg to (f + 1 + c0) i L = nI (y + 1)) ∧ (hasP (procS n K nj Js kg c0 i C) to = false → bfsB n K nj Js kg to (f + 1 + c0) i L = bfsB n K nj Js kg to (f + 1) N L2)
  | 0, i, f, L, C, hm, hi, hN, hg, h1, h2, h3 => by
    refine ⟨L, hm, hg, hN, h2, fun hh => ?_, fun _ => by rw [show i = N by omega]⟩
    refine bfsB_at hg (by rw [hasP_eq hm]; exact hh) (fun e he e2 => ?_)
    obtain ⟨j, hj⟩ := List.mem_iff_getElem?.mp he
    rcases Nat.lt_or_ge j N with q | q
    · exact absurd e2 (h3 j e q hj)
    · exact h2 j e q hj
  | c0 + 1, i, f, L, C, hm, hi, hN, hg, h1, h2, h3 => by
    have hlen : i < L.length := by omega
    obtain ⟨e0, he0⟩ : ∃ e0, L[i]? = some e0 := ⟨_, List.getElem?_eq_getElem hlen⟩
    have hlab := h1 i e0 (Nat.le_refl i) (by omega) he0
    have hmem := List.mem_of_getElem? he0
    have hp := (hg.2 e0 hmem).2
    have hC : (C.getD i (0, 0)).2 = e0.2 := by
      have : (C.map Prod.snd)[i]? = some e0.2 := by rw [← hm, List.getElem?_map, he0]; rfl
      rw [List.getElem?_map] at this
      rw [List.getD_eq_getElem?_getD]
      cases hc : C[i]? with
      | none => rw [hc] at this; cases this
      | some x => rw [hc] at this; simpa using this
    have hhas : hasP L e0.2 = true := hasP_mem.mpr (List.mem_map.mpr ⟨e0, hmem, rfl⟩)
    have hm2 := exp_rel (n := n) (K := K) (nj := nj) (Js := Js) (kg := kg) (lb := y + 1) (p0 := e0.2) hm hhas n
    have hl2 := expB_len (n := n) (K := K) (nj := nj) (Js := Js) (kg := kg) (lb := y + 1) (p0 := e0.2) (L := L) (2 * n)
    have pre : ∀ j e, j < N → (expB n K nj Js kg (y + 1) e0.2 (2 * n) L)[j]? = some e → L[j]? = some e := fun j e hj h => by
      rcases expB_new (2 * n) h with q | q
      · exact q
      · exact absurd q.1 (by omega)
    obtain ⟨L2, a1, a2, a3, a4, a5, a6⟩ := layer hy c0 (i + 1) f (expB n K nj Js kg (y + 1) e0.2 (2 * n) L) (expS n K nj Js kg (C.getD i (0, 0)).2 n C) (by rw [hC]; exact hm2) (by omega) (by omega) (goodB_exp hg hp (by omega) (2 * n) (Nat.le_refl _)) (fun j e q1 q2 q3 => h1 j e (by omega) q2 (pre j e q2 q3)) (fun j e q1 q2 => by
      rcases expB_new (2 * n) q2 with q | q
      · exact h2 j e q1 q
      · exact q.2) (fun j e q1 q2 => h3 j e q1 (pre j e q1 q2))
    refine ⟨L2, a1, a2, a3, a4, fun hh => ?_, fun hh => ?_⟩
    · cases hL : hasP L to with
      | true =>
        refine bfsB_at (f := f + 1 + c0) hg hL (fun e he e2 => ?_)
        obtain ⟨j, hj⟩ := List.mem_iff_getElem?.mp he
        rcases Nat.lt_or_ge j N with q | q
        · exact absurd e2 (h3 j e q hj)
        · exact h2 j e q hj
      | false =>
        rw [show f + 1 + (c0 + 1) = f + 1 + c0 + 1 by omega, bfsB, hL, if_neg (by decide), he0]
        simp only
        rw [hlab, if_pos hy]
        exact a5 hh
    · have hL : hasP L to = false := by
        cases hL : hasP L to with
        | false => rfl
        | true =>
          have : hasP (procS n K nj Js kg (c0 + 1) i C) to = true := procS_has _ _ (by rw [← hasP_eq hm]; exact hL)
          rw [this] at hh; cases hh
      rw [show f + 1 + (c0 + 1) = f + 1 + c0 + 1 by omega, bfsB, hL, if_neg (by decide), he0]
      simp only
      rw [hlab, if_pos hy]
      exact a6 hh
theorem bfs_last {n : Nat} {K : Nat → Nat} {nj : Nat} {Js : Nat → JD} {kg to : Nat} {L : List (Nat × Nat)} (hL : hasP L to = false) : ∀ (f a : Nat), (∀ j e, a ≤ j → L[j]? = some e → e.1 = 20) → bfsB n K nj Js kg to f a L = (-1)
  | 0, _, _ => rfl
  | f + 1, a, h => by
    rw [bfsB, hL, if_neg (by decide)]
    cases he : L[a]? with
    | none => rfl
    | some e =>
      simp only
      rw [if_neg (by rw [h a e (Nat.le_refl a) he]; decide)]
      exact bfs_last hL f (a + 1) (fun j e q => h j e (by omega))
theorem rounds {n : Nat} (h4 : n ≤ 4) {K : Nat → Nat} {nj : Nat} {Js : Nat → JD} {kg to : Nat} : ∀ (k y done f : Nat) (L C : List (Nat × Nat)), y + k = 20 → L.map Prod.snd = C.map Prod.snd → hasP C to = false → done ≤ L.length → f + done = 10001 → goodB n L → (∀ j e, done ≤ j → L[j]? = some e → e.1 = y) → bfsB n K nj Js kg to f done L = fewS n K nj Js kg to k (y + 1) done C
  | 0, y, done, f, L, C, hy, hm, hh, hd, hf, hg, hl => by
    rw [fewS]
    exact bfs_last (by rw [hasP_eq hm]; exact hh) f done (fun j e q1 q2 => by rw [hl j e q1 q2]; omega)
  | k + 1, y, done, f, L, C, hy, hm, hh, hd, hf, hg, hl => by
    have hlen := goodB_len hg
    have h104 := pow_le4 h4
    have hlc : L.length = C.length := by
      have := congrArg List.length hm
      simpa using this
    have hhL : hasP L to = false := by rw [hasP_eq hm]; exact hh
    have hno : ∀ e ∈ L, e.2 ≠ to := fun e he q => by
      have : hasP L to = true := hasP_mem.mpr (List.mem_map.mpr ⟨e, he, q⟩)
      rw [hhL] at this; cases this
    obtain ⟨L2, a1, a2, a3, a4, a5, a6⟩ := layer (n := n) (K := K) (nj := nj) (Js := Js) (kg := kg) (to := to) (y := y) (N := L.length) (by omega) (L.length - done) done (10000 - L.length) L C hm (by omega) (Nat.le_refl _) hg (fun j e q1 _ q3 => hl j e q1 q3) (fun j e q1 q2 => absurd (List.getElem?_eq_some_iff.mp q2).1 (by omega)) (fun j e _ q2 => hno e (List.mem_of_getElem? q2))
    rw [show 10000 - L.length + 1 + (L.length - done) = f by omega] at a5 a6
    rw [fewS]
    rw [← hlc]
    cases hp : hasP (procS n K nj Js kg (L.length - done) done C) to with
    | true => rw [if_pos rfl]; exact a5 hp
    | false =>
      rw [if_neg (by decide), a6 hp]
      exact rounds h4 k (y + 1) L.length (10000 - L.length + 1) L2 _ (by omega) a1 hp a3 (by omega) a2 a4
theorem slips_one {n : Nat} (h4 : n ≤ 4) {K : Nat → Nat} {nj : Nat} {Js : Nat → JD} {kg fro to : Nat} (hf : fro < 10 ^ n) : bfsB n K nj Js kg to 10001 0 [(0, fro)] = slipsI n K nj Js kg fro to := by
  have hg : goodB n [(0, fro)] := ⟨by simp, fun e he => by simp at he; subst he; exact ⟨Nat.zero_le 20, hf⟩⟩
  rw [slipsI]
  by_cases e : fro = to
  · rw [if_pos e]
    exact bfsB_at hg (by simp [hasP, e]) (fun e he _ => by simp at he; subst he; rfl)
  · rw [if_neg e]
    exact rounds h4 20 0 0 10001 _ _ (by omega) rfl (by simp [hasP, e]) (by simp) (by omega) hg (fun j e _ q => by
      have := List.mem_of_getElem? q
      simp at this
      rw [this])
