/-! both ways of seeking the true features are one: what a year adds -/
def addU (M : List (Nat × Nat)) (s0 : Nat × Nat) : List (Nat × Nat) := if hasP M s0.2 then M else M ++ [s0]
def rawF (n : Nat) (K : Nat → Nat) (nj : Nat) (Js : Nat → JD) (kg p0 : Nat) (lb : Nat → Nat) : Nat → List (Nat × Nat)
  | 0 => []
  | f + 1 => rawF n K nj Js kg p0 lb f ++ (if agreeP n K nj Js p0 (withP p0 f (dg kg f)) kg then [(lb f, withP p0 f (dg kg f))] else [])
theorem try_raw (n : Nat) (K : Nat → Nat) (nj : Nat) (Js : Nat → JD) (kg p0 lb f : Nat) (L : List (Nat × Nat)) : tryS n K nj Js kg p0 lb f L = (if agreeP n K nj Js p0 (withP p0 f (dg kg f)) kg then [(lb, withP p0 f (dg kg f))] else []).foldl addU L := by
  unfold tryS
  cases ha : agreeP n K nj Js p0 (withP p0 f (dg kg f)) kg with
  | false => simp
  | true =>
    cases hh : hasP L (withP p0 f (dg kg f)) with
    | true => simp [addU, hh]
    | false => simp [addU, hh]
theorem row_raw (n : Nat) (K : Nat → Nat) (nj : Nat) (Js : Nat → JD) (kg p0 e1 : Nat) (first : Bool) (L : List (Nat × Nat)) : ∀ f, rowS n K nj Js kg p0 e1 first f L = (rawF n K nj Js kg p0 (fun f => if first then f else e1) f).foldl addU L
  | 0 => rfl
  | f + 1 => by rw [rowS, try_raw, row_raw n K nj Js kg p0 e1 first L f, rawF, List.foldl_append]
def rawE (n : Nat) (K : Nat → Nat) (nj : Nat) (Js : Nat → JD) (kg : Nat) (first : Bool) (e : Nat × Nat) : List (Nat × Nat) := rawF n K nj Js kg e.2 (fun f => if first then f else e.1) n ++ [(if first then 4 else e.1, e.2)]
theorem one_raw (n : Nat) (K : Nat → Nat) (nj : Nat) (Js : Nat → JD) (kg : Nat) (first : Bool) (L : List (Nat × Nat)) (e : Nat × Nat) : oneS n K nj Js kg first L e = (rawE n K nj Js kg first e).foldl addU L := by
  rw [oneS, rawE, List.foldl_append, ← row_raw, List.foldl_cons, List.foldl_nil, addU]
theorem pass_raw (n : Nat) (K : Nat → Nat) (nj : Nat) (Js : Nat → JD) (kg : Nat) (first : Bool) : ∀ (L M : List (Nat × Nat)), L.foldl (oneS n K nj Js kg first) M = (L.flatMap (rawE n K nj Js kg first)).foldl addU M
  | [], M => rfl
  | e :: L, M => by rw [List.foldl_cons, List.flatMap_cons, List.foldl_append, one_raw, pass_raw n K nj Js kg first L]
def srtL (L : List (Nat × Nat)) : Prop := L.Pairwise (fun a b => a.1 ≤ b.1)
theorem dedup : ∀ (Z M : List (Nat × Nat)), srtL (M ++ Z) → (∀ m0 ∈ Z.foldl addU M, m0 ∈ M ∨ m0 ∈ Z) ∧ (∀ s0, s0 ∈ M ∨ s0 ∈ Z → ∃ m0 ∈ Z.foldl addU M, m0.2 = s0.2 ∧ m0.1 ≤ s0.1) ∧ srtL (Z.foldl addU M)
  | [], M, h => ⟨fun m0 q => Or.inl q, fun s0 q => q.elim (fun q => ⟨s0, q, rfl, Nat.le_refl _⟩) (fun q => by cases q), by rw [List.append_nil] at h; exact h⟩
  | z :: Z, M, h => by
    rw [List.foldl_cons, addU]
    cases hh : hasP M z.2 with
    | true =>
      rw [if_pos rfl]
      have h2 : srtL (M ++ Z) := by
        refine List.Pairwise.sublist ?_ h
        exact List.Sublist.append_left (List.sublist_cons_self z Z) M
      obtain ⟨a1, a2, a3⟩ := dedup Z M h2
      refine ⟨fun m0 q => (a1 m0 q).elim Or.inl (fun w => Or.inr (List.mem_cons_of_mem _ w)), fun s0 q => ?_, a3⟩
      rcases q with q | q
      · exact a2 s0 (Or.inl q)
      · rcases List.mem_cons.mp q with rfl | q
        · obtain ⟨e, he, e2⟩ := List.mem_map.mp (hasP_mem.mp hh)
          obtain ⟨m0, b1, b2, b3⟩ := a2 e (Or.inl he)
          have h3 := (List.pairwise_append.mp h).2.2 e he s0 (List.mem_cons_self ..)
          exact ⟨m0, b1, b2.trans e2, Nat.le_trans b3 h3⟩
        · exact a2 s0 (Or.inr q)
    | false =>
      rw [if_neg (by decide)]
      have h2 : srtL ((M ++ [z]) ++ Z) := by rw [List.append_assoc]; exact h
      obtain ⟨a1, a2, a3⟩ := dedup Z (M ++ [z]) h2
      refine ⟨fun m0 q => ?_, fun s0 q => a2 s0 ?_, a3⟩
      · rcases a1 m0 q with w | w
        · rcases List.mem_append.mp w with w | w
          · exact Or.inl w
          · simp at w; exact Or.inr (by rw [w]; exact List.mem_cons_self ..)
        · exact Or.inr (List.mem_cons_of_mem _ w)
      · rcases q with q | q
        · exact Or.inl (List.mem_append.mpr (Or.inl q))
        · rcases List.mem_cons.mp q with rfl | q
          · exact Or.inl (by simp)
          · exact Or.inr q
/-- what a portrait may be in a year's time -/
def genT (n : Nat) (K : Nat → Nat) (nj : Nat) (Js : Nat → JD) (kg p0 x : Nat) : Prop := x = p0 ∨ ∃ f, f < n ∧ x = withP p0 f (dg kg f) ∧ agreeP n K nj Js p0 x kg = true
theorem mem_rawF {n : Nat} {K : Nat → Nat} {nj : Nat} {Js : Nat → JD} {kg p0 : Nat} {lb : Nat → Nat} {s0 : Nat × Nat} : ∀ f, s0 ∈ rawF n K nj Js kg p0 lb f ↔ ∃ g, g < f ∧ s0 = (lb g, withP p0 g (dg kg g)) ∧ agreeP n K nj Js p0 (withP p0 g (dg kg g)) kg = true
  | 0 => ⟨(fun q => by cases q), fun ⟨g, q, _⟩ => by omega⟩
  | f + 1 => by
    rw [rawF, List.mem_append, mem_rawF f]
    constructor
    · rintro (⟨g, a, b, c⟩ | q)
      · exact ⟨g, by omega, b, c⟩
      · split at q
        · rename_i w
          simp at q
          exact ⟨f, by omega, q, w⟩
        · cases q
    · rintro ⟨g, a, b, c⟩
      by_cases e : g = f
      · subst e
        right
        rw [if_pos c, b]
        simp
      · exact Or.inl ⟨g, by omega, b, c⟩
theorem mem_rawE {n : Nat} {K : Nat → Nat} {nj : Nat} {Js : Nat → JD} {kg : Nat} {e s0 : Nat × Nat} : s0 ∈ rawE n K nj Js kg false e ↔ s0.1 = e.1 ∧ genT n K nj Js kg e.2 s0.2 := by
  rw [rawE, List.mem_append, mem_rawF]
  constructor
  · rintro (⟨g, a, rfl, c⟩ | q)
    · exact ⟨rfl, Or.inr ⟨g, a, rfl, c⟩⟩
    · simp at q
      rw [q]
      exact ⟨rfl, Or.inl rfl⟩
  · rintro ⟨h1, h2 | ⟨g, a, b, c⟩⟩
    · right
      simp
      exact Prod.ext h1 h2
    · left
      refine ⟨g, a, Prod.ext h1 b, ?_⟩
      rw [← b]; exact c
theorem srt_raw {n : Nat} {K : Nat → Nat} {nj : Nat} {Js : Nat → JD} {kg : Nat} : ∀ {L : List (Nat × Nat)}, srtL L → srtL (L.flatMap (rawE n K nj Js kg false))
  | [], _ => List.Pairwise.nil
  | e :: L, h => by
    rw [List.flatMap_cons]
    have h1 := List.pairwise_cons.mp h
    refine List.pairwise_append.mpr ⟨?_, srt_raw h1.2, fun a ha b hb => ?_⟩
    · refine List.Pairwise.imp_of_mem ?_ (List.pairwise_of_forall (R := fun _ _ => True) (fun _ _ => trivial))
      intro a b ha hb _
      rw [(mem_rawE.mp ha).1, (mem_rawE.mp hb).1]
      exact Nat.le_refl _
    · rw [(mem_rawE.mp ha).1]
      obtain ⟨e2, he2, hb2⟩ := List.mem_flatMap.mp hb
      rw [(mem_rawE.mp hb2).1]
      exact h1.1 e2 he2
theorem pass_two {n : Nat} {K : Nat → Nat} {nj : Nat} {Js : Nat → JD} {kg : Nat} {L : List (Nat × Nat)} (h : srtL L) : srtL (passS n K nj Js kg false L) ∧ ∀ x b, (∃ e ∈ passS n K nj Js kg false L, e.2 = x ∧ e.1 ≤ b) ↔ ∃ e ∈ L, e.1 ≤ b ∧ genT n K nj Js kg e.2 x := by
  rw [passS, pass_raw]
  obtain ⟨a1, a2, a3⟩ := dedup (L.flatMap (rawE n K nj Js kg false)) [] (by rw [List.nil_append]; exact srt_raw h)
  refine ⟨a3, fun x b => ⟨?_, ?_⟩⟩
  · rintro ⟨e, he, rfl, hb⟩
    rcases a1 e he with q | q
    · cases q
    · obtain ⟨e2, h1, h2⟩ := List.mem_flatMap.mp q
      have h3 := mem_rawE.mp h2
      exact ⟨e2, h1, by rw [← h3.1]; exact hb, h3.2⟩
  · rintro ⟨e, he, hb, hg⟩
    obtain ⟨m0, b1, b2, b3⟩ := a2 (e.1, x) (Or.inr (List.mem_flatMap.mpr ⟨e, he, mem_rawE.mpr ⟨rfl, hg⟩⟩))
    exact ⟨m0, b1, b2, Nat.le_trans b3 hb⟩
def labA (n act : Nat) : Nat := if act = n then 4 else act
theorem srt_first {n : Nat} {K : Nat → Nat} {nj : Nat} {Js : Nat → JD} {kg p0 : Nat} : ∀ f, srtL (rawF n K nj Js kg p0 (fun f => f) f)
  | 0 => List.Pairwise.nil
  | f + 1 => by
    rw [rawF]
    refine List.pairwise_append.mpr ⟨srt_first f, ?_, fun a ha b hb => ?_⟩
    · split
      · exact List.pairwise_singleton _ _
      · exact List.Pairwise.nil
    · obtain ⟨g, g1, rfl, _⟩ := (mem_rawF f).mp ha
      split at hb
      · simp at hb
        rw [hb]
        show g ≤ f
        omega
      · cases hb
theorem pass_one1 {n : Nat} (h4 : n ≤ 4) {K : Nat → Nat} {nj : Nat} {Js : Nat → JD} {kg la : Nat} : srtL (passS n K nj Js kg true [(0, la)]) ∧ ∀ x b, (∃ e ∈ passS n K nj Js kg true [(0, la)], e.2 = x ∧ e.1 ≤ b) ↔ ∃ act, act ≤ n ∧ labA n act ≤ b ∧ x ∈ startT n K nj Js kg la act := by
  have hraw : [(0, la)].flatMap (rawE n K nj Js kg true) = rawF n K nj Js kg la (fun f => f) n ++ [(4, la)] := by
    rw [List.flatMap_cons, List.flatMap_nil, List.append_nil, rawE]; rfl
  rw [passS, pass_raw, hraw]
  obtain ⟨a1, a2, a3⟩ := dedup (rawF n K nj Js kg la (fun f => f) n ++ [(4, la)]) [] (by
    rw [List.nil_append]
    refine List.pairwise_append.mpr ⟨srt_first n, List.pairwise_singleton _ _, fun a ha b hb => ?_⟩
    obtain ⟨g, g1, rfl, _⟩ := (mem_rawF n).mp ha
    simp at hb
    rw [hb]
    show g ≤ 4
    omega)
  refine ⟨a3, fun x b => ⟨?_, ?_⟩⟩
  · rintro ⟨e, he, rfl, hb⟩
    rcases a1 e he with q | q
    · cases q
    · rcases List.mem_append.mp q with q | q
      · obtain ⟨g, g1, rfl, g3⟩ := (mem_rawF n).mp q
        refine ⟨g, by omega, by rw [labA, if_neg (by omega)]; exact hb, ?_⟩
        have ea : actT n kg la g = withP la g (dg kg g) := by rw [actT, if_neg (by omega)]
        rw [startT, ea, if_pos (Or.inr g3)]
        simp
      · simp at q
        refine ⟨n, Nat.le_refl n, by rw [labA, if_pos rfl, ← show e.1 = 4 by rw [q]]; exact hb, ?_⟩
        rw [startT, if_pos (Or.inl rfl), actT, if_pos rfl, q]
        simp
  · rintro ⟨act, h1, h2, h3⟩
    rw [startT] at h3
    split at h3
    · rename_i w
      simp at h3
      by_cases e : act = n
      · rw [actT, if_pos e] at h3
        rw [labA, if_pos e] at h2
        obtain ⟨m0, b1, b2, b3⟩ := a2 (4, la) (Or.inr (by simp))
        exact ⟨m0, b1, by rw [h3]; exact b2, Nat.le_trans b3 h2⟩
      · rw [actT, if_neg e] at h3 w
        rw [labA, if_neg e] at h2
        have w := w.resolve_left e
        obtain ⟨m0, b1, b2, b3⟩ := a2 (act, withP la act (dg kg act)) (Or.inr (List.mem_append.mpr (Or.inl ((mem_rawF n).mpr ⟨act, by omega, rfl, w⟩))))
        exact ⟨m0, b1, by rw [h3]; exact b2, Nat.le_trans b3 h2⟩
    · cases h3
