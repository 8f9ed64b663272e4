/-! both ways of seeking the order that costs least are one -/
def costL (g : Nat → Nat → Nat) : List Nat → Nat
  | [] => 0
  | a :: t => match t with
    | [] => 0
    | b :: _ => g a b + costL g t
theorem costL_snoc (g : Nat → Nat → Nat) : ∀ (pre : List Nat) (x : Nat), costL g (pre ++ [x]) = costL g pre + moreT g pre x
  | [], x => rfl
  | [a], x => by simp [costL, moreT]
  | a :: b :: t, x => by
    have ih := costL_snoc g (b :: t) x
    rw [List.cons_append, List.cons_append, costL, ← List.cons_append, ih, costL]
    have : moreT g (a :: b :: t) x = moreT g (b :: t) x := by rw [moreT, moreT, List.getLast?_cons_cons]
    rw [this]
    omega
def leafL (sz : Nat) : Nat → List Nat → List (List Nat)
  | 0, pre => [pre]
  | k + 1, pre => (List.range sz).flatMap (fun x => if pre.contains x then [] else leafL sz k (pre ++ [x]))
def betP (g : Nat → Nat → Nat) (q : Nat × List Nat) (p0 : List Nat) : Nat × List Nat := if costL g p0 < q.1 then (costL g p0, p0) else q
theorem leaf_all (sz : Nat) : ∀ (k : Nat) (pre p0 : List Nat), p0 ∈ leafL sz k pre → ∃ ext, p0 = pre ++ ext ∧ ext.length = k
  | 0, pre, p0, h => by
    rw [leafL] at h
    simp at h
    exact ⟨[], by simp [h], rfl⟩
  | k + 1, pre, p0, h => by
    rw [leafL, List.mem_flatMap] at h
    obtain ⟨x, hx, h⟩ := h
    split at h
    · cases h
    · obtain ⟨ext, e1, e2⟩ := leaf_all sz k _ _ h
      exact ⟨x :: ext, by rw [e1, List.append_assoc]; rfl, by rw [List.length_cons, e2]⟩
theorem cost_app (g : Nat → Nat → Nat) (pre : List Nat) : ∀ (k : Nat) (ext : List Nat), ext.length = k → costL g pre ≤ costL g (pre ++ ext)
  | 0, ext, h => by
    rw [List.length_eq_zero_iff.mp h, List.append_nil]; exact Nat.le_refl _
  | k + 1, ext, h => by
    have hne : ext ≠ [] := fun q => by rw [q] at h; cases h
    obtain ⟨e1, x, rfl⟩ : ∃ e1 x, ext = e1 ++ [x] := ⟨ext.dropLast, ext.getLast hne, (List.dropLast_concat_getLast hne).symm⟩
    have ih := cost_app g pre k e1 (by simp at h; omega)
    rw [← List.append_assoc, costL_snoc]
    omega
theorem fold_no {g : Nat → Nat → Nat} {q : Nat × List Nat} : ∀ {ps : List (List Nat)}, (∀ p0 ∈ ps, q.1 ≤ costL g p0) → ps.foldl (betP g) q = q
  | [], _ => rfl
  | p0 :: ps, h => by
    rw [List.foldl_cons, betP, if_neg (by have := h p0 (List.mem_cons_self ..); omega)]
    exact fold_no (fun p1 h1 => h p1 (List.mem_cons_of_mem _ h1))
theorem try_leaf (sz : Nat) (g : Nat → Nat → Nat) : ∀ (k : Nat) (pre : List Nat) (q : Nat × List Nat), tryP sz g k pre (costL g pre) q = (leafL sz k pre).foldl (betP g) q
  | 0, pre, q => by
    rw [tryP, leafL, List.foldl_cons, List.foldl_nil, betP]
    by_cases h : q.1 ≤ costL g pre
    · rw [if_pos h, if_neg (by omega)]
    · rw [if_neg h, if_pos (by omega)]
  | k + 1, pre, q => by
    rw [tryP]
    by_cases h : q.1 ≤ costL g pre
    · rw [if_pos h]
      symm
      refine fold_no (fun p0 h0 => ?_)
      obtain ⟨ext, rfl, e2⟩ := leaf_all sz _ _ _ h0
      have := cost_app g pre _ ext e2
      omega
    · rw [if_neg h, leafL]
      have key : ∀ (xs : List Nat) (q : Nat × List Nat), xs.foldl (fun q x => if pre.contains x then q else tryP sz g k (pre ++ [x]) (costL g pre + moreT g pre x) q) q = (xs.flatMap (fun x => if pre.contains x then [] else leafL sz k (pre ++ [x]))).foldl (betP g) q := by
        intro xs
        induction xs with
        | nil => intro q; rfl
        | cons x xs ih =>
          intro q
          rw [List.foldl_cons, List.flatMap_cons, List.foldl_append, ih]
          congr 1
          by_cases e : pre.contains x = true
          · rw [if_pos e, if_pos e]; rfl
          · rw [if_neg e, if_neg e, ← costL_snoc]
            exact try_leaf sz g k (pre ++ [x]) q
      exact key _ q
def seqL (hn : Nat) : Nat → List Nat → List (List Nat)
  | 0, _ => []
  | k + 1, R => R :: (match nextL hn R with
    | none => []
    | some R2 => seqL hn k R2)
theorem lay_seq (g : Nat → Nat → Nat) (hn : Nat) : ∀ (k : Nat) (q : Nat × List Nat) (R : List Nat), layL g hn k q R = (seqL hn k R).foldl (betL g hn) q
  | 0, q, R => rfl
  | k + 1, q, R => by
    rw [layL, seqL, List.foldl_cons]
    cases hs : nextL hn R with
    | none => rfl
    | some R2 => exact lay_seq g hn k _ R2
theorem seq6 : ∀ hn, hn < 7 → seqL hn 720 id6 = (leafL hn hn []).map (fun p0 => p0 ++ id6.drop hn) := by decide +kernel
