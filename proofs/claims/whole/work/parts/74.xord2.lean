/-! both orders are one -/
theorem getD_app1 {e t : List Nat} {k : Nat} (h : k < e.length) : (e ++ t).getD k 0 = e.getD k 0 := by
  rw [List.getD_eq_getElem?_getD, List.getD_eq_getElem?_getD, List.getElem?_append_left h]
theorem cost_sum (g : Nat → Nat → Nat) : ∀ (k : Nat) (p0 : List Nat), p0.length = k → costL g p0 = sumF (fun i => g (p0.getD i 0) (p0.getD (i + 1) 0)) (k - 1)
  | 0, p0, h => by rw [List.length_eq_zero_iff.mp h]; rfl
  | k + 1, p0, h => by
    have hne : p0 ≠ [] := fun q => by rw [q] at h; cases h
    obtain ⟨e1, x, rfl⟩ : ∃ e1 x, p0 = e1 ++ [x] := ⟨p0.dropLast, p0.getLast hne, (List.dropLast_concat_getLast hne).symm⟩
    have hl : e1.length = k := by simp at h; omega
    have ih := cost_sum g k e1 hl
    rw [costL_snoc, ih]
    cases k with
    | zero =>
      rw [List.length_eq_zero_iff.mp hl]; rfl
    | succ j =>
      show sumF _ j + _ = sumF _ (j + 1)
      rw [sumF]
      congr 1
      · exact sumF_congr j (fun i hi => by rw [getD_app1 (by omega), getD_app1 (by omega)])
      · have h1 : e1.getLast? = some (e1.getD j 0) := by
          rw [List.getLast?_eq_getElem?, hl, Nat.add_sub_cancel, List.getD_eq_getElem?_getD, List.getElem?_eq_getElem (by omega)]; rfl
        have h2 : (e1 ++ [x]).getD (j + 1) 0 = x := by
          rw [List.getD_eq_getElem?_getD, List.getElem?_append_right (by omega), hl, Nat.sub_self]; rfl
        rw [moreT, h1, getD_app1 (by omega), h2]
theorem sum_cost {g : Nat → Nat → Nat} {hn : Nat} {p0 t : List Nat} (h : p0.length = hn) : sumR g hn (p0 ++ t) = costL g p0 := by
  rw [sumR, cost_sum g hn p0 h]
  exact sumF_congr _ (fun i hi => by rw [getD_app1 (by omega), getD_app1 (by omega)])
theorem fold_rel {g : Nat → Nat → Nat} {hn : Nat} {t : List Nat} : ∀ (ps : List (List Nat)) (q1 q2 : Nat × List Nat), q1.1 = q2.1 → q1.2 = q2.2 ++ t → q2.2.length = hn → (∀ p0 ∈ ps, p0.length = hn) → ((ps.map (fun p0 => p0 ++ t)).foldl (betL g hn) q1).1 = (ps.foldl (betP g) q2).1 ∧ ((ps.map (fun p0 => p0 ++ t)).foldl (betL g hn) q1).2 = (ps.foldl (betP g) q2).2 ++ t ∧ (ps.foldl (betP g) q2).2.length = hn
  | [], q1, q2, h1, h2, h3, _ => ⟨h1, h2, h3⟩
  | p0 :: ps, q1, q2, h1, h2, h3, h4 => by
    have hp := h4 p0 (List.mem_cons_self ..)
    have h5 := fun p1 (h : p1 ∈ ps) => h4 p1 (List.mem_cons_of_mem _ h)
    rw [List.map_cons, List.foldl_cons, List.foldl_cons]
    by_cases c1 : costL g p0 < q2.1
    · have e1 : betL g hn q1 (p0 ++ t) = (costL g p0, p0 ++ t) := by rw [betL, sum_cost hp, if_pos (by omega)]
      have e2 : betP g q2 p0 = (costL g p0, p0) := by rw [betP, if_pos c1]
      rw [e1, e2]
      exact fold_rel ps _ _ rfl rfl hp h5
    · have e1 : betL g hn q1 (p0 ++ t) = q1 := by rw [betL, sum_cost hp, if_neg (by omega)]
      have e2 : betP g q2 p0 = q2 := by rw [betP, if_neg c1]
      rw [e1, e2]
      exact fold_rel ps q1 q2 h1 h2 h3 h5
theorem leaf_ne : ∀ hn, hn < 7 → leafL hn hn [] ≠ [] := by decide +kernel
theorem order_one {n : Nat} (h4 : n ≤ 4) (K : Nat → Nat) {hn : Nat} (h6 : hn ≤ 6) (U : Nat → Nat) : (orderM n K hn U).1 = (bestT n K hn U).1 ∧ (orderM n K hn U).2 = (bestT n K hn U).2 ++ id6.drop hn ∧ (bestT n K hn U).2.length = hn := by
  rw [orderM, lay_seq, seq6 hn (by omega)]
  have hb : bestT n K hn U = (leafL hn hn []).foldl (betP (gU n K U)) (217, []) := by
    rw [bestT, ← try_leaf]; rfl
  rw [hb]
  have hall : ∀ p0 ∈ leafL hn hn [], p0.length = hn := fun p0 h => by
    obtain ⟨ext, e1, e2⟩ := leaf_all hn hn [] p0 h
    rw [e1, List.nil_append, e2]
  have hne := leaf_ne hn (by omega)
  cases hl : leafL hn hn [] with
  | nil => exact absurd hl hne
  | cons p0 ps =>
    rw [hl] at hall
    have hp := hall p0 (List.mem_cons_self ..)
    have hc : costL (gU n K U) p0 ≤ 5 * 36 := by
      rw [cost_sum _ hn p0 hp]
      have h1 := sumF_le (g := fun i => gU n K U (p0.getD i 0) (p0.getD (i + 1) 0)) (b := 36) (hn - 1) (fun f _ => by
        have := gapP_le n K (U (p0.getD f 0)) (U (p0.getD (f + 1) 0))
        show gapP n K (U (p0.getD f 0)) (U (p0.getD (f + 1) 0)) ≤ 36
        omega)
      have h2 : (hn - 1) * 36 ≤ 5 * 36 := Nat.mul_le_mul_right _ (by omega)
      omega
    rw [List.map_cons, List.foldl_cons, List.foldl_cons]
    have e1 : betL (gU n K U) hn (1000000, []) (p0 ++ id6.drop hn) = (costL (gU n K U) p0, p0 ++ id6.drop hn) := by rw [betL, sum_cost hp, if_pos (by show costL (gU n K U) p0 < 1000000; omega)]
    have e2 : betP (gU n K U) (217, []) p0 = (costL (gU n K U) p0, p0) := by rw [betP, if_pos (by show costL (gU n K U) p0 < 217; omega)]
    rw [e1, e2]
    exact fold_rel ps _ _ rfl rfl hp (fun p1 h => hall p1 (List.mem_cons_of_mem _ h))
theorem place_one {n : Nat} (h4 : n ≤ 4) (K : Nat → Nat) {hn : Nat} (h6 : hn ≤ 6) (U : Nat → Nat) {t : Nat} (h1 : 10 ≤ t) (h2 : t < 16) : tellO n K hn U t = placeI hn (bestT n K hn U).2 (nI (t - 10)) := by
  obtain ⟨_, e2, e3⟩ := order_one h4 K h6 U
  rw [tellO, if_neg (by omega), placeI, inR_nI (by omega) (by omega)]
  by_cases q : t - 10 < hn
  · rw [if_pos q, decide_eq_true q, if_pos rfl, e2, getD_app1 (by omega), nI_clamp (by omega)]
  · rw [if_neg q, decide_eq_false q]; rfl
theorem ordr_one {n : Nat} (h4 : n ≤ 4) (K : Nat → Nat) (mm : Nat) {hn : Nat} (h6 : hn ≤ 6) (U : Nat → Nat) (x : Int32) : R_order n K mm hn U x = r_order n K mm hn U x := by
  rw [R_order, r_order]
  by_cases hm : mm = 0
  · rw [if_pos hm, if_pos hm]
  · rw [if_neg hm, if_neg hm]
    by_cases hc : (decide (x = 0) || (decide (¬ x < nI 10) && decide (x < nI 16))) = true
    · rw [if_pos hc, if_pos hc]
      by_cases h0 : x = 0
      · rw [if_pos h0, h0, tellO, if_pos (by decide +kernel), (order_one h4 K h6 U).1]
      · rw [if_neg h0]
        rw [decide_eq_false h0, Bool.false_or] at hc
        have e7 : inR 16 x = true := by
          rw [inR_int (by decide)]
          simp only [Bool.and_eq_true, decide_eq_true_eq, Int32.lt_iff_toInt_lt, nI_toInt (show 10 < 2 ^ 31 by decide), nI_toInt (show 16 < 2 ^ 31 by decide)] at hc
          exact decide_eq_true (by omega)
        obtain ⟨t, ht, rfl⟩ := inR_of (by decide) e7
        have h10 : 10 ≤ t := by
          have := of_decide_eq_true (Bool.and_eq_true _ _ ▸ hc).1
          exact c_nlt this
        rw [valI_nI (by omega), place_one h4 K h6 U h10 ht]
        congr 1
        have h1 : nI (t - 10) + nI 10 = nI t := by rw [nI_add, Nat.sub_add_cancel h10]
        generalize nI (t - 10) = a at *
        generalize nI t = b at *
        generalize nI 10 = c at *
        grind
    · rw [if_neg hc, if_neg hc]
theorem find_one {n : Nat} (h4 : n ≤ 4) (K : Nat → Nat) (kg mm : Nat) (hm : 0 < mm) (Ln : Nat → Nat) (hL : Ln 0 < 10 ^ n) (nj : Nat) (Js : Nat → JD) (pn : Nat) (Pe : Nat → Nat) {hn : Nat} (h6 : hn ≤ 6) (U : Nat → Nat) (h : Int64) : R_find n K kg mm Ln nj Js pn Pe hn U h = findH n K kg mm Ln nj Js pn Pe hn U h := by
  rw [R_find, findH, strict_one h4, within_one h4, slips_one h4 hL]
  have e0 : tellO n K hn U 0 = nI (bestT n K hn U).1 := by rw [tellO, if_pos rfl, (order_one h4 K h6 U).1]
  have er : ∀ H, rowH H (fun i => tellO n K hn U (10 + i)) 6 = rowH H (fun i => placeI hn (bestT n K hn U).2 (nI i)) 6 := fun H => rowH_congr (fun i hi => by rw [place_one h4 K h6 U (by omega) (by omega), Nat.add_sub_cancel_left])
  rw [e0, er]
theorem dig_one {n : Nat} (h4 : n ≤ 4) (K : Nat → Nat) (kg mm : Nat) (Ln : Nat → Nat) (hL : 0 < mm → Ln 0 < 10 ^ n) (np : Nat) (pg : Nat → Nat) (nj : Nat) (Js : Nat → JD) (pn : Nat) (Pe : Nat → Nat) {hn : Nat} (h6 : hn ≤ 6) (U : Nat → Nat) (tr : Nat) : R_dig n K kg mm Ln np pg nj Js pn Pe hn U tr = digH n K kg mm Ln np pg nj Js pn Pe hn U tr := by
  unfold R_dig digH
  simp only
  by_cases hm : mm = 0
  · rw [if_pos hm, if_pos hm]
  · rw [if_neg hm, if_neg hm, find_one h4 K kg mm (by omega) Ln (hL (by omega)) nj Js pn Pe h6 U]
