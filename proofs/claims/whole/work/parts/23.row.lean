/-! Row: at place k, its items at kI, N of them, n held -/
def RowAt (ws : List CE) (k kI N n : Nat) (f : Nat → Int32) : Prop := ws[k]? = some (oB 7 [.ref kI, .int (nI n)]) ∧ ws[kI]? = some (iA N f) ∧ n ≤ N ∧ N < 1000 ∧ k ≠ kI
theorem set_same {xs : List CE} {k : Nat} {a : CE} (h : xs[k]? = some a) : xs.set k a = xs := by
  apply List.ext_getElem?
  intro i
  rw [List.getElem?_set]
  by_cases e : k = i
  · subst e
    obtain ⟨h1, h2⟩ := List.getElem?_eq_some_iff.mp h
    simp [h1, h2]
  · simp [e]
/-- the places outside ks are as they were -/
def fr (ks : List Nat) (ws ws2 : List CE) : Prop := ws2.length = ws.length ∧ ∀ k, k ∉ ks → ws2[k]? = ws[k]?
theorem fr.rfl {ks : List Nat} {ws : List CE} : fr ks ws ws := ⟨by rfl, fun _ _ => by rfl⟩
theorem fr.set {ks : List Nat} {ws ws2 : List CE} {k : Nat} {e : CE} (h : fr ks ws ws2) (hk : k ∈ ks) : fr ks ws (ws2.set k e) := ⟨by rw [List.length_set]; exact h.1, fun j hj => by
  have hn : k ≠ j := fun q => hj (by rw [← q]; exact hk)
  rw [List.getElem?_set_ne hn]; exact h.2 j hj⟩
theorem fr.trans {ks : List Nat} {ws ws2 ws3 : List CE} (h : fr ks ws ws2) (h2 : fr ks ws2 ws3) : fr ks ws ws3 := ⟨h2.1.trans h.1, fun k hk => (h2.2 k hk).trans (h.2 k hk)⟩
theorem fr.mono {ks ks2 : List Nat} {ws ws2 : List CE} (h : fr ks ws ws2) (hs : ∀ k ∈ ks, k ∈ ks2) : fr ks2 ws ws2 := ⟨h.1, fun k hk => h.2 k (fun q => hk (hs k q))⟩
theorem fr.get {ks : List Nat} {ws ws2 : List CE} {k : Nat} {e : CE} (h : fr ks ws ws2) (hk : k ∉ ks) (he : ws[k]? = some e) : ws2[k]? = some e := (h.2 k hk).trans he
theorem gset {ws : List CE} {k : Nat} {e e2 : CE} (h : ws[k]? = some e) : (ws.set k e2)[k]? = some e2 := by
  rw [List.getElem?_set_self (List.getElem?_eq_some_iff.mp h).1]
theorem gne {ws : List CE} {k j : Nat} {e e2 : CE} (hj : k ≠ j) (h : ws[j]? = some e) : (ws.set k e2)[j]? = some e := by rw [List.getElem?_set_ne hj]; exact h
theorem LooksAt.fr {ks : List Nat} {ws ws2 : List CE} {n : Nat} {K : Nat → Nat} (h : LooksAt ws n K) (hf : fr ks ws ws2) (hk : ∀ k ∈ ks, 4 ≤ k ∧ k < 47) : LooksAt ws2 n K := by
  obtain ⟨h1, h2, xs, h3, h4, h5⟩ := h
  have nk : ∀ k, ¬ (4 ≤ k ∧ k < 47) → k ∉ ks := fun k q q2 => q (hk k q2)
  refine ⟨h1, hf.get (nk 1 (by omega)) h2, xs, hf.get (nk 2 (by omega)) h3, h4, fun j hj => ?_⟩
  obtain ⟨a, q, b, c, d⟩ := h5 j hj
  exact ⟨a, q, b, hf.get (nk q (by omega)) c, d⟩
theorem RowAt.fr {ks : List Nat} {ws ws2 : List CE} {k kI N n : Nat} {f : Nat → Int32} (h : RowAt ws k kI N n f) (hf : fr ks ws ws2) (h1 : k ∉ ks) (h2 : kI ∉ ks) : RowAt ws2 k kI N n f := ⟨hf.get h1 h.1, hf.get h2 h.2.1, h.2.2⟩
theorem t_Rsize (l : Launch) (G : GX) (ad : Nat → Nat) (ws : List CE) (k kI N n : Nat) (f : Nat → Int32) (hr : RowAt ws k kI N n f) : Ct l G yX7_size cX7_size 1 (some .int) 0 0 0 ad ws [.ref k] (pI ad (fun r ws2 => r = nI n ∧ ws2 = ws)) := by
  refine Ct.of [some (.ref k)] (by decide +kernel) (Nat.le_of_ble_eq_true rfl) rfl ?_
  intro p e s m args below meth c A X
  obtain ⟨h1, h2, h3, h4, h5⟩ := hr
  refine V_aload_n0 X dX7_size_0 ?_
  refine V_getf X dX7_size_1 fX7_9 (by assumption) (by rfl) ?_
  exact V_iret X dX7_size_4 ⟨rfl, rfl⟩
theorem t_RisFull (l : Launch) (G : GX) (ad : Nat → Nat) (ws : List CE) (k kI N n : Nat) (f : Nat → Int32) (hr : RowAt ws k kI N n f) : Ct l G yX7_isFull cX7_isFull 1 (some .boolean) 0 0 0 ad ws [.ref k] (pI ad (fun r ws2 => r = bI (decide (N ≤ n)) ∧ ws2 = ws)) := by
  refine Ct.of [some (.ref k)] (by decide +kernel) (Nat.le_of_ble_eq_true rfl) rfl ?_
  intro p e s m args below meth c A X
  obtain ⟨h1, h2, h3, h4, h5⟩ := hr
  refine V_aload_n0 X dX7_isFull_0 ?_
  refine V_getf X dX7_isFull_1 fX7_9 (by assumption) (by rfl) ?_
  refine V_aload_n0 X dX7_isFull_4 ?_
  refine V_getf X dX7_isFull_5 fX7_21 (by assumption) (by rfl) ?_
  refine V_alen X dX7_isFull_8 (by assumption) ?_
  refine V_icmp_lt X 16 dX7_isFull_9 (by decide) (fun h => ?_) (fun h => ?_)
  · have h9 : ¬ N ≤ n := by have := (nI_ltI (by omega) (by omega)).mp h; omega
    refine V_iconstE X (nI 0) dX7_isFull_16 (by decide +kernel) ?_
    exact V_zret X dX7_isFull_17 rfl ⟨by simp [bI, h9], rfl⟩
  · have h9 : N ≤ n := by rcases Nat.lt_or_ge n N with q | q; exact absurd ((nI_ltI (by omega) (by omega)).mpr q) h; exact q
    refine V_iconstE X (nI 1) dX7_isFull_12 (by decide +kernel) ?_
    refine V_goto X 17 dX7_isFull_13 (by decide) ?_
    exact V_zret X dX7_isFull_17 rfl ⟨by simp [bI, h9], rfl⟩
theorem t_Rhas (l : Launch) (G : GX) (ad : Nat → Nat) (ws : List CE) (k kI N n : Nat) (f : Nat → Int32) (hr : RowAt ws k kI N n f) (x : Int32) : Ct l G yX7_has cX7_has 2 (some .boolean) 0 0 0 ad ws [.ref k, .int x] (pI ad (fun r ws2 => r = bI (inR n x) ∧ ws2 = ws)) := by
  refine Ct.of [some (.ref k), some (.int x)] (by decide +kernel) (Nat.le_of_ble_eq_true rfl) rfl ?_
  intro p e s m args below meth c A X
  obtain ⟨h1, h2, h3, h4, h5⟩ := hr
  refine V_iload_n1 X dX7_has_0 ?_
  refine V_if_lt X 16 dX7_has_1 (by decide) (fun h => ?_) (fun h => ?_)
  · refine V_iconstE X (nI 0) dX7_has_16 (by decide +kernel) ?_
    exact V_zret X dX7_has_17 rfl ⟨by simp [bI, inR, h], rfl⟩
  · refine V_iload_n1 X dX7_has_4 ?_
    refine V_aload_n0 X dX7_has_5 ?_
    refine V_getf X dX7_has_6 fX7_9 (by assumption) (by rfl) ?_
    refine V_icmp_ge X 16 dX7_has_9 (by decide) (fun h2 => ?_) (fun h2 => ?_)
    · refine V_iconstE X (nI 0) dX7_has_16 (by decide +kernel) ?_
      exact V_zret X dX7_has_17 rfl ⟨by simp [bI, inR, h2], rfl⟩
    · refine V_iconstE X (nI 1) dX7_has_12 (by decide +kernel) ?_
      refine V_goto X 17 dX7_has_13 (by decide) ?_
      exact V_zret X dX7_has_17 rfl ⟨by simp [bI, inR, h, h2], rfl⟩
theorem inR_of {n : Nat} {x : Int32} (hn : n < 2147483648) (h : inR n x = true) : ∃ j, j < n ∧ x = nI j := by
  simp only [inR, Bool.and_eq_true, decide_eq_true_eq] at h
  rcases pk_ix x (n := n) (by omega) with h1 | h1 | h1
  · exact absurd h1 h.1
  · exact absurd h1 h.2
  · exact h1
theorem inR_nI {n j : Nat} (hn : n < 2147483648) (hj : j < 2147483648) : inR n (nI j) = decide (j < n) := by
  have h1 := nI_pos (n := j) (by omega)
  have h2 := nI_leI (a := n) (b := j) (by omega) (by omega)
  by_cases h : j < n
  · have : ¬ nI n ≤ nI j := fun q => absurd (h2.mp q) (by omega)
    simp [inR, h1, this, h]
  · have : nI n ≤ nI j := h2.mpr (by omega)
    simp [inR, this, h]
def getR (n : Nat) (f : Nat → Int32) (x : Int32) : Int32 := if inR n x then f x.toNatClampNeg else (-1)
theorem t_Rget (l : Launch) (G : GX) (ad : Nat → Nat) (ws : List CE) (k kI N n : Nat) (f : Nat → Int32) (hr : RowAt ws k kI N n f) (x : Int32) : Ct l G yX7_get cX7_get 2 (some .int) 1 0 0 ad ws [.ref k, .int x] (pI ad (fun r ws2 => r = getR n f x ∧ ws2 = ws)) := by
  refine Ct.of [some (.ref k), some (.int x)] (by decide +kernel) (Nat.le_of_ble_eq_true rfl) rfl ?_
  intro p e s m args below meth c A X
  have hr0 := hr
  obtain ⟨h1, h2, h3, h4, h5⟩ := hr
  refine V_aload_n0 X dX7_get_0 ?_
  refine V_iload_n1 X dX7_get_1 ?_
  refine V_cV1I X dX7_get_2 kX7_25 (t_Rhas l G ad ws k kI N n f hr0 x) (by assumption) (by rfl) (Nat.le_of_ble_eq_true rfl) ⟨⟨Nat.le_of_ble_eq_true rfl, Nat.le_of_ble_eq_true rfl⟩, Nat.le_of_ble_eq_true rfl, Nat.le_of_ble_eq_true rfl⟩ (fun r ws2 hc => ?_)
  obtain ⟨rfl, hw9⟩ := hc
  obtain rfl := hw9.symm
  refine V_if_eq X 17 dX7_get_5 (by decide) (fun h => ?_) (fun h => ?_)
  · refine V_iconstE X (-1) dX7_get_17 (by decide +kernel) ?_
    have h9 : inR n x = false := by
      cases hb : inR n x with
      | false => rfl
      | true => rw [hb] at h; exact absurd h (by decide +kernel)
    exact V_iret X dX7_get_18 ⟨by simp [getR, h9], rfl⟩
  · have h9 : inR n x = true := by
      cases hb : inR n x with
      | false => rw [hb] at h; exact absurd (show bI false = 0 by decide +kernel) h
      | true => rfl
    obtain ⟨j, hj, rfl⟩ := inR_of (by omega) h9
    refine V_aload_n0 X dX7_get_8 ?_
    refine V_getf X dX7_get_9 fX7_21 (by assumption) (by rfl) ?_
    refine V_iload_n1 X dX7_get_12 ?_
    refine V_iald X j dX7_get_13 (by assumption) rfl (by omega) (by omega) ?_
    refine V_goto X 18 dX7_get_14 (by decide) ?_
    exact V_iret X dX7_get_18 ⟨by rw [getR, h9, if_pos rfl, nI_clamp (by omega)], rfl⟩
theorem getR_nI {n j : Nat} {f : Nat → Int32} (hn : n < 1000) (h : j < n) : getR n f (nI j) = f j := by
  rw [getR, inR_nI (by omega) (by omega), decide_eq_true h, if_pos rfl, nI_clamp (by omega)]
theorem t_Rlast (l : Launch) (G : GX) (ad : Nat → Nat) (ws : List CE) (k kI N n : Nat) (f : Nat → Int32) (hr : RowAt ws k kI N n f) (hn : 0 < n) : Ct l G yX7_last cX7_last 1 (some .int) 2 0 0 ad ws [.ref k] (pI ad (fun r ws2 => r = f (n - 1) ∧ ws2 = ws)) := by
  refine Ct.of [some (.ref k)] (by decide +kernel) (Nat.le_of_ble_eq_true rfl) rfl ?_
  intro p e s m args below meth c A X
  have hr0 := hr
  obtain ⟨h1, h2, h3, h4, h5⟩ := hr
  refine V_aload_n0 X dX7_last_0 ?_
  refine V_aload_n0 X dX7_last_1 ?_
  refine V_getf X dX7_last_2 fX7_9 (by assumption) (by rfl) ?_
  refine V_iconstE X (nI 1) dX7_last_5 (by decide +kernel) ?_
  refine V_isub X dX7_last_6 ?_
  rw [pk_sub (by omega)]
  refine V_cV1I X dX7_last_7 kX7_29 (t_Rget l G ad ws k kI N n f hr0 _) (by assumption) (by rfl) (Nat.le_of_ble_eq_true rfl) ⟨⟨Nat.le_of_ble_eq_true rfl, Nat.le_of_ble_eq_true rfl⟩, Nat.le_of_ble_eq_true rfl, Nat.le_of_ble_eq_true rfl⟩ (fun r ws2 hc => ?_)
  obtain ⟨rfl, hw9⟩ := hc
  obtain rfl := hw9.symm
  exact V_iret X dX7_last_10 ⟨getR_nI (by omega) (by omega), rfl⟩
theorem t_Radd (l : Launch) (G : GX) (ad : Nat → Nat) (ws : List CE) (k kI N n : Nat) (f : Nat → Int32) (hr : RowAt ws k kI N n f) (hn : n < N) (x : Int32) : Ct l G yX7_add cX7_add 2 none 1 0 0 ad ws [.ref k, .int x] (pV ad (fun ws2 => ws2 = (ws.set kI (iA N (upd f n x))).set k (oB 7 [.ref kI, .int (nI (n + 1))]))) := by
  refine Ct.of [some (.ref k), some (.int x)] (by decide +kernel) (Nat.le_of_ble_eq_true rfl) rfl ?_
  intro p e s m args below meth c A X
  have hr0 := hr
  obtain ⟨h1, h2, h3, h4, h5⟩ := hr
  refine V_aload_n0 X dX7_add_0 ?_
  refine V_cV0I X dX7_add_1 kX7_33 (t_RisFull l G ad ws k kI N n f hr0) (by assumption) (by rfl) (Nat.le_of_ble_eq_true rfl) ⟨⟨Nat.le_of_ble_eq_true rfl, Nat.le_of_ble_eq_true rfl⟩, Nat.le_of_ble_eq_true rfl, Nat.le_of_ble_eq_true rfl⟩ (fun r ws2 hc => ?_)
  obtain ⟨rfl, hw9⟩ := hc
  obtain rfl := hw9.symm
  refine V_if_ne X 27 dX7_add_4 (by decide) (fun h => ?_) (fun h => ?_)
  · exact absurd (by rw [decide_eq_false (by omega)]; decide +kernel) h
  · refine V_aload_n0 X dX7_add_7 ?_
    refine V_getf X dX7_add_8 fX7_21 (by assumption) (by rfl) ?_
    refine V_aload_n0 X dX7_add_11 ?_
    refine V_getf X dX7_add_12 fX7_9 (by assumption) (by rfl) ?_
    refine V_iload_n1 X dX7_add_15 ?_
    refine V_iast X n dX7_add_16 (by assumption) rfl hn (by omega) ?_
    have h6 : (ws.set kI (iA N (upd f n x)))[k]? = some (oB 7 [.ref kI, .int (nI n)]) := by rw [List.getElem?_set_ne (Ne.symm h5)]; exact h1
    refine V_aload_n0 X dX7_add_17 ?_
    refine V_dup X dX7_add_18 rfl ?_
    refine V_getf X dX7_add_19 fX7_9 (by assumption) (by rfl) ?_
    refine V_iconstE X (nI 1) dX7_add_22 (by decide +kernel) ?_
    refine V_iadd X dX7_add_23 ?_
    rw [nI_add]
    refine V_putf X dX7_add_24 fX7_9 (by assumption) (Nat.le_of_ble_eq_true rfl) rfl rfl ?_
    exact V_vret X dX7_add_27 rfl
theorem t_Rcut (l : Launch) (G : GX) (ad : Nat → Nat) (ws : List CE) (k kI N n : Nat) (f : Nat → Int32) (hr : RowAt ws k kI N n f) (j : Nat) (hj : j ≤ n) : Ct l G yX7_cut cX7_cut 2 none 0 0 0 ad ws [.ref k, .int (nI j)] (pV ad (fun ws2 => ws2 = ws.set k (oB 7 [.ref kI, .int (nI j)]))) := by
  refine Ct.of [some (.ref k), some (.int (nI j))] (by decide +kernel) (Nat.le_of_ble_eq_true rfl) rfl ?_
  intro p e s m args below meth c A X
  obtain ⟨h1, h2, h3, h4, h5⟩ := hr
  refine V_iload_n1 X dX7_cut_0 ?_
  refine V_if_lt X 17 dX7_cut_1 (by decide) (fun h => ?_) (fun h => ?_)
  · exact absurd h (nI_pos (by omega))
  · refine V_iload_n1 X dX7_cut_4 ?_
    refine V_aload_n0 X dX7_cut_5 ?_
    refine V_getf X dX7_cut_6 fX7_9 (by assumption) (by rfl) ?_
    refine V_icmp_ge X 17 dX7_cut_9 (by decide) (fun h6 => ?_) (fun h6 => ?_)
    · have e9 : j = n := by have := (nI_leI (by omega) (by omega)).mp h6; omega
      subst e9
      exact V_vret X dX7_cut_17 (set_same h1).symm
    · refine V_aload_n0 X dX7_cut_12 ?_
      refine V_iload_n1 X dX7_cut_13 ?_
      refine V_putf X dX7_cut_14 fX7_9 (by assumption) (Nat.le_of_ble_eq_true rfl) rfl rfl ?_
      exact V_vret X dX7_cut_17 rfl
