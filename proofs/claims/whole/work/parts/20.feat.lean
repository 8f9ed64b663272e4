/-! the JDK's small methods -/
def absI (x : Int32) : Int32 := if 0 ≤ x then x else -x
def fmI (x z : Int32) : Int32 := if 0 ≤ x ^^^ z then x - x / z * z else if x - x / z * z = 0 then x - x / z * z else x - x / z * z + z
def bI (b : Bool) : Int32 := if b then nI 1 else nI 0
theorem t_abs (l : Launch) (G : GX) (ad : Nat → Nat) (ws : List CE) (x : Int32) : Ct l G yJ9_abs_0f7a4 cJ9_abs_0f7a4 1 (some .int) 0 0 0 ad ws [.int x] (pI ad (fun r ws2 => r = absI x ∧ ws2 = ws)) := by
  refine Ct.of [some (.int x)] (by decide +kernel) (Nat.le_of_ble_eq_true rfl) rfl ?_
  intro p e s m args below meth c A X
  refine V_iload_n0 X dJ9_abs_0f7a4_0 ?_
  refine V_if_ge X 9 dJ9_abs_0f7a4_1 (by decide) (fun h => ?_) (fun h => ?_)
  · refine V_iload_n0 X dJ9_abs_0f7a4_9 ?_
    exact V_iret X dJ9_abs_0f7a4_10 ⟨by simp [absI, h], rfl⟩
  · refine V_iload_n0 X dJ9_abs_0f7a4_4 ?_
    refine V_ineg X dJ9_abs_0f7a4_5 ?_
    refine V_goto X 10 dJ9_abs_0f7a4_6 (by decide) ?_
    exact V_iret X dJ9_abs_0f7a4_10 ⟨by simp [absI, h], rfl⟩
theorem t_max (l : Launch) (G : GX) (ad : Nat → Nat) (ws : List CE) (x z : Int32) : Ct l G yJ9_max_7cf53 cJ9_max_7cf53 2 (some .int) 0 0 0 ad ws [.int x, .int z] (pI ad (fun r ws2 => r = (if x < z then z else x) ∧ ws2 = ws)) := by
  refine Ct.of [some (.int x), some (.int z)] (by decide +kernel) (Nat.le_of_ble_eq_true rfl) rfl ?_
  intro p e s m args below meth c A X
  refine V_iload_n0 X dJ9_max_7cf53_0 ?_
  refine V_iload_n1 X dJ9_max_7cf53_1 ?_
  refine V_icmp_lt X 9 dJ9_max_7cf53_2 (by decide) (fun h => ?_) (fun h => ?_)
  · refine V_iload_n1 X dJ9_max_7cf53_9 ?_
    exact V_iret X dJ9_max_7cf53_10 ⟨by simp [h], rfl⟩
  · refine V_iload_n0 X dJ9_max_7cf53_5 ?_
    refine V_goto X 10 dJ9_max_7cf53_6 (by decide) ?_
    exact V_iret X dJ9_max_7cf53_10 ⟨by simp [h], rfl⟩
theorem t_min (l : Launch) (G : GX) (ad : Nat → Nat) (ws : List CE) (x z : Int32) : Ct l G yJ9_min_7cf53 cJ9_min_7cf53 2 (some .int) 0 0 0 ad ws [.int x, .int z] (pI ad (fun r ws2 => r = (if z < x then z else x) ∧ ws2 = ws)) := by
  refine Ct.of [some (.int x), some (.int z)] (by decide +kernel) (Nat.le_of_ble_eq_true rfl) rfl ?_
  intro p e s m args below meth c A X
  refine V_iload_n0 X dJ9_min_7cf53_0 ?_
  refine V_iload_n1 X dJ9_min_7cf53_1 ?_
  refine V_icmp_gt X 9 dJ9_min_7cf53_2 (by decide) (fun h => ?_) (fun h => ?_)
  · refine V_iload_n1 X dJ9_min_7cf53_9 ?_
    exact V_iret X dJ9_min_7cf53_10 ⟨by simp [h], rfl⟩
  · refine V_iload_n0 X dJ9_min_7cf53_5 ?_
    refine V_goto X 10 dJ9_min_7cf53_6 (by decide) ?_
    exact V_iret X dJ9_min_7cf53_10 ⟨by simp [h], rfl⟩
theorem t_fm (l : Launch) (G : GX) (ad : Nat → Nat) (ws : List CE) (x z : Int32) (hz : ¬ z = 0) : Ct l G yJ9_floorMod_7cf53 cJ9_floorMod_7cf53 3 (some .int) 0 0 0 ad ws [.int x, .int z] (pI ad (fun r ws2 => r = fmI x z ∧ ws2 = ws)) := by
  refine Ct.of [some (.int x), some (.int z), none] (by decide +kernel) (Nat.le_of_ble_eq_true rfl) rfl ?_
  intro p e s m args below meth c A X
  refine V_iload_n0 X dJ9_floorMod_7cf53_0 ?_
  refine V_iload_n1 X dJ9_floorMod_7cf53_1 ?_
  refine V_irem X dJ9_floorMod_7cf53_2 hz ?_
  refine V_istore_n2 X dJ9_floorMod_7cf53_3 (Nat.le_of_ble_eq_true rfl) rfl ?_
  refine V_iload_n0 X dJ9_floorMod_7cf53_4 ?_
  refine V_iload_n1 X dJ9_floorMod_7cf53_5 ?_
  refine V_ixor X dJ9_floorMod_7cf53_6 ?_
  refine V_if_ge X 18 dJ9_floorMod_7cf53_7 (by decide) (fun h => ?_) (fun h => ?_)
  · refine V_iload_n2 X dJ9_floorMod_7cf53_18 ?_
    exact V_iret X dJ9_floorMod_7cf53_19 ⟨by simp only [fmI, if_pos h], rfl⟩
  · refine V_iload_n2 X dJ9_floorMod_7cf53_10 ?_
    refine V_if_eq X 18 dJ9_floorMod_7cf53_11 (by decide) (fun h2 => ?_) (fun h2 => ?_)
    · refine V_iload_n2 X dJ9_floorMod_7cf53_18 ?_
      exact V_iret X dJ9_floorMod_7cf53_19 ⟨by simp only [fmI, if_neg h, if_pos h2], rfl⟩
    · refine V_iload_n2 X dJ9_floorMod_7cf53_14 ?_
      refine V_iload_n1 X dJ9_floorMod_7cf53_15 ?_
      refine V_iadd X dJ9_floorMod_7cf53_16 ?_
      exact V_iret X dJ9_floorMod_7cf53_17 ⟨by simp only [fmI, if_neg h, if_neg h2], rfl⟩
/-! finite facts -/
theorem f_abs : ∀ a, a < 10 → ∀ b, b < 10 → absI (nI a - nI b) = nI (dist a b) := by decide +kernel
theorem f_beard : ∀ d, d < 10 → (if nI 10 - nI d < nI d then nI 10 - nI d else nI d) = nI (min d (10 - d)) := by decide +kernel
theorem f_hair : ∀ a, a < 10 → (if nI 0 < nI a - nI 1 then nI a - nI 1 else nI 0) = nI (a - 1) := by decide +kernel
theorem f_fm1 : ∀ a, a < 10 → fmI (nI a + nI 1) (nI 10) = nI ((a + 1) % 10) := by decide +kernel
theorem f_fm9 : ∀ a, a < 10 → fmI (nI a + (-1)) (nI 10) = nI ((a + 9) % 10) := by decide +kernel
def byI (up : Bool) : Int32 := if up then nI 1 else (-1)
def optI (o : Option Nat) : Int32 := match o with
  | none => (-1)
  | some v => nI v
theorem f_slip : ∀ a, a < 10 → ∀ up : Bool, (nI a + byI up < 0 → optI (slipK 0 a up) = -1) ∧ (¬ nI a + byI up < 0 → nI a + byI up ≤ nI 9 → optI (slipK 0 a up) = nI a + byI up) ∧ (¬ nI a + byI up ≤ nI 9 → optI (slipK 0 a up) = -1) := by decide +kernel
theorem f_slip3 : ∀ a, a < 10 → ∀ up : Bool, fmI (nI a + byI up) (nI 10) = optI (slipK 3 a up) := by decide +kernel
/-! the kinds -/
theorem t_kind4 (l : Launch) (G : GX) (ad : Nat → Nat) (ws : List CE) (k : Nat) : Ct l G yX4_kind cX4_kind 1 (some .int) 0 0 0 ad ws [.ref k] (pI ad (fun r ws2 => r = nI 0 ∧ ws2 = ws)) := by
  refine Ct.of [some (.ref k)] (by decide +kernel) (Nat.le_of_ble_eq_true rfl) rfl ?_
  intro p e s m args below meth c A X
  refine V_iconstE X (nI 0) dX4_kind_0 (by decide +kernel) ?_
  exact V_iret X dX4_kind_1 ⟨rfl, rfl⟩
theorem t_kind5 (l : Launch) (G : GX) (ad : Nat → Nat) (ws : List CE) (k : Nat) : Ct l G yX5_kind cX5_kind 1 (some .int) 0 0 0 ad ws [.ref k] (pI ad (fun r ws2 => r = nI 1 ∧ ws2 = ws)) := by
  refine Ct.of [some (.ref k)] (by decide +kernel) (Nat.le_of_ble_eq_true rfl) rfl ?_
  intro p e s m args below meth c A X
  refine V_iconstE X (nI 1) dX5_kind_0 (by decide +kernel) ?_
  exact V_iret X dX5_kind_1 ⟨rfl, rfl⟩
theorem t_kind8 (l : Launch) (G : GX) (ad : Nat → Nat) (ws : List CE) (k : Nat) : Ct l G yX8_kind cX8_kind 1 (some .int) 0 0 0 ad ws [.ref k] (pI ad (fun r ws2 => r = nI 2 ∧ ws2 = ws)) := by
  refine Ct.of [some (.ref k)] (by decide +kernel) (Nat.le_of_ble_eq_true rfl) rfl ?_
  intro p e s m args below meth c A X
  refine V_iconstE X (nI 2) dX8_kind_0 (by decide +kernel) ?_
  exact V_iret X dX8_kind_1 ⟨rfl, rfl⟩
theorem t_kind0 (l : Launch) (G : GX) (ad : Nat → Nat) (ws : List CE) (k : Nat) : Ct l G yX0_kind cX0_kind 1 (some .int) 0 0 0 ad ws [.ref k] (pI ad (fun r ws2 => r = nI 3 ∧ ws2 = ws)) := by
  refine Ct.of [some (.ref k)] (by decide +kernel) (Nat.le_of_ble_eq_true rfl) rfl ?_
  intro p e s m args below meth c A X
  refine V_iconstE X (nI 3) dX0_kind_0 (by decide +kernel) ?_
  exact V_iret X dX0_kind_1 ⟨rfl, rfl⟩
theorem t_kind3 (l : Launch) (G : GX) (ad : Nat → Nat) (ws : List CE) (k : Nat) : Ct l G yX3_kind cX3_kind 1 (some .int) 0 0 0 ad ws [.ref k] (pI ad (fun r ws2 => r = nI 4 ∧ ws2 = ws)) := by
  refine Ct.of [some (.ref k)] (by decide +kernel) (Nat.le_of_ble_eq_true rfl) rfl ?_
  intro p e s m args below meth c A X
  refine V_iconstE X (nI 4) dX3_kind_0 (by decide +kernel) ?_
  exact V_iret X dX3_kind_1 ⟨rfl, rfl⟩
theorem t_aged4 (l : Launch) (G : GX) (ad : Nat → Nat) (ws : List CE) (k : Nat) (x : Int32) : Ct l G yX4_aged cX4_aged 2 (some .int) 0 0 0 ad ws [.ref k, .int x] (pI ad (fun r ws2 => r = x ∧ ws2 = ws)) := by
  refine Ct.of [some (.ref k), some (.int x)] (by decide +kernel) (Nat.le_of_ble_eq_true rfl) rfl ?_
  intro p e s m args below meth c A X
  refine V_iload_n1 X dX4_aged_0 ?_
  exact V_iret X dX4_aged_1 ⟨rfl, rfl⟩
theorem t_aged5 (l : Launch) (G : GX) (ad : Nat → Nat) (ws : List CE) (k a : Nat) (ha : a < 10) : Ct l G yX5_aged cX5_aged 2 (some .int) 1 0 0 ad ws [.ref k, .int (nI a)] (pI ad (fun r ws2 => r = nI (agedK 1 a) ∧ ws2 = ws)) := by
  refine Ct.of [some (.ref k), some (.int (nI a))] (by decide +kernel) (Nat.le_of_ble_eq_true rfl) rfl ?_
  intro p e s m args below meth c A X
  refine V_iconstE X (nI 0) dX5_aged_0 (by decide +kernel) ?_
  refine V_iload_n1 X dX5_aged_1 ?_
  refine V_iconstE X (nI 1) dX5_aged_2 (by decide +kernel) ?_
  refine V_isub X dX5_aged_3 ?_
  refine V_cS2I X dX5_aged_4 kX5_9 (t_max l G ad ws _ _) (Nat.le_of_ble_eq_true rfl) ⟨⟨Nat.le_of_ble_eq_true rfl, Nat.le_of_ble_eq_true rfl⟩, Nat.le_of_ble_eq_true rfl, Nat.le_of_ble_eq_true rfl⟩ (fun r ws2 hc => ?_)
  obtain ⟨rfl, hw9⟩ := hc
  obtain rfl := hw9.symm
  exact V_iret X dX5_aged_7 ⟨f_hair a ha, rfl⟩
theorem t_gap4 (l : Launch) (G : GX) (ad : Nat → Nat) (ws : List CE) (k a b : Nat) (ha : a < 10) (hb : b < 10) : Ct l G yX4_gap cX4_gap 3 (some .int) 1 0 0 ad ws [.ref k, .int (nI a), .int (nI b)] (pI ad (fun r ws2 => r = nI (dist a b) ∧ ws2 = ws)) := by
  refine Ct.of [some (.ref k), some (.int (nI a)), some (.int (nI b))] (by decide +kernel) (Nat.le_of_ble_eq_true rfl) rfl ?_
  intro p e s m args below meth c A X
  refine V_iload_n1 X dX4_gap_0 ?_
  refine V_iload_n2 X dX4_gap_1 ?_
  refine V_isub X dX4_gap_2 ?_
  refine V_cS1I X dX4_gap_3 kX4_9 (t_abs l G ad ws _) (Nat.le_of_ble_eq_true rfl) ⟨⟨Nat.le_of_ble_eq_true rfl, Nat.le_of_ble_eq_true rfl⟩, Nat.le_of_ble_eq_true rfl, Nat.le_of_ble_eq_true rfl⟩ (fun r ws2 hc => ?_)
  obtain ⟨rfl, hw9⟩ := hc
  obtain rfl := hw9.symm
  exact V_iret X dX4_gap_6 ⟨f_abs a ha b hb, rfl⟩
theorem t_steps4 (l : Launch) (G : GX) (ad : Nat → Nat) (ws : List CE) (k a b : Nat) (ha : a < 10) (hb : b < 10) : Ct l G yX4_steps cX4_steps 3 (some .int) 1 0 0 ad ws [.ref k, .int (nI a), .int (nI b)] (pI ad (fun r ws2 => r = nI (dist a b) ∧ ws2 = ws)) := by
  refine Ct.of [some (.ref k), some (.int (nI a)), some (.int (nI b))] (by decide +kernel) (Nat.le_of_ble_eq_true rfl) rfl ?_
  intro p e s m args below meth c A X
  refine V_iload_n1 X dX4_steps_0 ?_
  refine V_iload_n2 X dX4_steps_1 ?_
  refine V_isub X dX4_steps_2 ?_
  refine V_cS1I X dX4_steps_3 kX4_9 (t_abs l G ad ws _) (Nat.le_of_ble_eq_true rfl) ⟨⟨Nat.le_of_ble_eq_true rfl, Nat.le_of_ble_eq_true rfl⟩, Nat.le_of_ble_eq_true rfl, Nat.le_of_ble_eq_true rfl⟩ (fun r ws2 hc => ?_)
  obtain ⟨rfl, hw9⟩ := hc
  obtain rfl := hw9.symm
  exact V_iret X dX4_steps_6 ⟨f_abs a ha b hb, rfl⟩
theorem t_slip4 (l : Launch) (G : GX) (ad : Nat → Nat) (ws : List CE) (k a : Nat) (ha : a < 10) (up : Bool) : Ct l G yX4_slipped cX4_slipped 4 (some .int) 0 0 0 ad ws [.ref k, .int (nI a), .int (byI up)] (pI ad (fun r ws2 => r = optI (slipK 0 a up) ∧ ws2 = ws)) := by
  refine Ct.of [some (.ref k), some (.int (nI a)), some (.int (byI up)), none] (by decide +kernel) (Nat.le_of_ble_eq_true rfl) rfl ?_
  intro p e s m args below meth c A X
  have hf := f_slip a ha up
  refine V_iload_n1 X dX4_slipped_0 ?_
  refine V_iload_n2 X dX4_slipped_1 ?_
  refine V_iadd X dX4_slipped_2 ?_
  refine V_istore_n3 X dX4_slipped_3 (Nat.le_of_ble_eq_true rfl) rfl ?_
  refine V_iload_n3 X dX4_slipped_4 ?_
  refine V_if_lt X 14 dX4_slipped_5 (by decide) (fun h => ?_) (fun h => ?_)
  · refine V_iconstE X (-1) dX4_slipped_14 (by decide +kernel) ?_
    refine V_goto X 19 dX4_slipped_15 (by decide) ?_
    exact V_iret X dX4_slipped_19 ⟨(hf.1 h).symm, rfl⟩
  · refine V_iload_n3 X dX4_slipped_8 ?_
    refine V_bipushE X (nI 9) dX4_slipped_9 (by decide +kernel) ?_
    refine V_icmp_le X 18 dX4_slipped_11 (by decide) (fun h2 => ?_) (fun h2 => ?_)
    · refine V_iload_n3 X dX4_slipped_18 ?_
      exact V_iret X dX4_slipped_19 ⟨(hf.2.1 h h2).symm, rfl⟩
    · refine V_iconstE X (-1) dX4_slipped_14 (by decide +kernel) ?_
      refine V_goto X 19 dX4_slipped_15 (by decide) ?_
      exact V_iret X dX4_slipped_19 ⟨(hf.2.2 h2).symm, rfl⟩
theorem t_gap8 (l : Launch) (G : GX) (ad : Nat → Nat) (ws : List CE) (k a b : Nat) (ha : a < 10) (hb : b < 10) : Ct l G yX8_gap cX8_gap 3 (some .int) 0 0 0 ad ws [.ref k, .int (nI a), .int (nI b)] (pI ad (fun r ws2 => r = nI (if a = b then 0 else 9) ∧ ws2 = ws)) := by
  refine Ct.of [some (.ref k), some (.int (nI a)), some (.int (nI b))] (by decide +kernel) (Nat.le_of_ble_eq_true rfl) rfl ?_
  intro p e s m args below meth c A X
  refine V_iload_n1 X dX8_gap_0 ?_
  refine V_iload_n2 X dX8_gap_1 ?_
  refine V_icmp_ne X 9 dX8_gap_2 (by decide) (fun h => ?_) (fun h => ?_)
  · refine V_bipushE X (nI 9) dX8_gap_9 (by decide +kernel) ?_
    exact V_iret X dX8_gap_11 ⟨by rw [if_neg]; intro e9; exact h (by rw [e9]), rfl⟩
  · refine V_iconstE X (nI 0) dX8_gap_5 (by decide +kernel) ?_
    refine V_goto X 11 dX8_gap_6 (by decide) ?_
    exact V_iret X dX8_gap_11 ⟨by rw [if_pos]; exact (nI_eq (by omega) (by omega)).mp h, rfl⟩
theorem t_gap0 (l : Launch) (G : GX) (ad : Nat → Nat) (ws : List CE) (k a b : Nat) (ha : a < 10) (hb : b < 10) : Ct l G yX0_gap cX0_gap 4 (some .int) 1 0 0 ad ws [.ref k, .int (nI a), .int (nI b)] (pI ad (fun r ws2 => r = nI (min (dist a b) (10 - dist a b)) ∧ ws2 = ws)) := by
  refine Ct.of [some (.ref k), some (.int (nI a)), some (.int (nI b)), none] (by decide +kernel) (Nat.le_of_ble_eq_true rfl) rfl ?_
  intro p e s m args below meth c A X
  refine V_iload_n1 X dX0_gap_0 ?_
  refine V_iload_n2 X dX0_gap_1 ?_
  refine V_isub X dX0_gap_2 ?_
  refine V_cS1I X dX0_gap_3 kX0_15 (t_abs l G ad ws _) (Nat.le_of_ble_eq_true rfl) ⟨⟨Nat.le_of_ble_eq_true rfl, Nat.le_of_ble_eq_true rfl⟩, Nat.le_of_ble_eq_true rfl, Nat.le_of_ble_eq_true rfl⟩ (fun r ws2 hc => ?_)
  obtain ⟨rfl, hw9⟩ := hc
  obtain rfl := hw9.symm
  rw [f_abs a ha b hb]
  refine V_istore_n3 X dX0_gap_6 (Nat.le_of_ble_eq_true rfl) rfl ?_
  refine V_iload_n3 X dX0_gap_7 ?_
  refine V_bipushE X (nI 10) dX0_gap_8 (by decide +kernel) ?_
  refine V_iload_n3 X dX0_gap_10 ?_
  refine V_isub X dX0_gap_11 ?_
  refine V_cS2I X dX0_gap_12 kX0_21 (t_min l G ad ws _ _) (Nat.le_of_ble_eq_true rfl) ⟨⟨Nat.le_of_ble_eq_true rfl, Nat.le_of_ble_eq_true rfl⟩, Nat.le_of_ble_eq_true rfl, Nat.le_of_ble_eq_true rfl⟩ (fun r ws2 hc => ?_)
  obtain ⟨rfl, hw9⟩ := hc
  obtain rfl := hw9.symm
  exact V_iret X dX0_gap_15 ⟨f_beard _ (dist_lt ha hb), rfl⟩
theorem t_steps0 (l : Launch) (G : GX) (ad : Nat → Nat) (ws : List CE) (k a b : Nat) (ha : a < 10) (hb : b < 10) (hk : ws[k]? = some (oB 0 [])) : Ct l G yX0_steps cX0_steps 3 (some .int) 2 0 0 ad ws [.ref k, .int (nI a), .int (nI b)] (pI ad (fun r ws2 => r = nI (min (dist a b) (10 - dist a b)) ∧ ws2 = ws)) := by
  refine Ct.of [some (.ref k), some (.int (nI a)), some (.int (nI b))] (by decide +kernel) (Nat.le_of_ble_eq_true rfl) rfl ?_
  intro p e s m args below meth c A X
  refine V_aload_n0 X dX0_steps_0 ?_
  refine V_iload_n1 X dX0_steps_1 ?_
  refine V_iload_n2 X dX0_steps_2 ?_
  refine V_cV2I X dX0_steps_3 kX0_24 (t_gap0 l G ad ws k a b ha hb) (by assumption) (by rfl) (Nat.le_of_ble_eq_true rfl) ⟨⟨Nat.le_of_ble_eq_true rfl, Nat.le_of_ble_eq_true rfl⟩, Nat.le_of_ble_eq_true rfl, Nat.le_of_ble_eq_true rfl⟩ (fun r ws2 hc => ?_)
  obtain ⟨rfl, hw9⟩ := hc
  obtain rfl := hw9.symm
  exact V_iret X dX0_steps_6 ⟨rfl, rfl⟩
theorem t_slip0 (l : Launch) (G : GX) (ad : Nat → Nat) (ws : List CE) (k a : Nat) (ha : a < 10) (up : Bool) : Ct l G yX0_slipped cX0_slipped 3 (some .int) 1 0 0 ad ws [.ref k, .int (nI a), .int (byI up)] (pI ad (fun r ws2 => r = optI (slipK 3 a up) ∧ ws2 = ws)) := by
  refine Ct.of [some (.ref k), some (.int (nI a)), some (.int (byI up))] (by decide +kernel) (Nat.le_of_ble_eq_true rfl) rfl ?_
  intro p e s m args below meth c A X
  refine V_iload_n1 X dX0_slipped_0 ?_
  refine V_iload_n2 X dX0_slipped_1 ?_
  refine V_iadd X dX0_slipped_2 ?_
  refine V_bipushE X (nI 10) dX0_slipped_3 (by decide +kernel) ?_
  refine V_cS2I X dX0_slipped_5 kX0_27 (t_fm l G ad ws _ _ (by decide +kernel)) (Nat.le_of_ble_eq_true rfl) ⟨⟨Nat.le_of_ble_eq_true rfl, Nat.le_of_ble_eq_true rfl⟩, Nat.le_of_ble_eq_true rfl, Nat.le_of_ble_eq_true rfl⟩ (fun r ws2 hc => ?_)
  obtain ⟨rfl, hw9⟩ := hc
  obtain rfl := hw9.symm
  exact V_iret X dX0_slipped_8 ⟨f_slip3 a ha up, rfl⟩
theorem t_aged0 (l : Launch) (G : GX) (ad : Nat → Nat) (ws : List CE) (k a : Nat) (ha : a < 10) (hk : ws[k]? = some (oB 0 [])) : Ct l G yX0_aged cX0_aged 2 (some .int) 2 0 0 ad ws [.ref k, .int (nI a)] (pI ad (fun r ws2 => r = nI (agedK 3 a) ∧ ws2 = ws)) := by
  refine Ct.of [some (.ref k), some (.int (nI a))] (by decide +kernel) (Nat.le_of_ble_eq_true rfl) rfl ?_
  intro p e s m args below meth c A X
  refine V_aload_n0 X dX0_aged_0 ?_
  refine V_iload_n1 X dX0_aged_1 ?_
  refine V_iconstE X (nI 1) dX0_aged_2 (by decide +kernel) ?_
  refine V_cV2I X dX0_aged_3 kX0_9 (t_slip0 l G ad ws k a ha true) (by assumption) (by rfl) (Nat.le_of_ble_eq_true rfl) ⟨⟨Nat.le_of_ble_eq_true rfl, Nat.le_of_ble_eq_true rfl⟩, Nat.le_of_ble_eq_true rfl, Nat.le_of_ble_eq_true rfl⟩ (fun r ws2 hc => ?_)
  obtain ⟨rfl, hw9⟩ := hc
  obtain rfl := hw9.symm
  exact V_iret X dX0_aged_6 ⟨rfl, rfl⟩
