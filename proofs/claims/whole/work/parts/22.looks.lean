/-! Looks -/
def FeatAt (ws : List CE) (xs : List (Option Nat)) (K : Nat → Nat) : Prop := ∀ j, j < 4 → K j < 5 ∧ ∃ q, xs[j]? = some (some q) ∧ ws[q]? = some (oB (clsK (K j)) []) ∧ (q = 3 ∨ 47 ≤ q)
def LooksAt (ws : List CE) (n : Nat) (K : Nat → Nat) : Prop := n ≤ 4 ∧ ws[1]? = some (oB 6 [.ref 2, .int (nI n)]) ∧ ∃ xs : List (Option Nat), ws[2]? = some (rA xs) ∧ xs.length = 4 ∧ FeatAt ws xs K
def inR (n : Nat) (x : Int32) : Bool := decide (¬ x < 0) && decide (¬ nI n ≤ x)
theorem t_Lsize (l : Launch) (G : GX) (ad : Nat → Nat) (ws : List CE) (n : Nat) (K : Nat → Nat) (hL : LooksAt ws n K) : Ct l G yX6_size cX6_size 1 (some .int) 0 0 0 ad ws [.ref 1] (pI ad (fun r ws2 => r = nI n ∧ ws2 = ws)) := by
  refine Ct.of [some (.ref 1)] (by decide +kernel) (Nat.le_of_ble_eq_true rfl) rfl ?_
  intro p e s m args below meth c A X
  obtain ⟨hn, h1, xs, h2, hx4, hF⟩ := hL
  refine V_aload_n0 X dX6_size_0 ?_
  refine V_getf X dX6_size_1 fX6_17 (by assumption) (by rfl) ?_
  exact V_iret X dX6_size_4 ⟨rfl, rfl⟩
theorem t_LisFull (l : Launch) (G : GX) (ad : Nat → Nat) (ws : List CE) (n : Nat) (K : Nat → Nat) (hL : LooksAt ws n K) : Ct l G yX6_isFull cX6_isFull 1 (some .boolean) 0 0 0 ad ws [.ref 1] (pI ad (fun r ws2 => r = bI (decide (4 ≤ n)) ∧ ws2 = ws)) := by
  refine Ct.of [some (.ref 1)] (by decide +kernel) (Nat.le_of_ble_eq_true rfl) rfl ?_
  intro p e s m args below meth c A X
  obtain ⟨hn, h1, xs, h2, hx4, hF⟩ := hL
  refine V_aload_n0 X dX6_isFull_0 ?_
  refine V_getf X dX6_isFull_1 fX6_17 (by assumption) (by rfl) ?_
  refine V_iconstE X (nI 4) dX6_isFull_4 (by decide +kernel) ?_
  refine V_icmp_lt X 12 dX6_isFull_5 (by decide) (fun h => ?_) (fun h => ?_)
  · have h9 : ¬ 4 ≤ n := by have := (nI_ltI (by omega) (by omega)).mp h; omega
    refine V_iconstE X (nI 0) dX6_isFull_12 (by decide +kernel) ?_
    exact V_zret X dX6_isFull_13 rfl ⟨by simp [bI, h9], rfl⟩
  · have h9 : 4 ≤ n := by rcases Nat.lt_or_ge n 4 with q | q; exact absurd ((nI_ltI (by omega) (by omega)).mpr q) h; exact q
    refine V_iconstE X (nI 1) dX6_isFull_8 (by decide +kernel) ?_
    refine V_goto X 13 dX6_isFull_9 (by decide) ?_
    exact V_zret X dX6_isFull_13 rfl ⟨by simp [bI, h9], rfl⟩
theorem t_Lhas (l : Launch) (G : GX) (ad : Nat → Nat) (ws : List CE) (n : Nat) (K : Nat → Nat) (hL : LooksAt ws n K) (x : Int32) : Ct l G yX6_has cX6_has 2 (some .boolean) 0 0 0 ad ws [.ref 1, .int x] (pI ad (fun r ws2 => r = bI (inR n x) ∧ ws2 = ws)) := by
  refine Ct.of [some (.ref 1), some (.int x)] (by decide +kernel) (Nat.le_of_ble_eq_true rfl) rfl ?_
  intro p e s m args below meth c A X
  obtain ⟨hn, h1, xs, h2, hx4, hF⟩ := hL
  refine V_iload_n1 X dX6_has_0 ?_
  refine V_if_lt X 16 dX6_has_1 (by decide) (fun h => ?_) (fun h => ?_)
  · refine V_iconstE X (nI 0) dX6_has_16 (by decide +kernel) ?_
    exact V_zret X dX6_has_17 rfl ⟨by simp [bI, inR, h], rfl⟩
  · refine V_iload_n1 X dX6_has_4 ?_
    refine V_aload_n0 X dX6_has_5 ?_
    refine V_getf X dX6_has_6 fX6_17 (by assumption) (by rfl) ?_
    refine V_icmp_ge X 16 dX6_has_9 (by decide) (fun h2 => ?_) (fun h2 => ?_)
    · refine V_iconstE X (nI 0) dX6_has_16 (by decide +kernel) ?_
      exact V_zret X dX6_has_17 rfl ⟨by simp [bI, inR, h2], rfl⟩
    · refine V_iconstE X (nI 1) dX6_has_12 (by decide +kernel) ?_
      refine V_goto X 17 dX6_has_13 (by decide) ?_
      exact V_zret X dX6_has_17 rfl ⟨by simp [bI, inR, h, h2], rfl⟩
theorem t_Lat (l : Launch) (G : GX) (ad : Nat → Nat) (ws : List CE) (n : Nat) (K : Nat → Nat) (hL : LooksAt ws n K) (f : Nat) (hf : f < 4) : Ct l G yX6_at cX6_at 2 (some (.object "LikeLastYears$Feature")) 0 0 0 ad ws [.ref 1, .int (nI f)] (pR ad (fun q ws2 => (K f < 5 ∧ ws[q]? = some (oB (clsK (K f)) [])) ∧ ws2 = ws)) := by
  refine Ct.of [some (.ref 1), some (.int (nI f))] (by decide +kernel) (Nat.le_of_ble_eq_true rfl) rfl ?_
  intro p e s m args below meth c A X
  obtain ⟨hn, h1, xs, h2, hx4, hF⟩ := hL
  obtain ⟨hk5, q, hq1, hq2, hq3⟩ := hF f hf
  refine V_aload_n0 X dX6_at_0 ?_
  refine V_getf X dX6_at_1 fX6_11 (by assumption) (by rfl) ?_
  refine V_iload_n1 X dX6_at_4 ?_
  refine V_if_lt X 17 dX6_at_5 (by decide) (fun h => ?_) (fun h => ?_)
  · exact absurd h (nI_pos (by omega))
  · refine V_iload_n1 X dX6_at_8 ?_
    refine V_iconstE X (nI 4) dX6_at_9 (by decide +kernel) ?_
    refine V_icmp_ge X 17 dX6_at_10 (by decide) (fun h3 => ?_) (fun h3 => ?_)
    · exact absurd h3 (nI_ge hf (by decide))
    · refine V_iload_n1 X dX6_at_13 ?_
      refine V_goto X 18 dX6_at_14 (by decide) ?_
      refine V_aald X f dX6_at_18 (by assumption) rfl hq1 (by omega) ?_
      exact V_aretC X dX6_at_19 ⟨⟨hk5, hq2⟩, rfl⟩
theorem t_LisP (l : Launch) (G : GX) (ad : Nat → Nat) (ws : List CE) (n : Nat) (K : Nat → Nat) (hL : LooksAt ws n K) (hkP : ad kP = G.2.2.2) (x : Int32) : Ct l G yX6_isPortrait cX6_isPortrait 2 (some .boolean) 0 0 0 ad ws [.ref 1, .int x] (pI ad (fun r ws2 => r = bI (inR (10 ^ n) x) ∧ ws2 = ws)) := by
  refine Ct.of [some (.ref 1), some (.int x)] (by decide +kernel) (Nat.le_of_ble_eq_true rfl) rfl ?_
  intro p e s m args below meth c A X
  obtain ⟨hn, h1, xs, h2, hx4, hF⟩ := hL
  refine V_iload_n1 X dX6_isPortrait_0 ?_
  refine V_if_lt X 31 dX6_isPortrait_1 (by decide) (fun h => ?_) (fun h => ?_)
  · refine V_iconstE X (nI 0) dX6_isPortrait_31 (by decide +kernel) ?_
    exact V_zret X dX6_isPortrait_32 rfl ⟨by simp [bI, inR, h], rfl⟩
  · refine V_aload_n0 X dX6_isPortrait_4 ?_
    refine V_getf X dX6_isPortrait_5 fX6_17 (by assumption) (by rfl) ?_
    refine V_getP X dX6_isPortrait_8 hkP (Or.inr w_321) ?_
    refine V_alenP X dX6_isPortrait_11 hkP ?_
    refine V_icmp_ge X 31 dX6_isPortrait_12 (by decide) (fun h3 => ?_) (fun h3 => ?_)
    · exact absurd h3 (nI_ge (show n < 5 by omega) (by decide))
    · refine V_iload_n1 X dX6_isPortrait_15 ?_
      refine V_getP X dX6_isPortrait_16 hkP (Or.inr w_321) ?_
      refine V_aload_n0 X dX6_isPortrait_19 ?_
      refine V_getf X dX6_isPortrait_20 fX6_17 (by assumption) (by rfl) ?_
      refine V_ialdP X n dX6_isPortrait_23 hkP rfl (by omega) ?_
      refine V_icmp_ge X 31 dX6_isPortrait_24 (by decide) (fun h2 => ?_) (fun h2 => ?_)
      · refine V_iconstE X (nI 0) dX6_isPortrait_31 (by decide +kernel) ?_
        exact V_zret X dX6_isPortrait_32 rfl ⟨by simp [bI, inR, h2], rfl⟩
      · refine V_iconstE X (nI 1) dX6_isPortrait_27 (by decide +kernel) ?_
        refine V_goto X 32 dX6_isPortrait_28 (by decide) ?_
        exact V_zret X dX6_isPortrait_32 rfl ⟨by simp [bI, inR, h, h2], rfl⟩
theorem t_sizeIn (l : Launch) (G : GX) (ad : Nat → Nat) (ws : List CE) (hkP : ad kP = G.2.2.2) (p0 f : Nat) (hp : p0 < 2147483648) (hf : f < 4) : Ct l G yX6_sizeIn cX6_sizeIn 2 (some .int) 0 0 0 ad ws [.int (nI p0), .int (nI f)] (pI ad (fun r ws2 => r = nI (dg p0 f) ∧ ws2 = ws)) := by
  refine Ct.of [some (.int (nI p0)), some (.int (nI f))] (by decide +kernel) (Nat.le_of_ble_eq_true rfl) rfl ?_
  intro p e s m args below meth c A X
  have hf5 : f < 5 := by omega
  refine V_iload_n1 X dX6_sizeIn_0 ?_
  refine V_if_lt X 22 dX6_sizeIn_1 (by decide) (fun h => ?_) (fun h => ?_)
  · exact absurd h (nI_pos (by omega))
  · refine V_iload_n1 X dX6_sizeIn_4 ?_
    refine V_iconstE X (nI 4) dX6_sizeIn_5 (by decide +kernel) ?_
    refine V_icmp_ge X 22 dX6_sizeIn_6 (by decide) (fun h3 => ?_) (fun h3 => ?_)
    · exact absurd h3 (nI_ge hf (by decide))
    · refine V_iload_n0 X dX6_sizeIn_9 ?_
      refine V_getP X dX6_sizeIn_10 hkP (Or.inr w_321) ?_
      refine V_iload_n1 X dX6_sizeIn_13 ?_
      refine V_ialdP X f dX6_sizeIn_14 hkP rfl hf5 ?_
      refine V_idiv X dX6_sizeIn_15 (pw_ne hf5) ?_
      refine V_bipushE X (nI 10) dX6_sizeIn_16 (by decide +kernel) ?_
      refine V_irem X dX6_sizeIn_18 (by decide +kernel) ?_
      refine V_goto X 23 dX6_sizeIn_19 (by decide) ?_
      exact V_iret X dX6_sizeIn_23 ⟨i32_dg hp hf5, rfl⟩
theorem t_with (l : Launch) (G : GX) (ad : Nat → Nat) (ws : List CE) (hkP : ad kP = G.2.2.2) (p0 f v : Nat) (hp : p0 < 2147483648) (hf : f < 4) : Ct l G yX6_with cX6_with 5 (some .int) 1 0 0 ad ws [.ref 1, .int (nI p0), .int (nI f), .int (nI v)] (pI ad (fun r ws2 => r = nI (withP p0 f v) ∧ ws2 = ws)) := by
  refine Ct.of [some (.ref 1), some (.int (nI p0)), some (.int (nI f)), some (.int (nI v)), none] (by decide +kernel) (Nat.le_of_ble_eq_true rfl) rfl ?_
  intro p e s m args below meth c A X
  have hf5 : f < 5 := by omega
  refine V_iload_n2 X dX6_with_0 ?_
  refine V_if_lt X 9 dX6_with_1 (by decide) (fun h => ?_) (fun h => ?_)
  · exact absurd h (nI_pos (by omega))
  · refine V_iload_n2 X dX6_with_4 ?_
    refine V_iconstE X (nI 4) dX6_with_5 (by decide +kernel) ?_
    refine V_icmp_lt X 11 dX6_with_6 (by decide) (fun h3 => ?_) (fun h3 => ?_)
    · refine V_getP X dX6_with_11 hkP (Or.inr w_321) ?_
      refine V_iload_n2 X dX6_with_14 ?_
      refine V_ialdP X f dX6_with_15 hkP rfl hf5 ?_
      refine V_istore_4 X dX6_with_16 (Nat.le_of_ble_eq_true rfl) rfl ?_
      refine V_iload_n1 X dX6_with_18 ?_
      refine V_iload_n3 X dX6_with_19 ?_
      refine V_iload_n1 X dX6_with_20 ?_
      refine V_iload_4 X dX6_with_21 ?_
      refine V_idiv X dX6_with_23 (pw_ne hf5) ?_
      refine V_bipushE X (nI 10) dX6_with_24 (by decide +kernel) ?_
      refine V_irem X dX6_with_26 (by decide +kernel) ?_
      rw [i32_dg hp hf5]
      refine V_isub X dX6_with_27 ?_
      refine V_iload_4 X dX6_with_28 ?_
      refine V_imul X dX6_with_30 ?_
      refine V_iadd X dX6_with_31 ?_
      exact V_iret X dX6_with_32 ⟨i32_withP p0 f v, rfl⟩
    · exact absurd ((nI_ltI (b := 4) (by omega) (by omega)).mpr hf) h3
theorem optI_ne {v : Nat} (h : v < 10) : ¬ optI (some v) = -1 := by
  have : ∀ v, v < 10 → ¬ optI (some v) = -1 := by decide +kernel
  exact this v h
theorem t_slip (l : Launch) (G : GX) (ad : Nat → Nat) (ws : List CE) (n : Nat) (K : Nat → Nat) (hL : LooksAt ws n K) (hkP : ad kP = G.2.2.2) (p0 f : Nat) (hp : p0 < 2147483648) (hf0 : f < n) (up : Bool) : Ct l G yX6_slip cX6_slip 7 (some .int) 4 0 0 ad ws [.ref 1, .int (nI p0), .int (nI f), .int (byI up)] (pI ad (fun r ws2 => r = optI (slipP K p0 f up) ∧ ws2 = ws)) := by
  refine Ct.of [some (.ref 1), some (.int (nI p0)), some (.int (nI f)), some (.int (byI up)), none, none, none] (by decide +kernel) (Nat.le_of_ble_eq_true rfl) rfl ?_
  intro p e s m args below meth c A X
  have hL0 := hL
  obtain ⟨hn, h1, xs, h2, hx4, hF⟩ := hL
  have hf : f < 4 := by omega
  have hf5 : f < 5 := by omega
  have hin : inR n (nI f) = true := by simp [inR, nI_pos (n := f) (by omega), nI_ge hf0 (by omega)]
  obtain ⟨hk5, q, hq1, hq2, hq3⟩ := hF f hf
  refine V_aload_n0 X dX6_slip_0 ?_
  refine V_iload_n2 X dX6_slip_1 ?_
  refine V_cV1I X dX6_slip_2 kX6_30 (t_Lhas l G ad ws n K hL0 (nI f)) (by assumption) (by rfl) (Nat.le_of_ble_eq_true rfl) ⟨⟨Nat.le_of_ble_eq_true rfl, Nat.le_of_ble_eq_true rfl⟩, Nat.le_of_ble_eq_true rfl, Nat.le_of_ble_eq_true rfl⟩ (fun r ws2 hc => ?_)
  obtain ⟨rfl, hw9⟩ := hc
  obtain rfl := hw9.symm
  rw [hin]
  refine V_if_ne X 10 dX6_slip_5 (by decide) (fun h0 => ?_) (fun h0 => ?_)
  rotate_left
  · exact absurd h0 (by decide +kernel)
  refine V_getP X dX6_slip_10 hkP (Or.inr w_321) ?_
  refine V_iload_n2 X dX6_slip_13 ?_
  refine V_ialdP X f dX6_slip_14 hkP rfl hf5 ?_
  refine V_istore_4 X dX6_slip_15 (Nat.le_of_ble_eq_true rfl) rfl ?_
  refine V_iload_n1 X dX6_slip_17 ?_
  refine V_iload_4 X dX6_slip_18 ?_
  refine V_idiv X dX6_slip_20 (pw_ne hf5) ?_
  refine V_bipushE X (nI 10) dX6_slip_21 (by decide +kernel) ?_
  refine V_irem X dX6_slip_23 (by decide +kernel) ?_
  rw [i32_dg hp hf5]
  refine V_istore_5 X dX6_slip_24 (Nat.le_of_ble_eq_true rfl) rfl ?_
  refine V_aload_n0 X dX6_slip_26 ?_
  refine V_getf X dX6_slip_27 fX6_11 (by assumption) (by rfl) ?_
  refine V_iload_n2 X dX6_slip_30 ?_
  refine V_aald X f dX6_slip_31 (by assumption) rfl hq1 (by omega) ?_
  refine V_iload_5 X dX6_slip_32 ?_
  refine V_iload_n3 X dX6_slip_34 ?_
  refine VU_slip X dX6_slip_35 kX6_34_4 kX6_34_5 kX6_34_8 kX6_34_0 kX6_34_3 hk5 hq2 (dg_lt _ _) (Nat.le_of_ble_eq_true rfl) ⟨Nat.le_of_ble_eq_true rfl, Nat.le_of_ble_eq_true rfl, Nat.le_of_ble_eq_true rfl, Nat.le_of_ble_eq_true rfl⟩ ?_
  refine V_istore_6 X dX6_slip_38 (Nat.le_of_ble_eq_true rfl) rfl ?_
  refine V_iload_6 X dX6_slip_40 ?_
  refine V_iconstE X (-1) dX6_slip_42 (by decide +kernel) ?_
  refine V_icmp_ne X 50 dX6_slip_43 (by decide) (fun h => ?_) (fun h => ?_)
  · cases hs : slipK (K f) (dg p0 f) up with
    | none => rw [hs] at h; exact absurd rfl h
    | some v =>
      refine V_iload_n1 X dX6_slip_50 ?_
      refine V_iload_6 X dX6_slip_51 ?_
      refine V_iload_5 X dX6_slip_53 ?_
      refine V_isub X dX6_slip_55 ?_
      refine V_iload_4 X dX6_slip_56 ?_
      refine V_imul X dX6_slip_58 ?_
      refine V_iadd X dX6_slip_59 ?_
      exact V_iret X dX6_slip_60 ⟨by unfold slipP; rw [hs]; exact i32_withP p0 f v, rfl⟩
  · refine V_iconstE X (-1) dX6_slip_46 (by decide +kernel) ?_
    refine V_goto X 60 dX6_slip_47 (by decide) ?_
    cases hs : slipK (K f) (dg p0 f) up with
    | none =>
      exact V_iret X dX6_slip_60 ⟨by unfold slipP; rw [hs]; rfl, rfl⟩
    | some v => rw [hs] at h; exact absurd h (optI_ne (slipK_lt (dg_lt _ _) hs))
theorem t_Lgap (l : Launch) (G : GX) (ad : Nat → Nat) (ws : List CE) (n : Nat) (K : Nat → Nat) (hL : LooksAt ws n K) (hkP : ad kP = G.2.2.2) (a b : Nat) (ha : a < 2147483648) (hb : b < 2147483648) : Ct l G yX6_gap cX6_gap 5 (some .int) 4 0 0 ad ws [.ref 1, .int (nI a), .int (nI b)] (pI ad (fun r ws2 => r = nI (gapP n K a b) ∧ ws2 = ws)) := by
  refine Ct.of [some (.ref 1), some (.int (nI a)), some (.int (nI b)), none, none] (by decide +kernel) (Nat.le_of_ble_eq_true rfl) rfl ?_
  intro p e s m args below meth c A X
  have hL0 := hL
  obtain ⟨hn, h1, xs, h2, hx4, hF⟩ := hL
  refine V_iconstE X (nI 0) dX6_gap_0 (by decide +kernel) ?_
  refine V_istore_n3 X dX6_gap_1 (Nat.le_of_ble_eq_true rfl) rfl ?_
  refine V_iconstE X (nI 0) dX6_gap_2 (by decide +kernel) ?_
  refine V_istore_4 X dX6_gap_3 (Nat.le_of_ble_eq_true rfl) rfl ?_
  refine V_loop (fun k ws2 lv2 => ∃ f, f + k = n ∧ ws2 = ws ∧ lv2 = [some (.ref 1), some (.int (nI a)), some (.int (nI b)), some (.int (nI (gapP f K a b))), some (.int (nI f))]) n ⟨0, by omega, rfl, rfl⟩ ?_
  rintro k _ _ ⟨f, hf, rfl, rfl⟩ ih
  refine V_iload_4 X dX6_gap_5 ?_
  refine V_aload_n0 X dX6_gap_7 ?_
  refine V_getf X dX6_gap_8 fX6_17 (by assumption) (by rfl) ?_
  refine V_icmp_ge X 44 dX6_gap_11 (by decide) (fun h => ?_) (fun h => ?_)
  · have e9 : f = n := by have := (nI_leI (by omega) (by omega)).mp h; omega
    subst e9
    refine V_iload_n3 X dX6_gap_44 ?_
    exact V_iret X dX6_gap_45 ⟨rfl, rfl⟩
  · have e9 : f < n := by rcases Nat.lt_or_ge f n with q | q; exact q; exact absurd ((nI_leI (by omega) (by omega)).mpr q) h
    refine V_iload_n3 X dX6_gap_14 ?_
    refine V_aload_n0 X dX6_gap_15 ?_
    refine V_iload_4 X dX6_gap_16 ?_
    refine V_cV1R X dX6_gap_18 kX6_38 (t_Lat l G ad _ n K hL0 f (by omega)) (by assumption) (by rfl) (Nat.le_of_ble_eq_true rfl) ⟨⟨Nat.le_of_ble_eq_true rfl, Nat.le_of_ble_eq_true rfl⟩, Nat.le_of_ble_eq_true rfl, Nat.le_of_ble_eq_true rfl⟩ (fun r ws2 hc => ?_)
    obtain ⟨⟨hk5, hq2⟩, hw9⟩ := hc
    obtain rfl := hw9.symm
    refine V_iload_n1 X dX6_gap_21 ?_
    refine V_iload_4 X dX6_gap_22 ?_
    refine V_cS2I X dX6_gap_24 kX6_42 (t_sizeIn l G ad _ hkP a f ha (by omega)) (Nat.le_of_ble_eq_true rfl) ⟨⟨Nat.le_of_ble_eq_true rfl, Nat.le_of_ble_eq_true rfl⟩, Nat.le_of_ble_eq_true rfl, Nat.le_of_ble_eq_true rfl⟩ (fun r ws2 hc => ?_)
    obtain ⟨rfl, hw9⟩ := hc
    obtain rfl := hw9.symm
    refine V_iload_n2 X dX6_gap_27 ?_
    refine V_iload_4 X dX6_gap_28 ?_
    refine V_cS2I X dX6_gap_30 kX6_42 (t_sizeIn l G ad _ hkP b f hb (by omega)) (Nat.le_of_ble_eq_true rfl) ⟨⟨Nat.le_of_ble_eq_true rfl, Nat.le_of_ble_eq_true rfl⟩, Nat.le_of_ble_eq_true rfl, Nat.le_of_ble_eq_true rfl⟩ (fun r ws2 hc => ?_)
    obtain ⟨rfl, hw9⟩ := hc
    obtain rfl := hw9.symm
    refine VU_gap X dX6_gap_33 kX6_45_4 kX6_45_5 kX6_45_8 kX6_45_0 kX6_45_3 hk5 hq2 (dg_lt _ _) (dg_lt _ _) (Nat.le_of_ble_eq_true rfl) ⟨Nat.le_of_ble_eq_true rfl, Nat.le_of_ble_eq_true rfl, Nat.le_of_ble_eq_true rfl, Nat.le_of_ble_eq_true rfl⟩ ?_
    refine V_iadd X dX6_gap_36 ?_
    refine V_istore_n3 X dX6_gap_37 (Nat.le_of_ble_eq_true rfl) rfl ?_
    refine V_iinc_4 X dX6_gap_38 (Nat.le_of_ble_eq_true rfl) rfl (inc1 _) ?_
    refine V_goto X 5 dX6_gap_41 (by decide) ?_
    exact ih (k - 1) _ _ (by omega) ⟨f + 1, by omega, rfl, by rw [nI_add]; rfl⟩
theorem t_Lsteps (l : Launch) (G : GX) (ad : Nat → Nat) (ws : List CE) (n : Nat) (K : Nat → Nat) (hL : LooksAt ws n K) (hkP : ad kP = G.2.2.2) (a b : Nat) (ha : a < 2147483648) (hb : b < 2147483648) : Ct l G yX6_steps cX6_steps 5 (some .int) 4 0 0 ad ws [.ref 1, .int (nI a), .int (nI b)] (pI ad (fun r ws2 => r = nI (stepP n K a b) ∧ ws2 = ws)) := by
  refine Ct.of [some (.ref 1), some (.int (nI a)), some (.int (nI b)), none, none] (by decide +kernel) (Nat.le_of_ble_eq_true rfl) rfl ?_
  intro p e s m args below meth c A X
  have hL0 := hL
  obtain ⟨hn, h1, xs, h2, hx4, hF⟩ := hL
  refine V_iconstE X (nI 0) dX6_steps_0 (by decide +kernel) ?_
  refine V_istore_n3 X dX6_steps_1 (Nat.le_of_ble_eq_true rfl) rfl ?_
  refine V_iconstE X (nI 0) dX6_steps_2 (by decide +kernel) ?_
  refine V_istore_4 X dX6_steps_3 (Nat.le_of_ble_eq_true rfl) rfl ?_
  refine V_loop (fun k ws2 lv2 => ∃ f, f + k = n ∧ ws2 = ws ∧ lv2 = [some (.ref 1), some (.int (nI a)), some (.int (nI b)), some (.int (nI (stepP f K a b))), some (.int (nI f))]) n ⟨0, by omega, rfl, rfl⟩ ?_
  rintro k _ _ ⟨f, hf, rfl, rfl⟩ ih
  refine V_iload_4 X dX6_steps_5 ?_
  refine V_aload_n0 X dX6_steps_7 ?_
  refine V_getf X dX6_steps_8 fX6_17 (by assumption) (by rfl) ?_
  refine V_icmp_ge X 44 dX6_steps_11 (by decide) (fun h => ?_) (fun h => ?_)
  · have e9 : f = n := by have := (nI_leI (by omega) (by omega)).mp h; omega
    subst e9
    refine V_iload_n3 X dX6_steps_44 ?_
    exact V_iret X dX6_steps_45 ⟨rfl, rfl⟩
  · have e9 : f < n := by rcases Nat.lt_or_ge f n with q | q; exact q; exact absurd ((nI_leI (by omega) (by omega)).mpr q) h
    refine V_iload_n3 X dX6_steps_14 ?_
    refine V_aload_n0 X dX6_steps_15 ?_
    refine V_iload_4 X dX6_steps_16 ?_
    refine V_cV1R X dX6_steps_18 kX6_38 (t_Lat l G ad _ n K hL0 f (by omega)) (by assumption) (by rfl) (Nat.le_of_ble_eq_true rfl) ⟨⟨Nat.le_of_ble_eq_true rfl, Nat.le_of_ble_eq_true rfl⟩, Nat.le_of_ble_eq_true rfl, Nat.le_of_ble_eq_true rfl⟩ (fun r ws2 hc => ?_)
    obtain ⟨⟨hk5, hq2⟩, hw9⟩ := hc
    obtain rfl := hw9.symm
    refine V_iload_n1 X dX6_steps_21 ?_
    refine V_iload_4 X dX6_steps_22 ?_
    refine V_cS2I X dX6_steps_24 kX6_42 (t_sizeIn l G ad _ hkP a f ha (by omega)) (Nat.le_of_ble_eq_true rfl) ⟨⟨Nat.le_of_ble_eq_true rfl, Nat.le_of_ble_eq_true rfl⟩, Nat.le_of_ble_eq_true rfl, Nat.le_of_ble_eq_true rfl⟩ (fun r ws2 hc => ?_)
    obtain ⟨rfl, hw9⟩ := hc
    obtain rfl := hw9.symm
    refine V_iload_n2 X dX6_steps_27 ?_
    refine V_iload_4 X dX6_steps_28 ?_
    refine V_cS2I X dX6_steps_30 kX6_42 (t_sizeIn l G ad _ hkP b f hb (by omega)) (Nat.le_of_ble_eq_true rfl) ⟨⟨Nat.le_of_ble_eq_true rfl, Nat.le_of_ble_eq_true rfl⟩, Nat.le_of_ble_eq_true rfl, Nat.le_of_ble_eq_true rfl⟩ (fun r ws2 hc => ?_)
    obtain ⟨rfl, hw9⟩ := hc
    obtain rfl := hw9.symm
    refine VU_steps X dX6_steps_33 kX6_48_4 kX6_48_5 kX6_48_8 kX6_48_0 kX6_48_3 hk5 hq2 (dg_lt _ _) (dg_lt _ _) (Nat.le_of_ble_eq_true rfl) ⟨Nat.le_of_ble_eq_true rfl, Nat.le_of_ble_eq_true rfl, Nat.le_of_ble_eq_true rfl, Nat.le_of_ble_eq_true rfl⟩ ?_
    refine V_iadd X dX6_steps_36 ?_
    refine V_istore_n3 X dX6_steps_37 (Nat.le_of_ble_eq_true rfl) rfl ?_
    refine V_iinc_4 X dX6_steps_38 (Nat.le_of_ble_eq_true rfl) rfl (inc1 _) ?_
    refine V_goto X 5 dX6_steps_41 (by decide) ?_
    exact ih (k - 1) _ _ (by omega) ⟨f + 1, by omega, rfl, by rw [nI_add]; rfl⟩
theorem agedP_lt0 (K : Nat → Nat) (p0 : Nat) : ∀ f, sumF (fun f => agedK (K f) (dg p0 f) * 10 ^ f) f < 10 ^ f
  | 0 => by simp [sumF]
  | f + 1 => by
    have h1 := agedP_lt0 K p0 f
    have h2 : agedK (K f) (dg p0 f) ≤ 9 := Nat.le_of_lt_succ (agedK_lt (dg_lt _ _))
    have h3 : agedK (K f) (dg p0 f) * 10 ^ f ≤ 9 * 10 ^ f := Nat.mul_le_mul_right _ h2
    rw [sumF, Nat.pow_succ]
    omega
theorem dg_agedP (K : Nat → Nat) (p0 f : Nat) : dg (agedP f K p0) f = dg p0 f := by
  show (sumF (fun f => agedK (K f) (dg p0 f) * 10 ^ f) f + p0 / 10 ^ f * 10 ^ f) / 10 ^ f % 10 = p0 / 10 ^ f % 10
  rw [Nat.mul_comm (p0 / 10 ^ f), Nat.add_mul_div_left _ _ (Nat.pow_pos (by decide)), Nat.div_eq_of_lt (agedP_lt0 K p0 f), Nat.zero_add]
theorem agedP_step (K : Nat → Nat) (p0 f : Nat) : withP (agedP f K p0) f (agedK (K f) (dg p0 f)) = agedP (f + 1) K p0 := by
  have h := withP_add (agedP f K p0) f (agedK (K f) (dg p0 f))
  rw [dg_agedP] at h
  have h2 := dg_split p0 f
  have h3 := Nat.div_add_mod p0 (10 ^ f)
  rw [Nat.mul_comm] at h3
  unfold agedP at h ⊢
  rw [sumF]
  omega
theorem agedP_lt {n : Nat} {K : Nat → Nat} {p0 : Nat} (h : p0 < 10 ^ n) : agedP n K p0 < 10 ^ n := by
  unfold agedP
  rw [Nat.div_eq_of_lt h]
  have := agedP_lt0 K p0 n
  omega
theorem agedP_le (n f : Nat) (K : Nat → Nat) (p0 : Nat) (hp : p0 < 10 ^ n) (hf : f ≤ n) : agedP f K p0 < 10 ^ n := by
  have h1 := agedP_lt0 K p0 f
  have h2 : p0 / 10 ^ f < 10 ^ (n - f) := by
    apply Nat.div_lt_of_lt_mul
    rw [← Nat.pow_add, Nat.add_sub_cancel' hf]; exact hp
  have h3 : p0 / 10 ^ f * 10 ^ f ≤ (10 ^ (n - f) - 1) * 10 ^ f := Nat.mul_le_mul_right _ (by omega)
  have h4 : (10 ^ (n - f) - 1) * 10 ^ f + 10 ^ f = 10 ^ n := by
    rw [Nat.sub_mul, Nat.one_mul, ← Nat.pow_add, Nat.sub_add_cancel hf]
    have : 10 ^ f ≤ 10 ^ n := Nat.pow_le_pow_right (by decide) hf
    omega
  unfold agedP
  omega
theorem t_Laged (l : Launch) (G : GX) (ad : Nat → Nat) (ws : List CE) (n : Nat) (K : Nat → Nat) (hL : LooksAt ws n K) (hkP : ad kP = G.2.2.2) (a : Nat) (ha : a < 10 ^ n) : Ct l G yX6_aged cX6_aged 4 (some .int) 4 0 0 ad ws [.ref 1, .int (nI a)] (pI ad (fun r ws2 => r = nI (agedP n K a) ∧ ws2 = ws)) := by
  refine Ct.of [some (.ref 1), some (.int (nI a)), none, none] (by decide +kernel) (Nat.le_of_ble_eq_true rfl) rfl ?_
  intro p e s m args below meth c A X
  have hL0 := hL
  obtain ⟨hn, h1, xs, h2, hx4, hF⟩ := hL
  have h104 := pow_le4 hn
  refine V_iload_n1 X dX6_aged_0 ?_
  refine V_istore_n2 X dX6_aged_1 (Nat.le_of_ble_eq_true rfl) rfl ?_
  refine V_iconstE X (nI 0) dX6_aged_2 (by decide +kernel) ?_
  refine V_istore_n3 X dX6_aged_3 (Nat.le_of_ble_eq_true rfl) rfl ?_
  refine V_loop (fun k ws2 lv2 => ∃ f, f + k = n ∧ ws2 = ws ∧ lv2 = [some (.ref 1), some (.int (nI a)), some (.int (nI (agedP f K a))), some (.int (nI f))]) n ⟨0, by omega, rfl, by simp [agedP, sumF]⟩ ?_
  rintro k _ _ ⟨f, hf, rfl, rfl⟩ ih
  refine V_iload_n3 X dX6_aged_4 ?_
  refine V_aload_n0 X dX6_aged_5 ?_
  refine V_getf X dX6_aged_6 fX6_17 (by assumption) (by rfl) ?_
  refine V_icmp_ge X 38 dX6_aged_9 (by decide) (fun h => ?_) (fun h => ?_)
  · have e9 : f = n := by have := (nI_leI (by omega) (by omega)).mp h; omega
    subst e9
    refine V_iload_n2 X dX6_aged_38 ?_
    exact V_iret X dX6_aged_39 ⟨rfl, rfl⟩
  · have e9 : f < n := by rcases Nat.lt_or_ge f n with q | q; exact q; exact absurd ((nI_leI (by omega) (by omega)).mpr q) h
    refine V_aload_n0 X dX6_aged_12 ?_
    refine V_iload_n2 X dX6_aged_13 ?_
    refine V_iload_n3 X dX6_aged_14 ?_
    refine V_aload_n0 X dX6_aged_15 ?_
    refine V_iload_n3 X dX6_aged_16 ?_
    refine V_cV1R X dX6_aged_17 kX6_38 (t_Lat l G ad _ n K hL0 f (by omega)) (by assumption) (by rfl) (Nat.le_of_ble_eq_true rfl) ⟨⟨Nat.le_of_ble_eq_true rfl, Nat.le_of_ble_eq_true rfl⟩, Nat.le_of_ble_eq_true rfl, Nat.le_of_ble_eq_true rfl⟩ (fun r ws2 hc => ?_)
    obtain ⟨⟨hk5, hq2⟩, hw9⟩ := hc
    obtain rfl := hw9.symm
    refine V_iload_n1 X dX6_aged_20 ?_
    refine V_iload_n3 X dX6_aged_21 ?_
    refine V_cS2I X dX6_aged_22 kX6_42 (t_sizeIn l G ad _ hkP a f (by omega) (by omega)) (Nat.le_of_ble_eq_true rfl) ⟨⟨Nat.le_of_ble_eq_true rfl, Nat.le_of_ble_eq_true rfl⟩, Nat.le_of_ble_eq_true rfl, Nat.le_of_ble_eq_true rfl⟩ (fun r ws2 hc => ?_)
    obtain ⟨rfl, hw9⟩ := hc
    obtain rfl := hw9.symm
    refine VU_aged X dX6_aged_25 kX6_51_4 kX6_51_5 kX6_51_8 kX6_51_0 kX6_51_3 hk5 hq2 (dg_lt _ _) (Nat.le_of_ble_eq_true rfl) ⟨Nat.le_of_ble_eq_true rfl, Nat.le_of_ble_eq_true rfl, Nat.le_of_ble_eq_true rfl, Nat.le_of_ble_eq_true rfl⟩ ?_
    have h8 := agedP_le n f K a ha (by omega)
    refine V_cV3I X dX6_aged_28 kX6_55 (t_with l G ad _ hkP (agedP f K a) f _ (by omega) (by omega)) (by assumption) (by rfl) (Nat.le_of_ble_eq_true rfl) ⟨⟨Nat.le_of_ble_eq_true rfl, Nat.le_of_ble_eq_true rfl⟩, Nat.le_of_ble_eq_true rfl, Nat.le_of_ble_eq_true rfl⟩ (fun r ws2 hc => ?_)
    obtain ⟨rfl, hw9⟩ := hc
    obtain rfl := hw9.symm
    rw [agedP_step]
    refine V_istore_n2 X dX6_aged_31 (Nat.le_of_ble_eq_true rfl) rfl ?_
    refine V_iinc_3 X dX6_aged_32 (Nat.le_of_ble_eq_true rfl) rfl (inc1 _) ?_
    refine V_goto X 4 dX6_aged_35 (by decide) ?_
    exact ih (k - 1) _ _ (by omega) ⟨f + 1, by omega, rfl, rfl⟩
