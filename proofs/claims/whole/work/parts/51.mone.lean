/-! the reference: king, gaps, ages -/
theorem mod_next (p f : Nat) : p % 10 ^ (f + 1) = p % 10 ^ f + 10 ^ f * dg p f := Nat.mod_pow_succ
theorem m_king (l : Launch) (G : GX) (ad : Nat → Nat) (ws : List CE) {n mm np : Nat} {rm sa : Int32} {nj tr : Nat} {sd : Int32} {pn hn : Nat} {kl kp kh : Int32} {hs : Int64} (hO : ws[29]? = some (MO n mm np rm sa nj tr sd pn hn kl kp kh hs)) (h4 : n ≤ 4) (kg : Nat) (hg : AI ws 31 4 4 (dg kg)) (hkg : kg < 10 ^ n) : Ct l G yX12_kingAsPortrait cX12_kingAsPortrait 3 (some .int) 1 0 0 ad ws [.ref 29] (pI ad (fun r ws2 => r = nI kg ∧ ws2 = ws)) := by
  refine Ct.of [some (.ref 29), none, none] (by decide +kernel) (Nat.le_of_ble_eq_true rfl) rfl ?_
  intro p e s m args below meth c A X
  obtain ⟨fg, hg1, hg2⟩ := hg
  refine V_iconstE X (nI 0) dX12_kingAsPortrait_0 (by decide +kernel) ?_
  refine V_istore_n1 X dX12_kingAsPortrait_1 (Nat.le_of_ble_eq_true rfl) rfl ?_
  refine V_iconstE X (nI 0) dX12_kingAsPortrait_2 (by decide +kernel) ?_
  refine V_istore_n2 X dX12_kingAsPortrait_3 (Nat.le_of_ble_eq_true rfl) rfl ?_
  refine V_loopP (fun k lv2 => ∃ f, f + k = n ∧ lv2 = [some (.ref 29), some (.int (nI (kg % 10 ^ f))), some (.int (nI f))]) n ⟨0, by omega, by rw [Nat.pow_zero, Nat.mod_one]⟩ ?_
  rintro k _ ⟨f, hf, rfl⟩ ih
  refine V_iload_n2 X dX12_kingAsPortrait_4 ?_
  refine V_aload_n0 X dX12_kingAsPortrait_5 ?_
  refine V_getf X dX12_kingAsPortrait_6 fX12_65 (by assumption) (by rfl) ?_
  refine V_icmp_ge X 32 dX12_kingAsPortrait_9 (by decide) (fun h => ?_) (fun h => ?_)
  · have e9 : f = n := by have := c_le h; omega
    subst e9
    refine V_iload_n1 X dX12_kingAsPortrait_32 ?_
    exact V_iret X dX12_kingAsPortrait_33 ⟨by rw [Nat.mod_eq_of_lt hkg], rfl⟩
  · have e9 := c_nle h
    refine V_iload_n1 X dX12_kingAsPortrait_12 ?_
    refine V_iload_n2 X dX12_kingAsPortrait_13 ?_
    refine V_cS1I X dX12_kingAsPortrait_14 kX12_87 (m_unit l G ad ws f (by omega)) (Nat.le_of_ble_eq_true rfl) ⟨⟨Nat.le_of_ble_eq_true rfl, Nat.le_of_ble_eq_true rfl⟩, Nat.le_of_ble_eq_true rfl, Nat.le_of_ble_eq_true rfl⟩ (fun r ws2 hc => ?_)
    obtain ⟨rfl, hw9⟩ := hc
    obtain rfl := hw9.symm
    refine V_aload_n0 X dX12_kingAsPortrait_17 ?_
    refine V_getf X dX12_kingAsPortrait_18 fX12_13 (by assumption) (by rfl) ?_
    refine V_iload_n2 X dX12_kingAsPortrait_21 ?_
    refine V_iald X f dX12_kingAsPortrait_22 (by assumption) rfl (by omega) (by omega) ?_
    refine V_imul X dX12_kingAsPortrait_23 ?_
    refine V_iadd X dX12_kingAsPortrait_24 ?_
    refine V_istore_n1 X dX12_kingAsPortrait_25 (Nat.le_of_ble_eq_true rfl) rfl ?_
    refine V_iinc_2 X dX12_kingAsPortrait_26 (Nat.le_of_ble_eq_true rfl) rfl (inc1 _) ?_
    refine V_goto X 4 dX12_kingAsPortrait_29 (by decide) ?_
    exact ih (k - 1) _ (by omega) ⟨f + 1, by omega, by rw [hg2 f (by omega), pk_mul, nI_add, mod_next]⟩
theorem m_last (l : Launch) (G : GX) (ad : Nat → Nat) (ws : List CE) {n mm np : Nat} {rm sa : Int32} {nj tr : Nat} {sd : Int32} {pn hn : Nat} {kl kp kh : Int32} {hs : Int64} (hO : ws[29]? = some (MO n mm np rm sa nj tr sd pn hn kl kp kh hs)) (hm : 0 < mm) (h6 : mm ≤ 60) (Ln : Nat → Nat) (hl : AI ws 32 60 mm Ln) : Ct l G yX12_last cX12_last 1 (some .int) 0 0 0 ad ws [.ref 29] (pI ad (fun r ws2 => r = nI (Ln (mm - 1)) ∧ ws2 = ws)) := by
  refine Ct.of [some (.ref 29)] (by decide +kernel) (Nat.le_of_ble_eq_true rfl) rfl ?_
  intro p e s m args below meth c A X
  obtain ⟨fl, hl1, hl2⟩ := hl
  refine V_aload_n0 X dX12_last_0 ?_
  refine V_getf X dX12_last_1 fX12_16 (by assumption) (by rfl) ?_
  refine V_aload_n0 X dX12_last_4 ?_
  refine V_getf X dX12_last_5 fX12_72 (by assumption) (by rfl) ?_
  refine V_iconstE X (nI 1) dX12_last_8 (by decide +kernel) ?_
  refine V_isub X dX12_last_9 ?_
  refine V_iald X (mm - 1) dX12_last_10 (by assumption) (pk_sub hm) (by omega) (by omega) ?_
  exact V_iret X dX12_last_11 ⟨hl2 _ (by omega), rfl⟩
theorem m_gap (l : Launch) (G : GX) (ad : Nat → Nat) (ws : List CE) (a b : Nat) (ha : a < 1000000) (hb : b < 1000000) : Ct l G yX12_gap cX12_gap 2 (some .int) 0 0 0 ad ws [.int (nI a), .int (nI b)] (pI ad (fun r ws2 => r = nI (dist a b) ∧ ws2 = ws)) := by
  refine Ct.of [some (.int (nI a)), some (.int (nI b))] (by decide +kernel) (Nat.le_of_ble_eq_true rfl) rfl ?_
  intro p e s m args below meth c A X
  refine V_iload_n0 X dX12_gap_0 ?_
  refine V_iload_n1 X dX12_gap_1 ?_
  refine V_icmp_le X 11 dX12_gap_2 (by decide) (fun h => ?_) (fun h => ?_)
  · have e9 := c_le h
    refine V_iload_n1 X dX12_gap_11 ?_
    refine V_iload_n0 X dX12_gap_12 ?_
    refine V_isub X dX12_gap_13 ?_
    exact V_iret X dX12_gap_14 ⟨by rw [pk_sub e9, dist, if_pos e9], rfl⟩
  · have e9 := c_nle h
    refine V_iload_n0 X dX12_gap_5 ?_
    refine V_iload_n1 X dX12_gap_6 ?_
    refine V_isub X dX12_gap_7 ?_
    refine V_goto X 14 dX12_gap_8 (by decide) ?_
    exact V_iret X dX12_gap_14 ⟨by rw [pk_sub (by omega), dist, if_neg (by omega)], rfl⟩
theorem stepK_alt {k a b : Nat} (ha : a < 10) (hb : b < 10) : stepK k a b = if k = 3 ∧ 5 < dist a b then 10 - dist a b else dist a b := by
  have := dist_lt ha hb
  unfold stepK
  by_cases h3 : k = 3
  · rw [if_pos h3]
    by_cases h5 : 5 < dist a b
    · rw [if_pos ⟨h3, h5⟩]; omega
    · rw [if_neg (fun q => h5 q.2)]; omega
  · rw [if_neg h3, if_neg (fun q => h3 q.1)]
theorem dist_zero {a b : Nat} : dist a b = 0 ↔ a = b := by unfold dist; split <;> omega
theorem gapK_alt (k a b : Nat) (ha : a < 10) (hb : b < 10) : gapK k a b = if (k = 2 ∨ k = 4) ∧ 0 < stepK k a b then 9 else stepK k a b := by
  unfold gapK
  by_cases h : k = 2 ∨ k = 4
  · have h3 : ¬ k = 3 := by omega
    rw [if_pos h, stepK, if_neg h3]
    have hz := dist_zero (a := a) (b := b)
    by_cases e : a = b
    · rw [if_pos e, if_neg (fun q => by have := hz.mpr e; omega), hz.mpr e]
    · have : dist a b ≠ 0 := fun q => e (hz.mp q)
      rw [if_neg e, if_pos ⟨h, by omega⟩]
  · rw [if_neg h, if_neg (fun q : (k = 2 ∨ k = 4) ∧ 0 < stepK k a b => h q.1)]; rfl
theorem m_stepsOf (l : Launch) (G : GX) (ad : Nat → Nat) (ws : List CE) {n mm np : Nat} {rm sa : Int32} {nj tr : Nat} {sd : Int32} {pn hn : Nat} {kl kp kh : Int32} {hs : Int64} (hO : ws[29]? = some (MO n mm np rm sa nj tr sd pn hn kl kp kh hs)) (K : Nat → Nat) (hk : AI ws 30 4 4 K) (hk5 : ∀ f, f < 4 → K f < 5) (f a b : Nat) (hf : f < 4) (ha : a < 2147483648) (hb : b < 2147483648) : Ct l G yX12_stepsOf cX12_stepsOf 5 (some .int) 1 0 0 ad ws [.ref 29, .int (nI f), .int (nI a), .int (nI b)] (pI ad (fun r ws2 => r = nI (stepK (K f) (dg a f) (dg b f)) ∧ ws2 = ws)) := by
  refine Ct.of [some (.ref 29), some (.int (nI f)), some (.int (nI a)), some (.int (nI b)), none] (by decide +kernel) (Nat.le_of_ble_eq_true rfl) rfl ?_
  intro p e s m args below meth c A X
  obtain ⟨fk, hk1, hk2⟩ := hk
  have hd1 := dg_lt a f
  have hd2 := dg_lt b f
  have hd3 := dist_lt hd1 hd2
  have hkf := hk5 f hf
  have ea := stepK_alt (k := K f) hd1 hd2
  refine V_iload_n2 X dX12_stepsOf_0 ?_
  refine V_iload_n1 X dX12_stepsOf_1 ?_
  refine V_cS2I X dX12_stepsOf_2 kX12_94 (m_sizeOf l G ad ws a f ha (by omega)) (Nat.le_of_ble_eq_true rfl) ⟨⟨Nat.le_of_ble_eq_true rfl, Nat.le_of_ble_eq_true rfl⟩, Nat.le_of_ble_eq_true rfl, Nat.le_of_ble_eq_true rfl⟩ (fun r ws2 hc => ?_)
  obtain ⟨rfl, hw9⟩ := hc
  obtain rfl := hw9.symm
  refine V_iload_n3 X dX12_stepsOf_5 ?_
  refine V_iload_n1 X dX12_stepsOf_6 ?_
  refine V_cS2I X dX12_stepsOf_7 kX12_94 (m_sizeOf l G ad ws b f hb (by omega)) (Nat.le_of_ble_eq_true rfl) ⟨⟨Nat.le_of_ble_eq_true rfl, Nat.le_of_ble_eq_true rfl⟩, Nat.le_of_ble_eq_true rfl, Nat.le_of_ble_eq_true rfl⟩ (fun r ws2 hc => ?_)
  obtain ⟨rfl, hw9⟩ := hc
  obtain rfl := hw9.symm
  refine V_cS2I X dX12_stepsOf_10 kX12_108 (m_gap l G ad ws _ _ (by omega) (by omega)) (Nat.le_of_ble_eq_true rfl) ⟨⟨Nat.le_of_ble_eq_true rfl, Nat.le_of_ble_eq_true rfl⟩, Nat.le_of_ble_eq_true rfl, Nat.le_of_ble_eq_true rfl⟩ (fun r ws2 hc => ?_)
  obtain ⟨rfl, hw9⟩ := hc
  obtain rfl := hw9.symm
  refine V_istore_4 X dX12_stepsOf_13 (Nat.le_of_ble_eq_true rfl) rfl ?_
  refine V_aload_n0 X dX12_stepsOf_15 ?_
  refine V_getf X dX12_stepsOf_16 fX12_7 (by assumption) (by rfl) ?_
  refine V_iload_n1 X dX12_stepsOf_19 ?_
  refine V_iald X f dX12_stepsOf_20 (by assumption) rfl hf (by omega) ?_
  refine V_iconstE X (nI 3) dX12_stepsOf_21 (by decide +kernel) ?_
  rw [hk2 f hf]
  refine V_icmp_ne X 39 dX12_stepsOf_22 (by decide) (fun h => ?_) (fun h => ?_)
  · have e9 := c_ne h
    refine V_iload_4 X dX12_stepsOf_39 ?_
    exact V_iret X dX12_stepsOf_41 ⟨by rw [ea, if_neg (fun q => e9 q.1)], rfl⟩
  · have e9 := c_eq h
    refine V_iload_4 X dX12_stepsOf_25 ?_
    refine V_iconstE X (nI 5) dX12_stepsOf_27 (by decide +kernel) ?_
    refine V_icmp_le X 39 dX12_stepsOf_28 (by decide) (fun h2 => ?_) (fun h2 => ?_)
    · have e8 := c_le h2
      refine V_iload_4 X dX12_stepsOf_39 ?_
      exact V_iret X dX12_stepsOf_41 ⟨by rw [ea, if_neg (fun q => by omega)], rfl⟩
    · have e8 := c_nle h2
      refine V_bipushE X (nI 10) dX12_stepsOf_31 (by decide +kernel) ?_
      refine V_iload_4 X dX12_stepsOf_33 ?_
      refine V_isub X dX12_stepsOf_35 ?_
      refine V_goto X 41 dX12_stepsOf_36 (by decide) ?_
      exact V_iret X dX12_stepsOf_41 ⟨by rw [ea, if_pos ⟨e9, e8⟩, pk_sub (by omega)], rfl⟩
theorem m_apartIn (l : Launch) (G : GX) (ad : Nat → Nat) (ws : List CE) {n mm np : Nat} {rm sa : Int32} {nj tr : Nat} {sd : Int32} {pn hn : Nat} {kl kp kh : Int32} {hs : Int64} (hO : ws[29]? = some (MO n mm np rm sa nj tr sd pn hn kl kp kh hs)) (K : Nat → Nat) (hk : AI ws 30 4 4 K) (hk5 : ∀ f, f < 4 → K f < 5) (f a b : Nat) (hf : f < 4) (ha : a < 2147483648) (hb : b < 2147483648) : Ct l G yX12_apartIn cX12_apartIn 5 (some .int) 2 0 0 ad ws [.ref 29, .int (nI f), .int (nI a), .int (nI b)] (pI ad (fun r ws2 => r = nI (gapK (K f) (dg a f) (dg b f)) ∧ ws2 = ws)) := by
  refine Ct.of [some (.ref 29), some (.int (nI f)), some (.int (nI a)), some (.int (nI b)), none] (by decide +kernel) (Nat.le_of_ble_eq_true rfl) rfl ?_
  intro p e s m args below meth c A X
  have hk0 := hk
  obtain ⟨fk, hk1, hk2⟩ := hk
  have hd1 := dg_lt a f
  have hd2 := dg_lt b f
  have hs := stepK_lt (k := K f) hd1 hd2
  have hkf := hk5 f hf
  have ea := gapK_alt (K f) _ _ hd1 hd2
  refine V_aload_n0 X dX12_apartIn_0 ?_
  refine V_iload_n1 X dX12_apartIn_1 ?_
  refine V_iload_n2 X dX12_apartIn_2 ?_
  refine V_iload_n3 X dX12_apartIn_3 ?_
  refine V_cV3I X dX12_apartIn_4 kX12_111 (m_stepsOf l G ad ws hO K hk0 hk5 f a b hf ha hb) (by assumption) (by rfl) (Nat.le_of_ble_eq_true rfl) ⟨⟨Nat.le_of_ble_eq_true rfl, Nat.le_of_ble_eq_true rfl⟩, Nat.le_of_ble_eq_true rfl, Nat.le_of_ble_eq_true rfl⟩ (fun r ws2 hc => ?_)
  obtain ⟨rfl, hw9⟩ := hc
  obtain rfl := hw9.symm
  refine V_istore_4 X dX12_apartIn_7 (Nat.le_of_ble_eq_true rfl) rfl ?_
  refine V_aload_n0 X dX12_apartIn_9 ?_
  refine V_getf X dX12_apartIn_10 fX12_7 (by assumption) (by rfl) ?_
  refine V_iload_n1 X dX12_apartIn_13 ?_
  refine V_iald X f dX12_apartIn_14 (by assumption) rfl hf (by omega) ?_
  refine V_iconstE X (nI 2) dX12_apartIn_15 (by decide +kernel) ?_
  rw [hk2 f hf]
  refine V_icmp_eq X 29 dX12_apartIn_16 (by decide) (fun h => ?_) (fun h => ?_)
  · have e9 := c_eq h
    refine V_iload_4 X dX12_apartIn_29 ?_
    refine V_if_le X 39 dX12_apartIn_31 (by decide) (fun h3 => ?_) (fun h3 => ?_)
    · have e7 := c_le0 h3
      refine V_iload_4 X dX12_apartIn_39 ?_
      exact V_iret X dX12_apartIn_41 ⟨by rw [ea, if_neg (fun q => by omega)], rfl⟩
    · have e7 := c_nle0 h3
      refine V_bipushE X (nI 9) dX12_apartIn_34 (by decide +kernel) ?_
      refine V_goto X 41 dX12_apartIn_36 (by decide) ?_
      exact V_iret X dX12_apartIn_41 ⟨by rw [ea, if_pos ⟨Or.inl e9, e7⟩], rfl⟩
  · have e9 := c_ne h
    refine V_aload_n0 X dX12_apartIn_19 ?_
    refine V_getf X dX12_apartIn_20 fX12_7 (by assumption) (by rfl) ?_
    refine V_iload_n1 X dX12_apartIn_23 ?_
    refine V_iald X f dX12_apartIn_24 (by assumption) rfl hf (by omega) ?_
    refine V_iconstE X (nI 4) dX12_apartIn_25 (by decide +kernel) ?_
    rw [hk2 f hf]
    refine V_icmp_ne X 39 dX12_apartIn_26 (by decide) (fun h2 => ?_) (fun h2 => ?_)
    · have e8 := c_ne h2
      refine V_iload_4 X dX12_apartIn_39 ?_
      exact V_iret X dX12_apartIn_41 ⟨by rw [ea, if_neg (fun q => by omega)], rfl⟩
    · have e8 := c_eq h2
      refine V_iload_4 X dX12_apartIn_29 ?_
      refine V_if_le X 39 dX12_apartIn_31 (by decide) (fun h3 => ?_) (fun h3 => ?_)
      · have e7 := c_le0 h3
        refine V_iload_4 X dX12_apartIn_39 ?_
        exact V_iret X dX12_apartIn_41 ⟨by rw [ea, if_neg (fun q => by omega)], rfl⟩
      · have e7 := c_nle0 h3
        refine V_bipushE X (nI 9) dX12_apartIn_34 (by decide +kernel) ?_
        refine V_goto X 41 dX12_apartIn_36 (by decide) ?_
        exact V_iret X dX12_apartIn_41 ⟨by rw [ea, if_pos ⟨Or.inr e8, e7⟩], rfl⟩
theorem m_apartOf (l : Launch) (G : GX) (ad : Nat → Nat) (ws : List CE) {n mm np : Nat} {rm sa : Int32} {nj tr : Nat} {sd : Int32} {pn hn : Nat} {kl kp kh : Int32} {hs : Int64} (hO : ws[29]? = some (MO n mm np rm sa nj tr sd pn hn kl kp kh hs)) (h4 : n ≤ 4) (K : Nat → Nat) (hk : AI ws 30 4 4 K) (hk5 : ∀ f, f < 4 → K f < 5) (a b : Nat) (ha : a < 2147483648) (hb : b < 2147483648) : Ct l G yX12_apartOf cX12_apartOf 5 (some .int) 3 0 0 ad ws [.ref 29, .int (nI a), .int (nI b)] (pI ad (fun r ws2 => r = nI (gapP n K a b) ∧ ws2 = ws)) := by
  refine Ct.of [some (.ref 29), some (.int (nI a)), some (.int (nI b)), none, none] (by decide +kernel) (Nat.le_of_ble_eq_true rfl) rfl ?_
  intro p e s m args below meth c A X
  refine V_iconstE X (nI 0) dX12_apartOf_0 (by decide +kernel) ?_
  refine V_istore_n3 X dX12_apartOf_1 (Nat.le_of_ble_eq_true rfl) rfl ?_
  refine V_iconstE X (nI 0) dX12_apartOf_2 (by decide +kernel) ?_
  refine V_istore_4 X dX12_apartOf_3 (Nat.le_of_ble_eq_true rfl) rfl ?_
  refine V_loopP (fun k lv2 => ∃ f, f + k = n ∧ lv2 = [some (.ref 29), some (.int (nI a)), some (.int (nI b)), some (.int (nI (gapP f K a b))), some (.int (nI f))]) n ⟨0, by omega, rfl⟩ ?_
  rintro k _ ⟨f, hf, rfl⟩ ih
  refine V_iload_4 X dX12_apartOf_5 ?_
  refine V_aload_n0 X dX12_apartOf_7 ?_
  refine V_getf X dX12_apartOf_8 fX12_65 (by assumption) (by rfl) ?_
  refine V_icmp_ge X 31 dX12_apartOf_11 (by decide) (fun h => ?_) (fun h => ?_)
  · have e9 : f = n := by have := c_le h; omega
    subst e9
    refine V_iload_n3 X dX12_apartOf_31 ?_
    exact V_iret X dX12_apartOf_32 ⟨rfl, rfl⟩
  · have e9 := c_nle h
    refine V_iload_n3 X dX12_apartOf_14 ?_
    refine V_aload_n0 X dX12_apartOf_15 ?_
    refine V_iload_4 X dX12_apartOf_16 ?_
    refine V_iload_n1 X dX12_apartOf_18 ?_
    refine V_iload_n2 X dX12_apartOf_19 ?_
    refine V_cV3I X dX12_apartOf_20 kX12_115 (m_apartIn l G ad ws hO K hk hk5 f a b (by omega) ha hb) (by assumption) (by rfl) (Nat.le_of_ble_eq_true rfl) ⟨⟨Nat.le_of_ble_eq_true rfl, Nat.le_of_ble_eq_true rfl⟩, Nat.le_of_ble_eq_true rfl, Nat.le_of_ble_eq_true rfl⟩ (fun r ws2 hc => ?_)
    obtain ⟨rfl, hw9⟩ := hc
    obtain rfl := hw9.symm
    refine V_iadd X dX12_apartOf_23 ?_
    refine V_istore_n3 X dX12_apartOf_24 (Nat.le_of_ble_eq_true rfl) rfl ?_
    refine V_iinc_4 X dX12_apartOf_25 (Nat.le_of_ble_eq_true rfl) rfl (inc1 _) ?_
    refine V_goto X 5 dX12_apartOf_28 (by decide) ?_
    exact ih (k - 1) _ (by omega) ⟨f + 1, by omega, by rw [nI_add]; rfl⟩
theorem m_tell (l : Launch) (G : GX) (ad : Nat → Nat) (ws : List CE) {n mm np : Nat} {rm sa : Int32} {nj tr : Nat} {sd : Int32} {pn hn : Nat} {kl kp kh : Int32} {hs : Int64} (hO : ws[29]? = some (MO n mm np rm sa nj tr sd pn hn kl kp kh hs)) (K : Nat → Nat) (hk : AI ws 30 4 4 K) (kg : Nat) (hg : AI ws 31 4 4 (dg kg)) (h6 : mm ≤ 60) (Ln : Nat → Nat) (hl : AI ws 32 60 mm Ln) (hL : ∀ i, i < mm → Ln i < 10000) (f : Nat) (hf : f < 4) (x : Int32) : Ct l G yX12_tellFeature cX12_tellFeature 3 (some .int) 1 0 0 ad ws [.ref 29, .int (nI f), .int x] (pI ad (fun r ws2 => r = (if inR 3 x then tellI K kg mm Ln f (valI x) else (-102)) ∧ ws2 = ws)) := by
  refine Ct.of [some (.ref 29), some (.int (nI f)), some (.int x)] (by decide +kernel) (Nat.le_of_ble_eq_true rfl) rfl ?_
  intro p e s m args below meth c A X
  have hl0 := hl
  obtain ⟨fk, hk1, hk2⟩ := hk
  obtain ⟨fg, hg1, hg2⟩ := hg
  refine V_iload_n2 X dX12_tellFeature_0 ?_
  refine V_if_ne X 13 dX12_tellFeature_1 (by decide) (fun h => ?_) (fun h => ?_)
  · refine V_iload_n2 X dX12_tellFeature_13 ?_
    refine V_iconstE X (nI 1) dX12_tellFeature_14 (by decide +kernel) ?_
    refine V_icmp_ne X 27 dX12_tellFeature_15 (by decide) (fun h2 => ?_) (fun h2 => ?_)
    · refine V_iload_n2 X dX12_tellFeature_27 ?_
      refine V_iconstE X (nI 2) dX12_tellFeature_28 (by decide +kernel) ?_
      refine V_icmp_ne X 54 dX12_tellFeature_29 (by decide) (fun h3 => ?_) (fun h3 => ?_)
      · have e9 : inR 3 x = false := by
          cases e : inR 3 x
          · rfl
          · obtain ⟨j, hj, rfl⟩ := inR_of (by decide) e
            have := c_ne0 h
            have := c_ne h2
            have := c_ne h3
            omega
        refine V_bipushE X (-102) dX12_tellFeature_54 (by decide +kernel) ?_
        exact V_iret X dX12_tellFeature_56 ⟨by rw [e9]; rfl, rfl⟩
      · obtain rfl := h3
        refine V_aload_n0 X dX12_tellFeature_32 ?_
        refine V_cV0I X dX12_tellFeature_33 kX12_79 (m_lacks l G ad ws hO h6) (by assumption) (by rfl) (Nat.le_of_ble_eq_true rfl) ⟨⟨Nat.le_of_ble_eq_true rfl, Nat.le_of_ble_eq_true rfl⟩, Nat.le_of_ble_eq_true rfl, Nat.le_of_ble_eq_true rfl⟩ (fun r ws2 hc => ?_)
        obtain ⟨rfl, hw9⟩ := hc
        obtain rfl := hw9.symm
        refine V_if_eq X 43 dX12_tellFeature_36 (by decide) (fun h4 => ?_) (fun h4 => ?_)
        · have e9 := of_decide_eq_false (b_of0 h4)
          have e8 := hL (mm - 1) (by omega)
          refine V_aload_n0 X dX12_tellFeature_43 ?_
          refine V_cV0I X dX12_tellFeature_44 kX12_91 (m_last l G ad ws hO (by omega) h6 Ln hl0) (by assumption) (by rfl) (Nat.le_of_ble_eq_true rfl) ⟨⟨Nat.le_of_ble_eq_true rfl, Nat.le_of_ble_eq_true rfl⟩, Nat.le_of_ble_eq_true rfl, Nat.le_of_ble_eq_true rfl⟩ (fun r ws2 hc => ?_)
          obtain ⟨rfl, hw9⟩ := hc
          obtain rfl := hw9.symm
          refine V_iload_n1 X dX12_tellFeature_47 ?_
          refine V_cS2I X dX12_tellFeature_48 kX12_94 (m_sizeOf l G ad ws _ f (by omega) (by omega)) (Nat.le_of_ble_eq_true rfl) ⟨⟨Nat.le_of_ble_eq_true rfl, Nat.le_of_ble_eq_true rfl⟩, Nat.le_of_ble_eq_true rfl, Nat.le_of_ble_eq_true rfl⟩ (fun r ws2 hc => ?_)
          obtain ⟨rfl, hw9⟩ := hc
          obtain rfl := hw9.symm
          refine V_goto X 56 dX12_tellFeature_51 (by decide) ?_
          exact V_iret X dX12_tellFeature_56 ⟨by rw [if_pos (by decide)]; simp [tellI, valI_nI, e9], rfl⟩
        · have e9 := of_decide_eq_true (b_of1 h4)
          refine V_iconstE X (-1) dX12_tellFeature_39 (by decide +kernel) ?_
          refine V_goto X 56 dX12_tellFeature_40 (by decide) ?_
          exact V_iret X dX12_tellFeature_56 ⟨by rw [if_pos (by decide)]; simp [tellI, valI_nI, e9], rfl⟩
    · obtain rfl := h2
      refine V_aload_n0 X dX12_tellFeature_18 ?_
      refine V_getf X dX12_tellFeature_19 fX12_13 (by assumption) (by rfl) ?_
      refine V_iload_n1 X dX12_tellFeature_22 ?_
      refine V_iald X f dX12_tellFeature_23 (by assumption) rfl hf (by omega) ?_
      refine V_goto X 56 dX12_tellFeature_24 (by decide) ?_
      exact V_iret X dX12_tellFeature_56 ⟨by rw [if_pos (by decide), hg2 f hf]; simp [tellI, valI_nI], rfl⟩
  · obtain rfl : x = nI 0 := h.trans nI_0.symm
    refine V_aload_n0 X dX12_tellFeature_4 ?_
    refine V_getf X dX12_tellFeature_5 fX12_7 (by assumption) (by rfl) ?_
    refine V_iload_n1 X dX12_tellFeature_8 ?_
    refine V_iald X f dX12_tellFeature_9 (by assumption) rfl hf (by omega) ?_
    refine V_goto X 56 dX12_tellFeature_10 (by decide) ?_
    exact V_iret X dX12_tellFeature_56 ⟨by rw [if_pos (by decide), hk2 f hf]; simp [tellI, valI_nI], rfl⟩
theorem m_keepKing (l : Launch) (G : GX) (ad : Nat → Nat) (ws : List CE) {n mm np : Nat} {rm sa : Int32} {nj tr : Nat} {sd : Int32} {pn hn : Nat} {kl kp kh : Int32} {hs : Int64} (hO : ws[29]? = some (MO n mm np rm sa nj tr sd pn hn kl kp kh hs)) (kg : Nat) (hg : AI ws 31 4 4 (dg kg)) (ft : Nat → Int32) (ht : ws[33]? = some (iA 4 ft)) : Ct l G yX12_keepKing cX12_keepKing 2 none 0 0 0 ad ws [.ref 29] (pV ad (fun ws2 => AI ws2 33 4 4 (dg kg) ∧ fr [33] ws ws2)) := by
  refine Ct.of [some (.ref 29), none] (by decide +kernel) (Nat.le_of_ble_eq_true rfl) rfl ?_
  intro p e s m args below meth c A X
  obtain ⟨fg, hg1, hg2⟩ := hg
  refine V_iconstE X (nI 0) dX12_keepKing_0 (by decide +kernel) ?_
  refine V_istore_n1 X dX12_keepKing_1 (Nat.le_of_ble_eq_true rfl) rfl ?_
  refine V_loop (fun k wk lv2 => ∃ f, f + k = 4 ∧ AI wk 33 4 f (dg kg) ∧ fr [33] ws wk ∧ lv2 = [some (.ref 29), some (.int (nI f))]) 4 ⟨0, by omega, ⟨ft, ht, fun i hi => by omega⟩, fr.rfl, rfl⟩ ?_
  rintro k wk _ ⟨f, hf, ⟨ff, hf1, hf2⟩, hfr, rfl⟩ ih
  have hO2 := hfr.get (by decide) hO
  have hg3 := hfr.get (by decide) hg1
  refine V_iload_n1 X dX12_keepKing_2 ?_
  refine V_iconstE X (nI 4) dX12_keepKing_3 (by decide +kernel) ?_
  refine V_icmp_ge X 25 dX12_keepKing_4 (by decide) (fun h => ?_) (fun h => ?_)
  · have e9 : f = 4 := by have := c_le h; omega
    subst e9
    exact V_vret X dX12_keepKing_25 ⟨⟨ff, hf1, hf2⟩, hfr⟩
  · have e9 := c_nle h
    refine V_aload_n0 X dX12_keepKing_7 ?_
    refine V_getf X dX12_keepKing_8 fX12_19 (by assumption) (by rfl) ?_
    refine V_iload_n1 X dX12_keepKing_11 ?_
    refine V_aload_n0 X dX12_keepKing_12 ?_
    refine V_getf X dX12_keepKing_13 fX12_13 (by assumption) (by rfl) ?_
    refine V_iload_n1 X dX12_keepKing_16 ?_
    refine V_iald X f dX12_keepKing_17 (by assumption) rfl e9 (by omega) ?_
    refine V_iast X f dX12_keepKing_18 (by assumption) rfl e9 (by omega) ?_
    refine V_iinc_1 X dX12_keepKing_19 (Nat.le_of_ble_eq_true rfl) rfl (inc1 _) ?_
    refine V_goto X 2 dX12_keepKing_22 (by decide) ?_
    refine ih (k - 1) _ _ (by omega) ⟨f + 1, by omega, ⟨_, gset hf1, fun i hi => ?_⟩, hfr.set (by decide), rfl⟩
    by_cases e : i = f
    · subst e; rw [pk_us]; exact hg2 _ e9
    · rw [pk_un e]; exact hf2 i (by omega)
theorem m_putBack (l : Launch) (G : GX) (ad : Nat → Nat) (ws : List CE) {n mm np : Nat} {rm sa : Int32} {nj tr : Nat} {sd : Int32} {pn hn : Nat} {kl kp kh : Int32} {hs : Int64} (hO : ws[29]? = some (MO n mm np rm sa nj tr sd pn hn kl kp kh hs)) (kg : Nat) (ht : AI ws 33 4 4 (dg kg)) (ff0 : Nat → Int32) (hg : ws[31]? = some (iA 4 ff0)) : Ct l G yX12_putBack cX12_putBack 2 none 0 0 0 ad ws [.ref 29] (pV ad (fun ws2 => AI ws2 31 4 4 (dg kg) ∧ fr [31] ws ws2)) := by
  refine Ct.of [some (.ref 29), none] (by decide +kernel) (Nat.le_of_ble_eq_true rfl) rfl ?_
  intro p e s m args below meth c A X
  obtain ⟨fg, hg1, hg2⟩ := ht
  refine V_iconstE X (nI 0) dX12_putBack_0 (by decide +kernel) ?_
  refine V_istore_n1 X dX12_putBack_1 (Nat.le_of_ble_eq_true rfl) rfl ?_
  refine V_loop (fun k wk lv2 => ∃ f, f + k = 4 ∧ AI wk 31 4 f (dg kg) ∧ fr [31] ws wk ∧ lv2 = [some (.ref 29), some (.int (nI f))]) 4 ⟨0, by omega, ⟨ff0, hg, fun i hi => by omega⟩, fr.rfl, rfl⟩ ?_
  rintro k wk _ ⟨f, hf, ⟨ff, hf1, hf2⟩, hfr, rfl⟩ ih
  have hO2 := hfr.get (by decide) hO
  have hg3 := hfr.get (by decide) hg1
  refine V_iload_n1 X dX12_putBack_2 ?_
  refine V_iconstE X (nI 4) dX12_putBack_3 (by decide +kernel) ?_
  refine V_icmp_ge X 25 dX12_putBack_4 (by decide) (fun h => ?_) (fun h => ?_)
  · have e9 : f = 4 := by have := c_le h; omega
    subst e9
    exact V_vret X dX12_putBack_25 ⟨⟨ff, hf1, hf2⟩, hfr⟩
  · have e9 := c_nle h
    refine V_aload_n0 X dX12_putBack_7 ?_
    refine V_getf X dX12_putBack_8 fX12_13 (by assumption) (by rfl) ?_
    refine V_iload_n1 X dX12_putBack_11 ?_
    refine V_aload_n0 X dX12_putBack_12 ?_
    refine V_getf X dX12_putBack_13 fX12_19 (by assumption) (by rfl) ?_
    refine V_iload_n1 X dX12_putBack_16 ?_
    refine V_iald X f dX12_putBack_17 (by assumption) rfl e9 (by omega) ?_
    refine V_iast X f dX12_putBack_18 (by assumption) rfl e9 (by omega) ?_
    refine V_iinc_1 X dX12_putBack_19 (Nat.le_of_ble_eq_true rfl) rfl (inc1 _) ?_
    refine V_goto X 2 dX12_putBack_22 (by decide) ?_
    refine ih (k - 1) _ _ (by omega) ⟨f + 1, by omega, ⟨_, gset hf1, fun i hi => ?_⟩, hfr.set (by decide), rfl⟩
    by_cases e : i = f
    · subst e; rw [pk_us]; exact hg2 _ e9
    · rw [pk_un e]; exact hf2 i (by omega)
