/-! the reference: ages, slips, the past, the strictest, the gate -/
theorem agedP_zero (K : Nat → Nat) (p : Nat) : agedP 0 K p = p := by simp [agedP, sumF]
set_option maxHeartbeats 1000000 in
theorem m_age (l : Launch) (G : GX) (ad : Nat → Nat) (ws : List CE) {n mm np : Nat} {rm sa : Int32} {nj tr : Nat} {sd : Int32} {pn hn : Nat} {kl kp kh : Int32} {hs : Int64} (hO : ws[29]? = some (MO n mm np rm sa nj tr sd pn hn kl kp kh hs)) (h4 : n ≤ 4) (K : Nat → Nat) (hk : AI ws 30 4 4 K) (hk5 : ∀ f, f < 4 → K f < 5) (kg : Nat) (hg : AI ws 31 4 4 (dg kg)) : Ct l G yX12_age cX12_age 2 none 0 0 0 ad ws [.ref 29] (pV ad (fun ws2 => AI ws2 31 4 4 (dg (agedP n K kg)) ∧ fr [31] ws ws2)) := by
  refine Ct.of [some (.ref 29), none] (by decide +kernel) (Nat.le_of_ble_eq_true rfl) rfl ?_
  intro p e s m args below meth c A X
  obtain ⟨fk, hk1, hk2⟩ := hk
  refine V_iconstE X (nI 0) dX12_age_0 (by decide +kernel) ?_
  refine V_istore_n1 X dX12_age_1 (Nat.le_of_ble_eq_true rfl) rfl ?_
  refine V_loop (fun k wk lv2 => ∃ f, f + k = n ∧ AI wk 31 4 4 (dg (agedP f K kg)) ∧ fr [31] ws wk ∧ lv2 = [some (.ref 29), some (.int (nI f))]) n ⟨0, by omega, by rw [agedP_zero]; exact hg, fr.rfl, rfl⟩ ?_
  rintro k wk _ ⟨f, hf, ⟨ff, hf1, hf2⟩, hfr, rfl⟩ ih
  have hO2 := hfr.get (by decide) hO
  have hk3 := hfr.get (by decide) hk1
  refine V_iload_n1 X dX12_age_2 ?_
  refine V_aload_n0 X dX12_age_3 ?_
  refine V_getf X dX12_age_4 fX12_65 (by assumption) (by rfl) ?_
  refine V_icmp_ge X 82 dX12_age_7 (by decide) (fun h => ?_) (fun h => ?_)
  · have e9 : f = n := by have := c_le h; omega
    subst e9
    exact V_vret X dX12_age_82 ⟨⟨ff, hf1, hf2⟩, hfr⟩
  · have e9 := c_nle h
    have hd := dg_lt kg f
    have hkf := hk5 f (by omega)
    have hff : ff f = nI (dg kg f) := by rw [hf2 f (by omega), dg_agedP]
    have fin : ∀ x : Int32, x = nI (agedK (K f) (dg kg f)) → V p l e (rmm 0 0 0) s m args below meth c 0 0 (MQ below (QQ G A (pV ad (fun ws2 => AI ws2 31 4 4 (dg (agedP n K kg)) ∧ fr [31] ws ws2))) args s 0 0 A) G A 2 ad wk 75 [some (.ref 29), some (.int (nI f))] [.int x, .int (nI f), .ref 31] := by
      rintro x rfl
      refine V_iast X f dX12_age_75 (by assumption) rfl (by omega) (by omega) ?_
      refine V_iinc_1 X dX12_age_76 (Nat.le_of_ble_eq_true rfl) rfl (inc1 _) ?_
      refine V_goto X 2 dX12_age_79 (by decide) ?_
      refine ih (k - 1) _ _ (by omega) ⟨f + 1, by omega, ⟨_, gset hf1, fun i hi => ?_⟩, hfr.set (by decide), rfl⟩
      rw [← agedP_step]
      by_cases e : i = f
      · subst e; rw [pk_us, dg_withP_self (agedK_lt hd)]
      · rw [pk_un e, dg_withP_ne (agedK_lt hd) e]; exact hf2 i hi
    refine V_aload_n0 X dX12_age_10 ?_
    refine V_getf X dX12_age_11 fX12_13 (by assumption) (by rfl) ?_
    refine V_iload_n1 X dX12_age_14 ?_
    refine V_aload_n0 X dX12_age_15 ?_
    refine V_getf X dX12_age_16 fX12_7 (by assumption) (by rfl) ?_
    refine V_iload_n1 X dX12_age_19 ?_
    refine V_iald X f dX12_age_20 (by assumption) rfl (by omega) (by omega) ?_
    refine V_iconstE X (nI 1) dX12_age_21 (by decide +kernel) ?_
    rw [hk2 f (by omega)]
    have rest : ¬ (K f = 1 ∧ 0 < dg kg f) → V p l e (rmm 0 0 0) s m args below meth c 0 0 (MQ below (QQ G A (pV ad (fun ws2 => AI ws2 31 4 4 (dg (agedP n K kg)) ∧ fr [31] ws ws2))) args s 0 0 A) G A 2 ad wk 45 [some (.ref 29), some (.int (nI f))] [.int (nI f), .ref 31] := by
      intro e8
      refine V_aload_n0 X dX12_age_45 ?_
      refine V_getf X dX12_age_46 fX12_7 (by assumption) (by rfl) ?_
      refine V_iload_n1 X dX12_age_49 ?_
      refine V_iald X f dX12_age_50 (by assumption) rfl (by omega) (by omega) ?_
      refine V_iconstE X (nI 3) dX12_age_51 (by decide +kernel) ?_
      rw [hk2 f (by omega)]
      refine V_icmp_ne X 69 dX12_age_52 (by decide) (fun h3 => ?_) (fun h3 => ?_)
      · have e7 := c_ne h3
        refine V_aload_n0 X dX12_age_69 ?_
        refine V_getf X dX12_age_70 fX12_13 (by assumption) (by rfl) ?_
        refine V_iload_n1 X dX12_age_73 ?_
        refine V_iald X f dX12_age_74 (by assumption) rfl (by omega) (by omega) ?_
        refine fin _ ?_
        rw [hff, agedK]
        by_cases e1 : K f = 1
        · rw [if_pos e1, show dg kg f = 0 by omega]
        · rw [if_neg e1, if_neg e7]
      · have e7 := c_eq h3
        refine V_aload_n0 X dX12_age_55 ?_
        refine V_getf X dX12_age_56 fX12_13 (by assumption) (by rfl) ?_
        refine V_iload_n1 X dX12_age_59 ?_
        refine V_iald X f dX12_age_60 (by assumption) rfl (by omega) (by omega) ?_
        refine V_iconstE X (nI 1) dX12_age_61 (by decide +kernel) ?_
        refine V_iadd X dX12_age_62 ?_
        refine V_bipushE X (nI 10) dX12_age_63 (by decide +kernel) ?_
        refine V_irem X dX12_age_65 (by decide +kernel) ?_
        refine V_goto X 75 dX12_age_66 (by decide) ?_
        refine fin _ ?_
        rw [hff, agedK, if_neg (by omega), if_pos e7, nI_add]
        exact pk_rem (by omega) (by decide) (by decide)
    refine V_icmp_ne X 45 dX12_age_22 (by decide) (fun h2 => ?_) (fun h2 => ?_)
    · have e8 := c_ne h2
      exact rest (fun q => e8 q.1)
    · have e8 := c_eq h2
      refine V_aload_n0 X dX12_age_25 ?_
      refine V_getf X dX12_age_26 fX12_13 (by assumption) (by rfl) ?_
      refine V_iload_n1 X dX12_age_29 ?_
      refine V_iald X f dX12_age_30 (by assumption) rfl (by omega) (by omega) ?_
      rw [hff]
      refine V_if_le X 45 dX12_age_31 (by decide) (fun h3 => ?_) (fun h3 => ?_)
      · have e7 := c_le0 h3
        exact rest (fun q => by omega)
      · have e7 := c_nle0 h3
        refine V_aload_n0 X dX12_age_34 ?_
        refine V_getf X dX12_age_35 fX12_13 (by assumption) (by rfl) ?_
        refine V_iload_n1 X dX12_age_38 ?_
        refine V_iald X f dX12_age_39 (by assumption) rfl (by omega) (by omega) ?_
        refine V_iconstE X (nI 1) dX12_age_40 (by decide +kernel) ?_
        refine V_isub X dX12_age_41 ?_
        refine V_goto X 75 dX12_age_42 (by decide) ?_
        refine fin _ ?_
        rw [hff, agedK, if_pos e8, pk_sub (by omega)]
def slipQ (K : Nat → Nat) (p f : Nat) (up : Bool) : Nat := (slipP K p f up).getD p
set_option maxHeartbeats 1000000 in
theorem m_slipOf (l : Launch) (G : GX) (ad : Nat → Nat) (ws : List CE) {n mm np : Nat} {rm sa : Int32} {nj tr : Nat} {sd : Int32} {pn hn : Nat} {kl kp kh : Int32} {hs : Int64} (hO : ws[29]? = some (MO n mm np rm sa nj tr sd pn hn kl kp kh hs)) (K : Nat → Nat) (hk : AI ws 30 4 4 K) (hk5 : ∀ f, f < 4 → K f < 5) (a f : Nat) (up : Bool) (hf : f < 4) (ha : a < 2147483648) : Ct l G yX12_slipOf cX12_slipOf 6 (some .int) 1 0 0 ad ws [.ref 29, .int (nI a), .int (nI f), .int (bI up)] (pI ad (fun r ws2 => r = nI (slipQ K a f up) ∧ ws2 = ws)) := by
  refine Ct.of [some (.ref 29), some (.int (nI a)), some (.int (nI f)), some (.int (bI up)), none, none] (by decide +kernel) (Nat.le_of_ble_eq_true rfl) rfl ?_
  intro p e s m args below meth c A X
  obtain ⟨fk, hk1, hk2⟩ := hk
  have hd := dg_lt a f
  have hkf := hk5 f hf
  refine V_iload_n1 X dX12_slipOf_0 ?_
  refine V_iload_n2 X dX12_slipOf_1 ?_
  refine V_cS2I X dX12_slipOf_2 kX12_94 (m_sizeOf l G ad ws a f ha (by omega)) (Nat.le_of_ble_eq_true rfl) ⟨⟨Nat.le_of_ble_eq_true rfl, Nat.le_of_ble_eq_true rfl⟩, Nat.le_of_ble_eq_true rfl, Nat.le_of_ble_eq_true rfl⟩ (fun r ws2 hc => ?_)
  obtain ⟨rfl, hw9⟩ := hc
  obtain rfl := hw9.symm
  have fin : ∀ t : Int32, (∀ v, slipK (K f) (dg a f) up = some v → t = nI v) → (slipK (K f) (dg a f) up = none → inR 10 t = false) → V p l e (rmm 1 0 0) s m args below meth c 0 0 (MQ below (QQ G A (pI ad (fun r ws2 => r = nI (slipQ K a f up) ∧ ws2 = ws))) args s 0 0 A) G A 6 ad ws 48 [some (.ref 29), some (.int (nI a)), some (.int (nI f)), some (.int (bI up)), some (.int (nI (dg a f))), some (.int (if up then nI (dg a f) + nI 1 else nI (dg a f) - nI 1))] [.int t] := by
    intro t h1 h2
    refine V_istore_5 X dX12_slipOf_48 (Nat.le_of_ble_eq_true rfl) rfl ?_
    refine V_iload_5 X dX12_slipOf_50 ?_
    refine V_i2l X dX12_slipOf_52 ?_
    refine V_lconstE X (lN 0) dX12_slipOf_53 (by decide +kernel) ?_
    refine V_ldc2 X dX12_slipOf_54 w_899 ?_
    refine V_cS3I X dX12_slipOf_57 kX12_68 (m_in l G ad ws _ _ _) (Nat.le_of_ble_eq_true rfl) ⟨⟨Nat.le_of_ble_eq_true rfl, Nat.le_of_ble_eq_true rfl⟩, Nat.le_of_ble_eq_true rfl, Nat.le_of_ble_eq_true rfl⟩ (fun r ws2 hc => ?_)
    obtain ⟨rfl, hw9⟩ := hc
    obtain rfl := hw9.symm
    rw [inL_k (n := 10) (by decide) (by decide +kernel)]
    cases hs : slipK (K f) (dg a f) up with
    | none =>
      rw [h2 hs]
      refine V_if_eq X 78 dX12_slipOf_60 (by decide) (fun h3 => ?_) (fun h3 => ?_)
      · refine V_iload_n1 X dX12_slipOf_78 ?_
        exact V_iret X dX12_slipOf_79 ⟨by rw [slipQ, slipP, hs]; rfl, rfl⟩
      · exact absurd (show bI false = 0 by decide) h3
    | some v =>
      have hv := slipK_lt hd hs
      obtain rfl := h1 v hs
      rw [inR_nI (by decide) (by omega), decide_eq_true hv]
      refine V_if_eq X 78 dX12_slipOf_60 (by decide) (fun h3 => ?_) (fun h3 => ?_)
      · exact absurd h3 (show ¬ bI true = 0 by decide)
      · refine V_iload_n1 X dX12_slipOf_63 ?_
        refine V_iload_n2 X dX12_slipOf_64 ?_
        refine V_cS1I X dX12_slipOf_65 kX12_87 (m_unit l G ad ws f hf) (Nat.le_of_ble_eq_true rfl) ⟨⟨Nat.le_of_ble_eq_true rfl, Nat.le_of_ble_eq_true rfl⟩, Nat.le_of_ble_eq_true rfl, Nat.le_of_ble_eq_true rfl⟩ (fun r ws2 hc => ?_)
        obtain ⟨rfl, hw9⟩ := hc
        obtain rfl := hw9.symm
        refine V_iload_5 X dX12_slipOf_68 ?_
        refine V_iload_4 X dX12_slipOf_70 ?_
        refine V_isub X dX12_slipOf_72 ?_
        refine V_imul X dX12_slipOf_73 ?_
        refine V_iadd X dX12_slipOf_74 ?_
        refine V_goto X 79 dX12_slipOf_75 (by decide) ?_
        exact V_iret X dX12_slipOf_79 ⟨by rw [slipQ, slipP, hs, Int32.mul_comm]; exact i32_withP a f v, rfl⟩
  have mid : V p l e (rmm 1 0 0) s m args below meth c 0 0 (MQ below (QQ G A (pI ad (fun r ws2 => r = nI (slipQ K a f up) ∧ ws2 = ws))) args s 0 0 A) G A 6 ad ws 23 [some (.ref 29), some (.int (nI a)), some (.int (nI f)), some (.int (bI up)), some (.int (nI (dg a f))), none] [.int (if up then nI (dg a f) + nI 1 else nI (dg a f) - nI 1)] := by
    refine V_istore_5 X dX12_slipOf_23 (Nat.le_of_ble_eq_true rfl) rfl ?_
    refine V_aload_n0 X dX12_slipOf_25 ?_
    refine V_getf X dX12_slipOf_26 fX12_7 (by assumption) (by rfl) ?_
    refine V_iload_n2 X dX12_slipOf_29 ?_
    refine V_iald X f dX12_slipOf_30 (by assumption) rfl hf (by omega) ?_
    refine V_iconstE X (nI 3) dX12_slipOf_31 (by decide +kernel) ?_
    rw [hk2 f hf]
    refine V_icmp_ne X 46 dX12_slipOf_32 (by decide) (fun h => ?_) (fun h => ?_)
    · have e9 := c_ne h
      refine V_iload_5 X dX12_slipOf_46 ?_
      refine fin _ (fun v hv => ?_) (fun hv => ?_)
      · rw [slipK, if_neg e9] at hv
        cases up with
        | true =>
          rw [if_pos rfl] at hv
          split at hv
          · cases hv
          · cases hv; rw [if_pos rfl, nI_add]
        | false =>
          rw [if_neg (by decide)] at hv
          split at hv
          · cases hv
          · cases hv; rw [if_neg (by decide), pk_sub (by omega)]
      · rw [slipK, if_neg e9] at hv
        cases up with
        | true =>
          rw [if_pos rfl] at hv
          split at hv
          · rw [if_pos rfl, nI_add, inR_nI (by decide) (by omega), decide_eq_false (by omega)]
          · cases hv
        | false =>
          rw [if_neg (by decide)] at hv
          split at hv
          · rename_i q
            rw [if_neg (by decide), q]; decide +kernel
          · cases hv
    · have e9 := c_eq h
      refine V_iload_5 X dX12_slipOf_35 ?_
      refine V_bipushE X (nI 10) dX12_slipOf_37 (by decide +kernel) ?_
      refine V_iadd X dX12_slipOf_39 ?_
      refine V_bipushE X (nI 10) dX12_slipOf_40 (by decide +kernel) ?_
      refine V_irem X dX12_slipOf_42 (by decide +kernel) ?_
      refine V_goto X 48 dX12_slipOf_43 (by decide) ?_
      refine fin _ (fun v hv => ?_) (fun hv => ?_)
      · rw [slipK, if_pos e9] at hv
        cases hv
        cases up with
        | true =>
          rw [if_pos rfl, if_pos rfl, nI_add, nI_add]
          refine (pk_rem (by omega) (by decide) (by decide)).trans ?_
          congr 1
          omega
        | false =>
          rw [if_neg (by decide), if_neg (by decide)]
          have : nI (dg a f) - nI 1 + nI 10 = nI (dg a f + 9) := by
            rw [← nI_add (dg a f) 9, Int32.sub_eq_add_neg, Int32.add_assoc]
            congr 1
          rw [this]
          exact pk_rem (by omega) (by decide) (by decide)
      · rw [slipK, if_pos e9] at hv
        cases hv
  refine V_istore_4 X dX12_slipOf_5 (Nat.le_of_ble_eq_true rfl) rfl ?_
  refine V_iload_n3 X dX12_slipOf_7 ?_
  refine V_iconstE X (nI 1) dX12_slipOf_8 (by decide +kernel) ?_
  refine V_icmp_ne X 19 dX12_slipOf_9 (by decide) (fun h => ?_) (fun h => ?_)
  · have e9 : up = false := by
      cases up
      · rfl
      · exact absurd (by rfl) h
    subst e9
    refine V_iload_4 X dX12_slipOf_19 ?_
    refine V_iconstE X (nI 1) dX12_slipOf_21 (by decide +kernel) ?_
    refine V_isub X dX12_slipOf_22 ?_
    exact mid
  · have e9 : up = true := by
      cases up
      · exact absurd h (by decide)
      · rfl
    subst e9
    refine V_iload_4 X dX12_slipOf_12 ?_
    refine V_iconstE X (nI 1) dX12_slipOf_14 (by decide +kernel) ?_
    refine V_iadd X dX12_slipOf_15 ?_
    refine V_goto X 23 dX12_slipOf_16 (by decide) ?_
    exact mid
theorem m_madeTrue (l : Launch) (G : GX) (ad : Nat → Nat) (ws : List CE) {n mm np : Nat} {rm sa : Int32} {nj tr : Nat} {sd : Int32} {pn hn : Nat} {kl kp kh : Int32} {hs : Int64} (hO : ws[29]? = some (MO n mm np rm sa nj tr sd pn hn kl kp kh hs)) (h4 : n ≤ 4) (kg : Nat) (hg : AI ws 31 4 4 (dg kg)) (a f : Nat) (hf : f ≤ n) (ha : a < 2147483648) : Ct l G yX12_madeTrue cX12_madeTrue 3 (some .int) 1 0 0 ad ws [.ref 29, .int (nI a), .int (nI f)] (pI ad (fun r ws2 => r = nI (if f = n then a else withP a f (dg kg f)) ∧ ws2 = ws)) := by
  refine Ct.of [some (.ref 29), some (.int (nI a)), some (.int (nI f))] (by decide +kernel) (Nat.le_of_ble_eq_true rfl) rfl ?_
  intro p e s m args below meth c A X
  obtain ⟨fg, hg1, hg2⟩ := hg
  refine V_iload_n2 X dX12_madeTrue_0 ?_
  refine V_aload_n0 X dX12_madeTrue_1 ?_
  refine V_getf X dX12_madeTrue_2 fX12_65 (by assumption) (by rfl) ?_
  refine V_icmp_ne X 12 dX12_madeTrue_5 (by decide) (fun h => ?_) (fun h => ?_)
  · have e9 := c_ne h
    refine V_iload_n1 X dX12_madeTrue_12 ?_
    refine V_iload_n2 X dX12_madeTrue_13 ?_
    refine V_cS1I X dX12_madeTrue_14 kX12_87 (m_unit l G ad ws f (by omega)) (Nat.le_of_ble_eq_true rfl) ⟨⟨Nat.le_of_ble_eq_true rfl, Nat.le_of_ble_eq_true rfl⟩, Nat.le_of_ble_eq_true rfl, Nat.le_of_ble_eq_true rfl⟩ (fun r ws2 hc => ?_)
    obtain ⟨rfl, hw9⟩ := hc
    obtain rfl := hw9.symm
    refine V_aload_n0 X dX12_madeTrue_17 ?_
    refine V_getf X dX12_madeTrue_18 fX12_13 (by assumption) (by rfl) ?_
    refine V_iload_n2 X dX12_madeTrue_21 ?_
    refine V_iald X f dX12_madeTrue_22 (by assumption) rfl (by omega) (by omega) ?_
    refine V_iload_n1 X dX12_madeTrue_23 ?_
    refine V_iload_n2 X dX12_madeTrue_24 ?_
    refine V_cS2I X dX12_madeTrue_25 kX12_94 (m_sizeOf l G ad ws a f ha (by omega)) (Nat.le_of_ble_eq_true rfl) ⟨⟨Nat.le_of_ble_eq_true rfl, Nat.le_of_ble_eq_true rfl⟩, Nat.le_of_ble_eq_true rfl, Nat.le_of_ble_eq_true rfl⟩ (fun r ws2 hc => ?_)
    obtain ⟨rfl, hw9⟩ := hc
    obtain rfl := hw9.symm
    refine V_isub X dX12_madeTrue_28 ?_
    refine V_imul X dX12_madeTrue_29 ?_
    refine V_iadd X dX12_madeTrue_30 ?_
    exact V_iret X dX12_madeTrue_31 ⟨by rw [if_neg e9, hg2 f (by omega), Int32.mul_comm]; exact i32_withP a f _, rfl⟩
  · have e9 := c_eq h
    refine V_iload_n1 X dX12_madeTrue_8 ?_
    refine V_goto X 31 dX12_madeTrue_9 (by decide) ?_
    exact V_iret X dX12_madeTrue_31 ⟨by rw [if_pos e9], rfl⟩
theorem m_backOf (l : Launch) (G : GX) (ad : Nat → Nat) (ws : List CE) {n mm np : Nat} {rm sa : Int32} {nj tr : Nat} {sd : Int32} {pn hn : Nat} {kl kp kh : Int32} {hs : Int64} (hO : ws[29]? = some (MO n mm np rm sa nj tr sd pn hn kl kp kh hs)) (h4 : n ≤ 4) (hm : 0 < mm) (h6 : mm ≤ 60) (Ln : Nat → Nat) (hl : AI ws 32 60 mm Ln) (hL : ∀ i, i < mm → Ln i < 10000) (K : Nat → Nat) (hk : AI ws 30 4 4 K) (hk5 : ∀ f, f < 4 → K f < 5) (a : Nat) (ha : a < 2147483648) : Ct l G yX12_backOf cX12_backOf 4 (some .int) 3 0 0 ad ws [.ref 29, .int (nI a)] (pI ad (fun r ws2 => r = nI (stepP n K a (Ln (mm - 1))) ∧ ws2 = ws)) := by
  refine Ct.of [some (.ref 29), some (.int (nI a)), none, none] (by decide +kernel) (Nat.le_of_ble_eq_true rfl) rfl ?_
  intro p e s m args below meth c A X
  have hla := hL (mm - 1) (by omega)
  refine V_iconstE X (nI 0) dX12_backOf_0 (by decide +kernel) ?_
  refine V_istore_n2 X dX12_backOf_1 (Nat.le_of_ble_eq_true rfl) rfl ?_
  refine V_iconstE X (nI 0) dX12_backOf_2 (by decide +kernel) ?_
  refine V_istore_n3 X dX12_backOf_3 (Nat.le_of_ble_eq_true rfl) rfl ?_
  refine V_loopP (fun k lv2 => ∃ f, f + k = n ∧ lv2 = [some (.ref 29), some (.int (nI a)), some (.int (nI (stepP f K a (Ln (mm - 1))))), some (.int (nI f))]) n ⟨0, by omega, rfl⟩ ?_
  rintro k _ ⟨f, hf, rfl⟩ ih
  refine V_iload_n3 X dX12_backOf_4 ?_
  refine V_aload_n0 X dX12_backOf_5 ?_
  refine V_getf X dX12_backOf_6 fX12_65 (by assumption) (by rfl) ?_
  refine V_icmp_ge X 31 dX12_backOf_9 (by decide) (fun h => ?_) (fun h => ?_)
  · have e9 : f = n := by have := c_le h; omega
    subst e9
    refine V_iload_n2 X dX12_backOf_31 ?_
    exact V_iret X dX12_backOf_32 ⟨rfl, rfl⟩
  · have e9 := c_nle h
    refine V_iload_n2 X dX12_backOf_12 ?_
    refine V_aload_n0 X dX12_backOf_13 ?_
    refine V_iload_n3 X dX12_backOf_14 ?_
    refine V_iload_n1 X dX12_backOf_15 ?_
    refine V_aload_n0 X dX12_backOf_16 ?_
    refine V_cV0I X dX12_backOf_17 kX12_91 (m_last l G ad ws hO hm h6 Ln hl) (by assumption) (by rfl) (Nat.le_of_ble_eq_true rfl) ⟨⟨Nat.le_of_ble_eq_true rfl, Nat.le_of_ble_eq_true rfl⟩, Nat.le_of_ble_eq_true rfl, Nat.le_of_ble_eq_true rfl⟩ (fun r ws2 hc => ?_)
    obtain ⟨rfl, hw9⟩ := hc
    obtain rfl := hw9.symm
    refine V_cV3I X dX12_backOf_20 kX12_111 (m_stepsOf l G ad ws hO K hk hk5 f a _ (by omega) ha (by omega)) (by assumption) (by rfl) (Nat.le_of_ble_eq_true rfl) ⟨⟨Nat.le_of_ble_eq_true rfl, Nat.le_of_ble_eq_true rfl⟩, Nat.le_of_ble_eq_true rfl, Nat.le_of_ble_eq_true rfl⟩ (fun r ws2 hc => ?_)
    obtain ⟨rfl, hw9⟩ := hc
    obtain rfl := hw9.symm
    refine V_iadd X dX12_backOf_23 ?_
    refine V_istore_n2 X dX12_backOf_24 (Nat.le_of_ble_eq_true rfl) rfl ?_
    refine V_iinc_3 X dX12_backOf_25 (Nat.le_of_ble_eq_true rfl) rfl (inc1 _) ?_
    refine V_goto X 4 dX12_backOf_28 (by decide) ?_
    exact ih (k - 1) _ (by omega) ⟨f + 1, by omega, by rw [nI_add]; rfl⟩
theorem m_spanOf (l : Launch) (G : GX) (ad : Nat → Nat) (ws : List CE) {n mm np : Nat} {rm sa : Int32} {nj tr : Nat} {sd : Int32} {pn hn : Nat} {kl kp kh : Int32} {hs : Int64} (hO : ws[29]? = some (MO n mm np rm sa nj tr sd pn hn kl kp kh hs)) (h4 : n ≤ 4) (hm : 0 < mm) (h6 : mm ≤ 60) (Ln : Nat → Nat) (hl : AI ws 32 60 mm Ln) (hL : ∀ i, i < mm → Ln i < 10000) (K : Nat → Nat) (hk : AI ws 30 4 4 K) (hk5 : ∀ f, f < 4 → K f < 5) (years : Nat) (hy : years < 100) : Ct l G yX12_spanOf cX12_spanOf 4 (some .int) 4 0 0 ad ws [.ref 29, .int (nI years)] (pI ad (fun r ws2 => r = nI (cnt (fun a => decide (stepP n K a (Ln (mm - 1)) ≤ years)) (10 ^ n)) ∧ ws2 = ws)) := by
  refine Ct.of [some (.ref 29), some (.int (nI years)), none, none] (by decide +kernel) (Nat.le_of_ble_eq_true rfl) rfl ?_
  intro p e s m args below meth c A X
  have h104 := pow_le4 h4
  refine V_iconstE X (nI 0) dX12_spanOf_0 (by decide +kernel) ?_
  refine V_istore_n2 X dX12_spanOf_1 (Nat.le_of_ble_eq_true rfl) rfl ?_
  refine V_iconstE X (nI 0) dX12_spanOf_2 (by decide +kernel) ?_
  refine V_istore_n3 X dX12_spanOf_3 (Nat.le_of_ble_eq_true rfl) rfl ?_
  refine V_loopP (fun k lv2 => ∃ f, f + k = 10 ^ n ∧ lv2 = [some (.ref 29), some (.int (nI years)), some (.int (nI (cnt (fun a => decide (stepP n K a (Ln (mm - 1)) ≤ years)) f))), some (.int (nI f))]) (10 ^ n) ⟨0, by omega, rfl⟩ ?_
  rintro k _ ⟨f, hf, rfl⟩ ih
  refine V_iload_n3 X dX12_spanOf_4 ?_
  refine V_aload_n0 X dX12_spanOf_5 ?_
  refine V_cV0I X dX12_spanOf_6 kX12_83 (m_portraits l G ad ws hO h4) (by assumption) (by rfl) (Nat.le_of_ble_eq_true rfl) ⟨⟨Nat.le_of_ble_eq_true rfl, Nat.le_of_ble_eq_true rfl⟩, Nat.le_of_ble_eq_true rfl, Nat.le_of_ble_eq_true rfl⟩ (fun r ws2 hc => ?_)
  obtain ⟨rfl, hw9⟩ := hc
  obtain rfl := hw9.symm
  refine V_icmp_ge X 35 dX12_spanOf_9 (by decide) (fun h => ?_) (fun h => ?_)
  · have e9 : f = 10 ^ n := by have := c_le h; omega
    refine V_iload_n2 X dX12_spanOf_35 ?_
    exact V_iret X dX12_spanOf_36 ⟨by rw [e9], rfl⟩
  · have e9 := c_nle h
    have hsl := stepP_le n K f (Ln (mm - 1))
    refine V_iload_n2 X dX12_spanOf_12 ?_
    refine V_aload_n0 X dX12_spanOf_13 ?_
    refine V_iload_n3 X dX12_spanOf_14 ?_
    refine V_cV1I X dX12_spanOf_15 kX12_202 (m_backOf l G ad ws hO h4 hm h6 Ln hl hL K hk hk5 f (by omega)) (by assumption) (by rfl) (Nat.le_of_ble_eq_true rfl) ⟨⟨Nat.le_of_ble_eq_true rfl, Nat.le_of_ble_eq_true rfl⟩, Nat.le_of_ble_eq_true rfl, Nat.le_of_ble_eq_true rfl⟩ (fun r ws2 hc => ?_)
    obtain ⟨rfl, hw9⟩ := hc
    obtain rfl := hw9.symm
    refine V_iload_n1 X dX12_spanOf_18 ?_
    refine V_icmp_gt X 26 dX12_spanOf_19 (by decide) (fun h2 => ?_) (fun h2 => ?_)
    · have e8 := c_lt h2
      refine V_iconstE X (nI 0) dX12_spanOf_26 (by decide +kernel) ?_
      refine V_iadd X dX12_spanOf_27 ?_
      refine V_istore_n2 X dX12_spanOf_28 (Nat.le_of_ble_eq_true rfl) rfl ?_
      refine V_iinc_3 X dX12_spanOf_29 (Nat.le_of_ble_eq_true rfl) rfl (inc1 _) ?_
      refine V_goto X 4 dX12_spanOf_32 (by decide) ?_
      exact ih (k - 1) _ (by omega) ⟨f + 1, by omega, by rw [nI_add, cnt, decide_eq_false (by omega)]; rfl⟩
    · have e8 := c_nlt h2
      refine V_iconstE X (nI 1) dX12_spanOf_22 (by decide +kernel) ?_
      refine V_goto X 27 dX12_spanOf_23 (by decide) ?_
      refine V_iadd X dX12_spanOf_27 ?_
      refine V_istore_n2 X dX12_spanOf_28 (Nat.le_of_ble_eq_true rfl) rfl ?_
      refine V_iinc_3 X dX12_spanOf_29 (Nat.le_of_ble_eq_true rfl) rfl (inc1 _) ?_
      refine V_goto X 4 dX12_spanOf_32 (by decide) ?_
      exact ih (k - 1) _ (by omega) ⟨f + 1, by omega, by rw [nI_add, cnt, decide_eq_true e8]; rfl⟩
def fewO (o : Option (Nat × Nat)) : Nat := match o with
  | none => 1000000
  | some q => q.2
def passC (n : Nat) (K : Nat → Nat) (q : JD) (la kg : Nat) : Nat := cnt (fun a => letsJ n K q la a kg) (10 ^ n)
set_option maxHeartbeats 1000000 in
theorem m_strictOf (l : Launch) (G : GX) (ad : Nat → Nat) (ws : List CE) {n mm np : Nat} {rm sa : Int32} {nj tr : Nat} {sd : Int32} {pn hn : Nat} {kl kp kh : Int32} {hs : Int64} (hO : ws[29]? = some (MO n mm np rm sa nj tr sd pn hn kl kp kh hs)) (hm : 0 < mm) (h6 : mm ≤ 60) (Ln : Nat → Nat) (hl : AI ws 32 60 mm Ln) (hL : ∀ i, i < mm → Ln i < 10000) (K : Nat → Nat) (kg : Nat) (Js : Nat → JD) (hJ : MJ ws n K kg nj Js) : Ct l G yX12_strictOf cX12_strictOf 6 (some .int) 6 0 0 ad ws [.ref 29] (pI ad (fun r ws2 => r = fstI (strictTo (fun j => passC n K (Js j) (Ln (mm - 1)) kg) nj) ∧ ws2 = ws)) := by
  refine Ct.of [some (.ref 29), none, none, none, none, none] (by decide +kernel) (Nat.le_of_ble_eq_true rfl) rfl ?_
  intro p e s m args below meth c A X
  have hla := hL (mm - 1) (by omega)
  have h4 := hJ.1
  have h5 := hJ.2.1
  have h104 := pow_le4 h4
  refine V_iconstE X (-1) dX12_strictOf_0 (by decide +kernel) ?_
  refine V_istore_n1 X dX12_strictOf_1 (Nat.le_of_ble_eq_true rfl) rfl ?_
  refine V_ldc X dX12_strictOf_2 w_1039 ?_
  refine V_istore_n2 X dX12_strictOf_4 (Nat.le_of_ble_eq_true rfl) rfl ?_
  refine V_iconstE X (nI 0) dX12_strictOf_5 (by decide +kernel) ?_
  refine V_istore_n3 X dX12_strictOf_6 (Nat.le_of_ble_eq_true rfl) rfl ?_
  refine V_loopP (fun k lv2 => ∃ f w4 w5, f + k = nj ∧ lv2 = [some (.ref 29), some (.int (fstI (strictTo (fun j => passC n K (Js j) (Ln (mm - 1)) kg) f))), some (.int (nI (fewO (strictTo (fun j => passC n K (Js j) (Ln (mm - 1)) kg) f)))), some (.int (nI f)), w4, w5]) nj ⟨0, none, none, by omega, rfl⟩ ?_
  rintro k _ ⟨f, w4, w5, hf, rfl⟩ ih
  refine V_iload_n3 X dX12_strictOf_7 ?_
  refine V_aload_n0 X dX12_strictOf_8 ?_
  refine V_getf X dX12_strictOf_9 fX12_154 (by assumption) (by rfl) ?_
  refine V_icmp_ge X 91 dX12_strictOf_12 (by decide) (fun h => ?_) (fun h => ?_)
  · have e9 : f = nj := by have := c_le h; omega
    subst e9
    refine V_iload_n1 X dX12_strictOf_91 ?_
    exact V_iret X dX12_strictOf_92 ⟨rfl, rfl⟩
  · have e9 := c_nle h
    refine V_iconstE X (nI 0) dX12_strictOf_15 (by decide +kernel) ?_
    refine V_istore_4 X dX12_strictOf_16 (Nat.le_of_ble_eq_true rfl) rfl ?_
    refine V_iconstE X (nI 0) dX12_strictOf_18 (by decide +kernel) ?_
    refine V_istore_5 X dX12_strictOf_19 (Nat.le_of_ble_eq_true rfl) rfl ?_
    refine V_loopP (fun k lv2 => ∃ g, g + k = 10 ^ n ∧ lv2 = [some (.ref 29), some (.int (fstI (strictTo (fun j => passC n K (Js j) (Ln (mm - 1)) kg) f))), some (.int (nI (fewO (strictTo (fun j => passC n K (Js j) (Ln (mm - 1)) kg) f)))), some (.int (nI f)), some (.int (nI (cnt (fun a => letsJ n K (Js f) (Ln (mm - 1)) a kg) g))), some (.int (nI g))]) (10 ^ n) ⟨0, by omega, rfl⟩ ?_
    rintro k2 _ ⟨g, hg, rfl⟩ ih2
    have hcg := cnt_le (fun a => letsJ n K (Js f) (Ln (mm - 1)) a kg) g
    refine V_iload_5 X dX12_strictOf_21 ?_
    refine V_aload_n0 X dX12_strictOf_23 ?_
    refine V_cV0I X dX12_strictOf_24 kX12_83 (m_portraits l G ad ws hO h4) (by assumption) (by rfl) (Nat.le_of_ble_eq_true rfl) ⟨⟨Nat.le_of_ble_eq_true rfl, Nat.le_of_ble_eq_true rfl⟩, Nat.le_of_ble_eq_true rfl, Nat.le_of_ble_eq_true rfl⟩ (fun r ws2 hc => ?_)
    obtain ⟨rfl, hw9⟩ := hc
    obtain rfl := hw9.symm
    refine V_icmp_ge X 60 dX12_strictOf_27 (by decide) (fun h2 => ?_) (fun h2 => ?_)
    · have e8 : g = 10 ^ n := by have := c_le h2; omega
      have epc : cnt (fun a => letsJ n K (Js f) (Ln (mm - 1)) a kg) g = passC n K (Js f) (Ln (mm - 1)) kg := by rw [passC, e8]
      rw [epc] at hcg ⊢
      have hfe : fewO (strictTo (fun j => passC n K (Js j) (Ln (mm - 1)) kg) f) ≤ 1000000 := by
        cases hs : strictTo (fun j => passC n K (Js j) (Ln (mm - 1)) kg) f with
        | none => exact Nat.le_refl _
        | some q =>
          have := (strictTo_lt _ _ _ hs).2
          have := cnt_le (fun a => letsJ n K (Js q.1) (Ln (mm - 1)) a kg) (10 ^ n)
          show q.2 ≤ _
          rw [(strictTo_lt _ _ _ hs).2, passC]
          omega
      have nxt : strictTo (fun j => passC n K (Js j) (Ln (mm - 1)) kg) (f + 1) = if passC n K (Js f) (Ln (mm - 1)) kg < fewO (strictTo (fun j => passC n K (Js j) (Ln (mm - 1)) kg) f) then some (f, passC n K (Js f) (Ln (mm - 1)) kg) else strictTo (fun j => passC n K (Js j) (Ln (mm - 1)) kg) f := by
        rw [strictTo]
        cases hs : strictTo (fun j => passC n K (Js j) (Ln (mm - 1)) kg) f with
        | none => rw [if_pos (show passC n K (Js f) (Ln (mm - 1)) kg < fewO none from (by show _ < 1000000; omega))]
        | some q => rfl
      refine V_iload_4 X dX12_strictOf_60 ?_
      refine V_iload_n2 X dX12_strictOf_62 ?_
      refine V_icmp_ge X 70 dX12_strictOf_63 (by decide) (fun h3 => ?_) (fun h3 => ?_)
      · have e7 := c_le h3
        refine V_iload_n1 X dX12_strictOf_70 ?_
        refine V_istore_n1 X dX12_strictOf_71 (Nat.le_of_ble_eq_true rfl) rfl ?_
        refine V_iload_4 X dX12_strictOf_72 ?_
        refine V_iload_n2 X dX12_strictOf_74 ?_
        refine V_icmp_ge X 83 dX12_strictOf_75 (by decide) (fun h7 => ?_) (fun h7 => ?_)
        · refine V_iload_n2 X dX12_strictOf_83 ?_
          refine V_istore_n2 X dX12_strictOf_84 (Nat.le_of_ble_eq_true rfl) rfl ?_
          refine V_iinc_3 X dX12_strictOf_85 (Nat.le_of_ble_eq_true rfl) rfl (inc1 _) ?_
          refine V_goto X 7 dX12_strictOf_88 (by decide) ?_
          exact ih (k - 1) _ (by omega) ⟨f + 1, _, _, by omega, by rw [nxt, if_neg (by omega)]⟩
        · exact absurd h3 h7
      · have e7 := c_nle h3
        refine V_iload_n3 X dX12_strictOf_66 ?_
        refine V_goto X 71 dX12_strictOf_67 (by decide) ?_
        refine V_istore_n1 X dX12_strictOf_71 (Nat.le_of_ble_eq_true rfl) rfl ?_
        refine V_iload_4 X dX12_strictOf_72 ?_
        refine V_iload_n2 X dX12_strictOf_74 ?_
        refine V_icmp_ge X 83 dX12_strictOf_75 (by decide) (fun h7 => ?_) (fun h7 => ?_)
        · exact absurd h7 h3
        · refine V_iload_4 X dX12_strictOf_78 ?_
          refine V_goto X 84 dX12_strictOf_80 (by decide) ?_
          refine V_istore_n2 X dX12_strictOf_84 (Nat.le_of_ble_eq_true rfl) rfl ?_
          refine V_iinc_3 X dX12_strictOf_85 (Nat.le_of_ble_eq_true rfl) rfl (inc1 _) ?_
          refine V_goto X 7 dX12_strictOf_88 (by decide) ?_
          exact ih (k - 1) _ (by omega) ⟨f + 1, _, _, by omega, by rw [nxt, if_pos e7]; rfl⟩
    · have e8 := c_nle h2
      refine V_iload_4 X dX12_strictOf_30 ?_
      refine V_aload_n0 X dX12_strictOf_32 ?_
      refine V_iload_n3 X dX12_strictOf_33 ?_
      refine V_aload_n0 X dX12_strictOf_34 ?_
      refine V_cV0I X dX12_strictOf_35 kX12_91 (m_last l G ad ws hO hm h6 Ln hl) (by assumption) (by rfl) (Nat.le_of_ble_eq_true rfl) ⟨⟨Nat.le_of_ble_eq_true rfl, Nat.le_of_ble_eq_true rfl⟩, Nat.le_of_ble_eq_true rfl, Nat.le_of_ble_eq_true rfl⟩ (fun r ws2 hc => ?_)
      obtain ⟨rfl, hw9⟩ := hc
      obtain rfl := hw9.symm
      refine V_iload_5 X dX12_strictOf_38 ?_
      refine V_cV3I X dX12_strictOf_40 kX12_159 (m_letsOne l G ad ws hO K kg Js hJ f _ g e9 (by omega) (by omega)) (by assumption) (by rfl) (Nat.le_of_ble_eq_true rfl) ⟨⟨Nat.le_of_ble_eq_true rfl, Nat.le_of_ble_eq_true rfl⟩, Nat.le_of_ble_eq_true rfl, Nat.le_of_ble_eq_true rfl⟩ (fun r ws2 hc => ?_)
      obtain ⟨rfl, hw9⟩ := hc
      obtain rfl := hw9.symm
      refine V_if_eq X 50 dX12_strictOf_43 (by decide) (fun h3 => ?_) (fun h3 => ?_)
      · have e7 := b_of0 h3
        refine V_iconstE X (nI 0) dX12_strictOf_50 (by decide +kernel) ?_
        refine V_iadd X dX12_strictOf_51 ?_
        refine V_istore_4 X dX12_strictOf_52 (Nat.le_of_ble_eq_true rfl) rfl ?_
        refine V_iinc_5 X dX12_strictOf_54 (Nat.le_of_ble_eq_true rfl) rfl (inc1 _) ?_
        refine V_goto X 21 dX12_strictOf_57 (by decide) ?_
        exact ih2 (k2 - 1) _ (by omega) ⟨g + 1, by omega, by rw [nI_add, cnt, e7]; rfl⟩
      · have e7 := b_of1 h3
        refine V_iconstE X (nI 1) dX12_strictOf_46 (by decide +kernel) ?_
        refine V_goto X 51 dX12_strictOf_47 (by decide) ?_
        refine V_iadd X dX12_strictOf_51 ?_
        refine V_istore_4 X dX12_strictOf_52 (Nat.le_of_ble_eq_true rfl) rfl ?_
        refine V_iinc_5 X dX12_strictOf_54 (Nat.le_of_ble_eq_true rfl) rfl (inc1 _) ?_
        refine V_goto X 21 dX12_strictOf_57 (by decide) ?_
        exact ih2 (k2 - 1) _ (by omega) ⟨g + 1, by omega, by rw [nI_add, cnt, e7]; rfl⟩
