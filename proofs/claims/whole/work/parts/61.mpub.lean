/-! the reference: the calls that only tell -/
theorem q_about (l : Launch) (G : GX) (ad : Nat → Nat) (ws : List CE) (n : Nat) (K : Nat → Nat) (kg mm : Nat) (Ln : Nat → Nat) (np : Nat) (pg : Nat → Nat) (nj : Nat) (Js : Nat → JD) (pn : Nat) (Pe : Nat → Nat) (hn : Nat) (U : Nat → Nat) (tr kk km kp kh rd : Nat) (hM : RM ws n K kg mm Ln np pg nj Js pn Pe hn U tr kk km kp kh rd) (hK : OKs n K kg mm Ln np pg nj Js pn Pe hn U tr kk km kp kh rd) (x z : Int32) : Ct l G yX12_about cX12_about 3 (some .int) 2 0 0 ad ws [.ref 29, .int x, .int z] (pI ad (fun r ws2 => r = r_about n K kg mm Ln x z ∧ ws2 = ws)) := by
  refine Ct.of [some (.ref 29), some (.int x), some (.int z)] (by decide +kernel) (Nat.le_of_ble_eq_true rfl) rfl ?_
  intro p e s m args below meth c A X
  obtain ⟨⟨rm, sa, sd, hs, hO⟩, hJ, ⟨h60, h10, hp6, hh6⟩, hl, hpg, hPe, hU, hkk, hkl, hkp, hkh, hscr⟩ := hM
  obtain ⟨o1, o2, o3, o4, o5, o6, o7, o8, o9, o10, o11, o12, o13, o14⟩ := hK
  have h104 := pow_le4 o1
  have hkd := hJ.2.2.2.2.1
  have hkd5 := hJ.2.2.1
  have hkin := hJ.2.2.2.2.2.1
  refine V_aload_n0 X dX12_about_0 ?_
  refine V_iload_n1 X dX12_about_1 ?_
  refine V_cV1I X dX12_about_2 kX12_98 (m_isFeature l G ad ws hO o1 x) (by assumption) (by rfl) (Nat.le_of_ble_eq_true rfl) ⟨⟨Nat.le_of_ble_eq_true rfl, Nat.le_of_ble_eq_true rfl⟩, Nat.le_of_ble_eq_true rfl, Nat.le_of_ble_eq_true rfl⟩ (fun r ws2 hc => ?_)
  obtain ⟨rfl, hw9⟩ := hc
  obtain rfl := hw9.symm
  refine V_if_eq X 17 dX12_about_5 (by decide) (fun h => ?_) (fun h => ?_)
  · have e9 := b_of0 h
    refine V_bipushE X (-101) dX12_about_17 (by decide +kernel) ?_
    exact V_iret X dX12_about_19 ⟨by simp [r_about, e9], rfl⟩
  · have e9 := b_of1 h
    obtain ⟨f, hf, rfl⟩ := inR_of (by omega) e9
    refine V_aload_n0 X dX12_about_8 ?_
    refine V_iload_n1 X dX12_about_9 ?_
    refine V_iload_n2 X dX12_about_10 ?_
    refine V_cV2I X dX12_about_11 kX12_102 (m_tell l G ad ws hO K hkd kg hkin h60 Ln hl (fun i hi => by have := o3 i hi; omega) f (by omega) z) (by assumption) (by rfl) (Nat.le_of_ble_eq_true rfl) ⟨⟨Nat.le_of_ble_eq_true rfl, Nat.le_of_ble_eq_true rfl⟩, Nat.le_of_ble_eq_true rfl, Nat.le_of_ble_eq_true rfl⟩ (fun r ws2 hc => ?_)
    obtain ⟨rfl, hw9⟩ := hc
    obtain rfl := hw9.symm
    refine V_goto X 19 dX12_about_14 (by decide) ?_
    exact V_iret X dX12_about_19 ⟨by rw [r_about, e9, if_pos rfl, valI_nI (by omega)], rfl⟩
theorem q_as (l : Launch) (G : GX) (ad : Nat → Nat) (ws : List CE) (n : Nat) (K : Nat → Nat) (kg mm : Nat) (Ln : Nat → Nat) (np : Nat) (pg : Nat → Nat) (nj : Nat) (Js : Nat → JD) (pn : Nat) (Pe : Nat → Nat) (hn : Nat) (U : Nat → Nat) (tr kk km kp kh rd : Nat) (hM : RM ws n K kg mm Ln np pg nj Js pn Pe hn U tr kk km kp kh rd) (hK : OKs n K kg mm Ln np pg nj Js pn Pe hn U tr kk km kp kh rd) (x z : Int32) : Ct l G yX12_as cX12_as 4 (some .int) 2 0 0 ad ws [.ref 29, .int x, .int z] (pI ad (fun r ws2 => r = r_as n K x z ∧ ws2 = ws)) := by
  refine Ct.of [some (.ref 29), some (.int x), some (.int z), none] (by decide +kernel) (Nat.le_of_ble_eq_true rfl) rfl ?_
  intro p e s m args below meth c A X
  obtain ⟨⟨rm, sa, sd, hs, hO⟩, hJ, ⟨h60, h10, hp6, hh6⟩, hl, hpg, hPe, hU, hkk, hkl, hkp, hkh, hscr⟩ := hM
  obtain ⟨o1, o2, o3, o4, o5, o6, o7, o8, o9, o10, o11, o12, o13, o14⟩ := hK
  have h104 := pow_le4 o1
  have hkd := hJ.2.2.2.2.1
  have hkd5 := hJ.2.2.1
  have hkin := hJ.2.2.2.2.2.1
  refine V_aload_n0 X dX12_as_0 ?_
  refine V_iload_n1 X dX12_as_1 ?_
  refine V_cV1I X dX12_as_2 kX12_98 (m_isFeature l G ad ws hO o1 x) (by assumption) (by rfl) (Nat.le_of_ble_eq_true rfl) ⟨⟨Nat.le_of_ble_eq_true rfl, Nat.le_of_ble_eq_true rfl⟩, Nat.le_of_ble_eq_true rfl, Nat.le_of_ble_eq_true rfl⟩ (fun r ws2 hc => ?_)
  obtain ⟨rfl, hw9⟩ := hc
  obtain rfl := hw9.symm
  refine V_if_ne X 11 dX12_as_5 (by decide) (fun h => ?_) (fun h => ?_)
  · have e9 := b_of1 h
    obtain ⟨f, hf, rfl⟩ := inR_of (by omega) e9
    obtain ⟨fk, hk1, hk2⟩ := hkd
    have hKf := hkd5 f (by omega)
    refine V_iload_n2 X dX12_as_11 ?_
    refine V_i2l X dX12_as_12 ?_
    refine V_lconstE X (lN 0) dX12_as_13 (by decide +kernel) ?_
    refine V_ldc2 X dX12_as_14 w_895 ?_
    refine V_cS3I X dX12_as_17 kX12_68 (m_in l G ad ws _ _ _) (Nat.le_of_ble_eq_true rfl) ⟨⟨Nat.le_of_ble_eq_true rfl, Nat.le_of_ble_eq_true rfl⟩, Nat.le_of_ble_eq_true rfl, Nat.le_of_ble_eq_true rfl⟩ (fun r ws2 hc => ?_)
    obtain ⟨rfl, hw9⟩ := hc
    obtain rfl := hw9.symm
    rw [inL_k (n := 5) (by decide) (by decide +kernel)]
    refine V_if_ne X 26 dX12_as_20 (by decide) (fun h2 => ?_) (fun h2 => ?_)
    · have e8 := b_of1 h2
      obtain ⟨t, ht, rfl⟩ := inR_of (by decide) e8
      have fin : ∀ b : Bool, b = suchK (K f) t → V p l e (rmm (2) 0 0) s m args below meth c 0 0 (MQ below (QQ G A (pI ad (fun r ws2 => r = r_as n K (nI f) (nI t) ∧ ws2 = ws))) args s 0 0 A) G A 4 ad ws 60 [some (.ref 29), some (.int (nI f)), some (.int (nI t)), none] [.int (bI b)] := by
        intro b hb
        refine V_istore_n3 X dX12_as_60 (Nat.le_of_ble_eq_true rfl) rfl ?_
        refine V_iload_n3 X dX12_as_61 ?_
        refine V_if_eq X 69 dX12_as_62 (by decide) (fun g => ?_) (fun g => ?_)
        · have e7 := b_of0 g
          refine V_iconstE X (-1) dX12_as_69 (by decide +kernel) ?_
          exact V_iret X dX12_as_70 ⟨by rw [r_as, e9, if_pos rfl, e8, if_pos rfl, valI_nI (by omega), valI_nI (by omega), ← hb, e7]; rfl, rfl⟩
        · have e7 := b_of1 g
          refine V_iload_n1 X dX12_as_65 ?_
          refine V_goto X 70 dX12_as_66 (by decide) ?_
          exact V_iret X dX12_as_70 ⟨by rw [r_as, e9, if_pos rfl, e8, if_pos rfl, valI_nI (by omega), valI_nI (by omega), ← hb, e7]; rfl, rfl⟩
      refine V_iload_n2 X dX12_as_26 ?_
      refine V_if_eq X 55 dX12_as_27 (by decide) (fun g1 => ?_) (fun g1 => ?_)
      · have e6 := c_eq0 g1
        refine V_iconstE X (nI 1) dX12_as_55 (by decide +kernel) ?_
        refine V_goto X 60 dX12_as_56 (by decide) ?_
        exact fin true (by simp [suchK, e6])
      · have e6 := c_ne0 g1
        refine V_iload_n2 X dX12_as_30 ?_
        refine V_aload_n0 X dX12_as_31 ?_
        refine V_getf X dX12_as_32 fX12_7 (by assumption) (by rfl) ?_
        refine V_iload_n1 X dX12_as_35 ?_
        refine V_iald X f dX12_as_36 (by assumption) rfl (by omega) (by omega) ?_
        rw [hk2 f (by omega)]
        refine V_icmp_eq X 55 dX12_as_37 (by decide) (fun g2 => ?_) (fun g2 => ?_)
        · have e5 := c_eq g2
          refine V_iconstE X (nI 1) dX12_as_55 (by decide +kernel) ?_
          refine V_goto X 60 dX12_as_56 (by decide) ?_
          exact fin true (by simp [suchK, e5])
        · have e5 := c_ne g2
          refine V_iload_n2 X dX12_as_40 ?_
          refine V_iconstE X (nI 2) dX12_as_41 (by decide +kernel) ?_
          refine V_icmp_ne X 59 dX12_as_42 (by decide) (fun g3 => ?_) (fun g3 => ?_)
          · have e4 := c_ne g3
            refine V_iconstE X (nI 0) dX12_as_59 (by decide +kernel) ?_
            exact fin false (by simp [suchK, e4, Ne.symm e5, show ¬ t = 0 by omega])
          · have e4 := c_eq g3
            refine V_aload_n0 X dX12_as_45 ?_
            refine V_getf X dX12_as_46 fX12_7 (by assumption) (by rfl) ?_
            refine V_iload_n1 X dX12_as_49 ?_
            refine V_iald X f dX12_as_50 (by assumption) rfl (by omega) (by omega) ?_
            refine V_iconstE X (nI 4) dX12_as_51 (by decide +kernel) ?_
            rw [hk2 f (by omega)]
            refine V_icmp_ne X 59 dX12_as_52 (by decide) (fun g4 => ?_) (fun g4 => ?_)
            · have e3 := c_ne g4
              refine V_iconstE X (nI 0) dX12_as_59 (by decide +kernel) ?_
              exact fin false (by simp [suchK, e3, Ne.symm e5, show ¬ t = 0 by omega])
            · have e3 := c_eq g4
              refine V_iconstE X (nI 1) dX12_as_55 (by decide +kernel) ?_
              refine V_goto X 60 dX12_as_56 (by decide) ?_
              exact fin true (by simp [suchK, e3, e4])
    · have e8 := b_of0 h2
      refine V_bipushE X (-102) dX12_as_23 (by decide +kernel) ?_
      exact V_iret X dX12_as_25 ⟨by rw [r_as, e9, if_pos rfl, e8]; rfl, rfl⟩
  · have e9 := b_of0 h
    refine V_bipushE X (-101) dX12_as_8 (by decide +kernel) ?_
    exact V_iret X dX12_as_10 ⟨by rw [r_as, e9]; rfl, rfl⟩
theorem q_apart (l : Launch) (G : GX) (ad : Nat → Nat) (ws : List CE) (n : Nat) (K : Nat → Nat) (kg mm : Nat) (Ln : Nat → Nat) (np : Nat) (pg : Nat → Nat) (nj : Nat) (Js : Nat → JD) (pn : Nat) (Pe : Nat → Nat) (hn : Nat) (U : Nat → Nat) (tr kk km kp kh rd : Nat) (hM : RM ws n K kg mm Ln np pg nj Js pn Pe hn U tr kk km kp kh rd) (hK : OKs n K kg mm Ln np pg nj Js pn Pe hn U tr kk km kp kh rd) (x z : Int32) : Ct l G yX12_apart cX12_apart 3 (some .int) 4 0 0 ad ws [.ref 29, .int x, .int z] (pI ad (fun r ws2 => r = r_apart n K mm x z ∧ ws2 = ws)) := by
  refine Ct.of [some (.ref 29), some (.int x), some (.int z)] (by decide +kernel) (Nat.le_of_ble_eq_true rfl) rfl ?_
  intro p e s m args below meth c A X
  obtain ⟨⟨rm, sa, sd, hs, hO⟩, hJ, ⟨h60, h10, hp6, hh6⟩, hl, hpg, hPe, hU, hkk, hkl, hkp, hkh, hscr⟩ := hM
  obtain ⟨o1, o2, o3, o4, o5, o6, o7, o8, o9, o10, o11, o12, o13, o14⟩ := hK
  have h104 := pow_le4 o1
  have hkd := hJ.2.2.2.2.1
  have hkd5 := hJ.2.2.1
  have hkin := hJ.2.2.2.2.2.1
  refine V_aload_n0 X dX12_apart_0 ?_
  refine V_cV0I X dX12_apart_1 kX12_79 (m_lacks l G ad ws hO h60) (by assumption) (by rfl) (Nat.le_of_ble_eq_true rfl) ⟨⟨Nat.le_of_ble_eq_true rfl, Nat.le_of_ble_eq_true rfl⟩, Nat.le_of_ble_eq_true rfl, Nat.le_of_ble_eq_true rfl⟩ (fun r ws2 hc => ?_)
  obtain ⟨rfl, hw9⟩ := hc
  obtain rfl := hw9.symm
  refine V_if_eq X 10 dX12_apart_4 (by decide) (fun h => ?_) (fun h => ?_)
  · have e9 := of_decide_eq_false (b_of0 h)
    refine V_aload_n0 X dX12_apart_10 ?_
    refine V_iload_n1 X dX12_apart_11 ?_
    refine V_cV1I X dX12_apart_12 kX12_118 (m_isPortrait l G ad ws hO o1 x) (by assumption) (by rfl) (Nat.le_of_ble_eq_true rfl) ⟨⟨Nat.le_of_ble_eq_true rfl, Nat.le_of_ble_eq_true rfl⟩, Nat.le_of_ble_eq_true rfl, Nat.le_of_ble_eq_true rfl⟩ (fun r ws2 hc => ?_)
    obtain ⟨rfl, hw9⟩ := hc
    obtain rfl := hw9.symm
    refine V_if_eq X 35 dX12_apart_15 (by decide) (fun h2 => ?_) (fun h2 => ?_)
    · have e8 := b_of0 h2
      refine V_bipushE X (-102) dX12_apart_35 (by decide +kernel) ?_
      exact V_iret X dX12_apart_37 ⟨by simp [r_apart, e9, e8], rfl⟩
    · have e8 := b_of1 h2
      refine V_aload_n0 X dX12_apart_18 ?_
      refine V_iload_n2 X dX12_apart_19 ?_
      refine V_cV1I X dX12_apart_20 kX12_118 (m_isPortrait l G ad ws hO o1 z) (by assumption) (by rfl) (Nat.le_of_ble_eq_true rfl) ⟨⟨Nat.le_of_ble_eq_true rfl, Nat.le_of_ble_eq_true rfl⟩, Nat.le_of_ble_eq_true rfl, Nat.le_of_ble_eq_true rfl⟩ (fun r ws2 hc => ?_)
      obtain ⟨rfl, hw9⟩ := hc
      obtain rfl := hw9.symm
      refine V_if_eq X 35 dX12_apart_23 (by decide) (fun h3 => ?_) (fun h3 => ?_)
      · have e7 := b_of0 h3
        refine V_bipushE X (-102) dX12_apart_35 (by decide +kernel) ?_
        exact V_iret X dX12_apart_37 ⟨by simp [r_apart, e9, e7], rfl⟩
      · have e7 := b_of1 h3
        obtain ⟨a, ha, rfl⟩ := inR_of (by omega) e8
        obtain ⟨b, hb, rfl⟩ := inR_of (by omega) e7
        refine V_aload_n0 X dX12_apart_26 ?_
        refine V_iload_n1 X dX12_apart_27 ?_
        refine V_iload_n2 X dX12_apart_28 ?_
        refine V_cV2I X dX12_apart_29 kX12_121 (m_apartOf l G ad ws hO o1 K hkd hkd5 a b (by omega) (by omega)) (by assumption) (by rfl) (Nat.le_of_ble_eq_true rfl) ⟨⟨Nat.le_of_ble_eq_true rfl, Nat.le_of_ble_eq_true rfl⟩, Nat.le_of_ble_eq_true rfl, Nat.le_of_ble_eq_true rfl⟩ (fun r ws2 hc => ?_)
        obtain ⟨rfl, hw9⟩ := hc
        obtain rfl := hw9.symm
        refine V_goto X 37 dX12_apart_32 (by decide) ?_
        exact V_iret X dX12_apart_37 ⟨by simp [r_apart, e9, e8, e7, valI_nI (show a < 2147483648 by omega), valI_nI (show b < 2147483648 by omega)], rfl⟩
  · have e9 := of_decide_eq_true (b_of1 h)
    refine V_bipushE X (-103) dX12_apart_7 (by decide +kernel) ?_
    exact V_iret X dX12_apart_9 ⟨by simp [r_apart, e9], rfl⟩
theorem q_line (l : Launch) (G : GX) (ad : Nat → Nat) (ws : List CE) (n : Nat) (K : Nat → Nat) (kg mm : Nat) (Ln : Nat → Nat) (np : Nat) (pg : Nat → Nat) (nj : Nat) (Js : Nat → JD) (pn : Nat) (Pe : Nat → Nat) (hn : Nat) (U : Nat → Nat) (tr kk km kp kh rd : Nat) (hM : RM ws n K kg mm Ln np pg nj Js pn Pe hn U tr kk km kp kh rd) (hK : OKs n K kg mm Ln np pg nj Js pn Pe hn U tr kk km kp kh rd) (x : Int32) : Ct l G yX12_line cX12_line 2 (some .int) 1 0 0 ad ws [.ref 29, .int x] (pI ad (fun r ws2 => r = r_line mm Ln x ∧ ws2 = ws)) := by
  refine Ct.of [some (.ref 29), some (.int x)] (by decide +kernel) (Nat.le_of_ble_eq_true rfl) rfl ?_
  intro p e s m args below meth c A X
  obtain ⟨⟨rm, sa, sd, hs, hO⟩, hJ, ⟨h60, h10, hp6, hh6⟩, hl, hpg, hPe, hU, hkk, hkl, hkp, hkh, hscr⟩ := hM
  obtain ⟨o1, o2, o3, o4, o5, o6, o7, o8, o9, o10, o11, o12, o13, o14⟩ := hK
  have h104 := pow_le4 o1
  have hkd := hJ.2.2.2.2.1
  have hkd5 := hJ.2.2.1
  have hkin := hJ.2.2.2.2.2.1
  obtain ⟨fl, hl1, hl2⟩ := hl
  refine V_iload_n1 X dX12_line_0 ?_
  refine V_i2l X dX12_line_1 ?_
  refine V_lconstE X (lN 0) dX12_line_2 (by decide +kernel) ?_
  refine V_aload_n0 X dX12_line_3 ?_
  refine V_getf X dX12_line_4 fX12_72 (by assumption) (by rfl) ?_
  refine V_iconstE X (nI 1) dX12_line_7 (by decide +kernel) ?_
  refine V_isub X dX12_line_8 ?_
  refine V_i2l X dX12_line_9 ?_
  refine V_cS3I X dX12_line_10 kX12_68 (m_in l G ad ws _ _ _) (Nat.le_of_ble_eq_true rfl) ⟨⟨Nat.le_of_ble_eq_true rfl, Nat.le_of_ble_eq_true rfl⟩, Nat.le_of_ble_eq_true rfl, Nat.le_of_ble_eq_true rfl⟩ (fun r ws2 hc => ?_)
  obtain ⟨rfl, hw9⟩ := hc
  obtain rfl := hw9.symm
  rw [inL_n (by omega)]
  refine V_if_eq X 25 dX12_line_13 (by decide) (fun h => ?_) (fun h => ?_)
  · have e9 := b_of0 h
    refine V_bipushE X (-101) dX12_line_25 (by decide +kernel) ?_
    exact V_iret X dX12_line_27 ⟨by simp [r_line, e9], rfl⟩
  · have e9 := b_of1 h
    obtain ⟨j, hj, rfl⟩ := inR_of (by omega) e9
    refine V_aload_n0 X dX12_line_16 ?_
    refine V_getf X dX12_line_17 fX12_16 (by assumption) (by rfl) ?_
    refine V_iload_n1 X dX12_line_20 ?_
    refine V_iald X j dX12_line_21 (by assumption) rfl (by omega) (by omega) ?_
    refine V_goto X 27 dX12_line_22 (by decide) ?_
    exact V_iret X dX12_line_27 ⟨by rw [hl2 j hj, r_line, e9, if_pos rfl, valI_nI (by omega)], rfl⟩
theorem q_told (l : Launch) (G : GX) (ad : Nat → Nat) (ws : List CE) (n : Nat) (K : Nat → Nat) (kg mm : Nat) (Ln : Nat → Nat) (np : Nat) (pg : Nat → Nat) (nj : Nat) (Js : Nat → JD) (pn : Nat) (Pe : Nat → Nat) (hn : Nat) (U : Nat → Nat) (tr kk km kp kh rd : Nat) (hM : RM ws n K kg mm Ln np pg nj Js pn Pe hn U tr kk km kp kh rd) (hK : OKs n K kg mm Ln np pg nj Js pn Pe hn U tr kk km kp kh rd) (x z : Int32) : Ct l G yX12_told cX12_told 3 (some .int) 1 0 0 ad ws [.ref 29, .int x, .int z] (pI ad (fun r ws2 => r = r_told n nj Js x z ∧ ws2 = ws)) := by
  refine Ct.of [some (.ref 29), some (.int x), some (.int z)] (by decide +kernel) (Nat.le_of_ble_eq_true rfl) rfl ?_
  intro p e s m args below meth c A X
  obtain ⟨⟨rm, sa, sd, hs, hO⟩, hJ, ⟨h60, h10, hp6, hh6⟩, hl, hpg, hPe, hU, hkk, hkl, hkp, hkh, hscr⟩ := hM
  obtain ⟨o1, o2, o3, o4, o5, o6, o7, o8, o9, o10, o11, o12, o13, o14⟩ := hK
  have h104 := pow_le4 o1
  have hkd := hJ.2.2.2.2.1
  have hkd5 := hJ.2.2.1
  have hkin := hJ.2.2.2.2.2.1
  have hj5 := hJ.2.1
  obtain ⟨fj, hj1, hj2⟩ := hJ.2.2.2.2.2.2
  refine V_iload_n1 X dX12_told_0 ?_
  refine V_i2l X dX12_told_1 ?_
  refine V_lconstE X (lN 0) dX12_told_2 (by decide +kernel) ?_
  refine V_aload_n0 X dX12_told_3 ?_
  refine V_getf X dX12_told_4 fX12_154 (by assumption) (by rfl) ?_
  refine V_iconstE X (nI 1) dX12_told_7 (by decide +kernel) ?_
  refine V_isub X dX12_told_8 ?_
  refine V_i2l X dX12_told_9 ?_
  refine V_cS3I X dX12_told_10 kX12_68 (m_in l G ad ws _ _ _) (Nat.le_of_ble_eq_true rfl) ⟨⟨Nat.le_of_ble_eq_true rfl, Nat.le_of_ble_eq_true rfl⟩, Nat.le_of_ble_eq_true rfl, Nat.le_of_ble_eq_true rfl⟩ (fun r ws2 hc => ?_)
  obtain ⟨rfl, hw9⟩ := hc
  obtain rfl := hw9.symm
  rw [inL_n (by omega)]
  refine V_if_ne X 19 dX12_told_13 (by decide) (fun h => ?_) (fun h => ?_)
  · have e9 := b_of1 h
    obtain ⟨j, hj, rfl⟩ := inR_of (by omega) e9
    refine V_iload_n2 X dX12_told_19 ?_
    refine V_i2l X dX12_told_20 ?_
    refine V_lconstE X (lN 0) dX12_told_21 (by decide +kernel) ?_
    refine V_ldc2 X dX12_told_22 w_1026 ?_
    refine V_cS3I X dX12_told_25 kX12_68 (m_in l G ad ws _ _ _) (Nat.le_of_ble_eq_true rfl) ⟨⟨Nat.le_of_ble_eq_true rfl, Nat.le_of_ble_eq_true rfl⟩, Nat.le_of_ble_eq_true rfl, Nat.le_of_ble_eq_true rfl⟩ (fun r ws2 hc => ?_)
    obtain ⟨rfl, hw9⟩ := hc
    obtain rfl := hw9.symm
    rw [inL_k (n := 6) (by decide) (by decide +kernel)]
    refine V_if_eq X 45 dX12_told_28 (by decide) (fun h2 => ?_) (fun h2 => ?_)
    · have e8 := b_of0 h2
      refine V_bipushE X (-102) dX12_told_45 (by decide +kernel) ?_
      exact V_iret X dX12_told_47 ⟨by rw [r_told, e9, if_pos rfl, e8]; rfl, rfl⟩
    · have e8 := b_of1 h2
      obtain ⟨t, ht, rfl⟩ := inR_of (by decide) e8
      refine V_aload_n0 X dX12_told_31 ?_
      refine V_getf X dX12_told_32 fX12_28 (by assumption) (by rfl) ?_
      refine V_bipushE X (nI 6) dX12_told_35 (by decide +kernel) ?_
      refine V_iload_n1 X dX12_told_37 ?_
      refine V_imul X dX12_told_38 ?_
      refine V_iload_n2 X dX12_told_39 ?_
      refine V_iadd X dX12_told_40 ?_
      refine V_iald X (6 * j + t) dX12_told_41 (by assumption) (by rw [pk_mul, nI_add]) (by omega) (by omega) ?_
      refine V_goto X 47 dX12_told_42 (by decide) ?_
      exact V_iret X dX12_told_47 ⟨by rw [hj2 j hj t ht, r_told, e9, if_pos rfl, e8, if_pos rfl, valI_nI (by omega), valI_nI (by omega)], rfl⟩
  · have e9 := b_of0 h
    refine V_bipushE X (-101) dX12_told_16 (by decide +kernel) ?_
    exact V_iret X dX12_told_18 ⟨by rw [r_told, e9]; rfl, rfl⟩
theorem q_lets (l : Launch) (G : GX) (ad : Nat → Nat) (ws : List CE) (n : Nat) (K : Nat → Nat) (kg mm : Nat) (Ln : Nat → Nat) (np : Nat) (pg : Nat → Nat) (nj : Nat) (Js : Nat → JD) (pn : Nat) (Pe : Nat → Nat) (hn : Nat) (U : Nat → Nat) (tr kk km kp kh rd : Nat) (hM : RM ws n K kg mm Ln np pg nj Js pn Pe hn U tr kk km kp kh rd) (hK : OKs n K kg mm Ln np pg nj Js pn Pe hn U tr kk km kp kh rd) (x z : Int32) : Ct l G yX12_lets cX12_lets 3 (some .int) 7 0 0 ad ws [.ref 29, .int x, .int z] (pI ad (fun r ws2 => r = r_lets n K mm kg nj Js x z ∧ ws2 = ws)) := by
  refine Ct.of [some (.ref 29), some (.int x), some (.int z)] (by decide +kernel) (Nat.le_of_ble_eq_true rfl) rfl ?_
  intro p e s m args below meth c A X
  obtain ⟨⟨rm, sa, sd, hs, hO⟩, hJ, ⟨h60, h10, hp6, hh6⟩, hl, hpg, hPe, hU, hkk, hkl, hkp, hkh, hscr⟩ := hM
  obtain ⟨o1, o2, o3, o4, o5, o6, o7, o8, o9, o10, o11, o12, o13, o14⟩ := hK
  have h104 := pow_le4 o1
  have hkd := hJ.2.2.2.2.1
  have hkd5 := hJ.2.2.1
  have hkin := hJ.2.2.2.2.2.1
  refine V_aload_n0 X dX12_lets_0 ?_
  refine V_cV0I X dX12_lets_1 kX12_79 (m_lacks l G ad ws hO h60) (by assumption) (by rfl) (Nat.le_of_ble_eq_true rfl) ⟨⟨Nat.le_of_ble_eq_true rfl, Nat.le_of_ble_eq_true rfl⟩, Nat.le_of_ble_eq_true rfl, Nat.le_of_ble_eq_true rfl⟩ (fun r ws2 hc => ?_)
  obtain ⟨rfl, hw9⟩ := hc
  obtain rfl := hw9.symm
  refine V_if_eq X 10 dX12_lets_4 (by decide) (fun h => ?_) (fun h => ?_)
  · have e9 := of_decide_eq_false (b_of0 h)
    refine V_aload_n0 X dX12_lets_10 ?_
    refine V_iload_n1 X dX12_lets_11 ?_
    refine V_cV1I X dX12_lets_12 kX12_118 (m_isPortrait l G ad ws hO o1 x) (by assumption) (by rfl) (Nat.le_of_ble_eq_true rfl) ⟨⟨Nat.le_of_ble_eq_true rfl, Nat.le_of_ble_eq_true rfl⟩, Nat.le_of_ble_eq_true rfl, Nat.le_of_ble_eq_true rfl⟩ (fun r ws2 hc => ?_)
    obtain ⟨rfl, hw9⟩ := hc
    obtain rfl := hw9.symm
    refine V_if_eq X 35 dX12_lets_15 (by decide) (fun h2 => ?_) (fun h2 => ?_)
    · have e8 := b_of0 h2
      refine V_bipushE X (-102) dX12_lets_35 (by decide +kernel) ?_
      exact V_iret X dX12_lets_37 ⟨by simp [r_lets, e9, e8], rfl⟩
    · have e8 := b_of1 h2
      refine V_aload_n0 X dX12_lets_18 ?_
      refine V_iload_n2 X dX12_lets_19 ?_
      refine V_cV1I X dX12_lets_20 kX12_118 (m_isPortrait l G ad ws hO o1 z) (by assumption) (by rfl) (Nat.le_of_ble_eq_true rfl) ⟨⟨Nat.le_of_ble_eq_true rfl, Nat.le_of_ble_eq_true rfl⟩, Nat.le_of_ble_eq_true rfl, Nat.le_of_ble_eq_true rfl⟩ (fun r ws2 hc => ?_)
      obtain ⟨rfl, hw9⟩ := hc
      obtain rfl := hw9.symm
      refine V_if_eq X 35 dX12_lets_23 (by decide) (fun h3 => ?_) (fun h3 => ?_)
      · have e7 := b_of0 h3
        refine V_bipushE X (-102) dX12_lets_35 (by decide +kernel) ?_
        exact V_iret X dX12_lets_37 ⟨by simp [r_lets, e9, e7], rfl⟩
      · have e7 := b_of1 h3
        obtain ⟨a, ha, rfl⟩ := inR_of (by omega) e8
        obtain ⟨b, hb, rfl⟩ := inR_of (by omega) e7
        refine V_aload_n0 X dX12_lets_26 ?_
        refine V_iload_n1 X dX12_lets_27 ?_
        refine V_iload_n2 X dX12_lets_28 ?_
        refine V_cV2I X dX12_lets_29 kX12_163 (m_letsMany l G ad ws hO K kg Js hJ a b (by omega) (by omega)) (by assumption) (by rfl) (Nat.le_of_ble_eq_true rfl) ⟨⟨Nat.le_of_ble_eq_true rfl, Nat.le_of_ble_eq_true rfl⟩, Nat.le_of_ble_eq_true rfl, Nat.le_of_ble_eq_true rfl⟩ (fun r ws2 hc => ?_)
        obtain ⟨rfl, hw9⟩ := hc
        obtain rfl := hw9.symm
        refine V_goto X 37 dX12_lets_32 (by decide) ?_
        exact V_iret X dX12_lets_37 ⟨by simp [r_lets, e9, e8, e7, valI_nI (show a < 2147483648 by omega), valI_nI (show b < 2147483648 by omega)], rfl⟩
  · have e9 := of_decide_eq_true (b_of1 h)
    refine V_bipushE X (-103) dX12_lets_7 (by decide +kernel) ?_
    exact V_iret X dX12_lets_9 ⟨by simp [r_lets, e9], rfl⟩
def R_strict (n : Nat) (K : Nat → Nat) (mm kg nj : Nat) (Js : Nat → JD) (Ln : Nat → Nat) : Int32 := if mm = 0 then (-103) else fstI (strictTo (fun j => passC n K (Js j) (Ln (mm - 1)) kg) nj)
theorem q_strict (l : Launch) (G : GX) (ad : Nat → Nat) (ws : List CE) (n : Nat) (K : Nat → Nat) (kg mm : Nat) (Ln : Nat → Nat) (np : Nat) (pg : Nat → Nat) (nj : Nat) (Js : Nat → JD) (pn : Nat) (Pe : Nat → Nat) (hn : Nat) (U : Nat → Nat) (tr kk km kp kh rd : Nat) (hM : RM ws n K kg mm Ln np pg nj Js pn Pe hn U tr kk km kp kh rd) (hK : OKs n K kg mm Ln np pg nj Js pn Pe hn U tr kk km kp kh rd) : Ct l G yX12_strict cX12_strict 1 (some .int) 7 0 0 ad ws [.ref 29] (pI ad (fun r ws2 => r = R_strict n K mm kg nj Js Ln ∧ ws2 = ws)) := by
  refine Ct.of [some (.ref 29)] (by decide +kernel) (Nat.le_of_ble_eq_true rfl) rfl ?_
  intro p e s m args below meth c A X
  obtain ⟨⟨rm, sa, sd, hs, hO⟩, hJ, ⟨h60, h10, hp6, hh6⟩, hl, hpg, hPe, hU, hkk, hkl, hkp, hkh, hscr⟩ := hM
  obtain ⟨o1, o2, o3, o4, o5, o6, o7, o8, o9, o10, o11, o12, o13, o14⟩ := hK
  have h104 := pow_le4 o1
  have hkd := hJ.2.2.2.2.1
  have hkd5 := hJ.2.2.1
  have hkin := hJ.2.2.2.2.2.1
  refine V_aload_n0 X dX12_strict_0 ?_
  refine V_cV0I X dX12_strict_1 kX12_79 (m_lacks l G ad ws hO h60) (by assumption) (by rfl) (Nat.le_of_ble_eq_true rfl) ⟨⟨Nat.le_of_ble_eq_true rfl, Nat.le_of_ble_eq_true rfl⟩, Nat.le_of_ble_eq_true rfl, Nat.le_of_ble_eq_true rfl⟩ (fun r ws2 hc => ?_)
  obtain ⟨rfl, hw9⟩ := hc
  obtain rfl := hw9.symm
  refine V_if_eq X 12 dX12_strict_4 (by decide) (fun h => ?_) (fun h => ?_)
  · have e9 := of_decide_eq_false (b_of0 h)
    refine V_aload_n0 X dX12_strict_12 ?_
    refine V_cV0I X dX12_strict_13 kX12_167 (m_strictOf l G ad ws hO (by omega) h60 Ln hl (fun i hi => by have := o3 i hi; omega) K kg Js hJ) (by assumption) (by rfl) (Nat.le_of_ble_eq_true rfl) ⟨⟨Nat.le_of_ble_eq_true rfl, Nat.le_of_ble_eq_true rfl⟩, Nat.le_of_ble_eq_true rfl, Nat.le_of_ble_eq_true rfl⟩ (fun r ws2 hc => ?_)
    obtain ⟨rfl, hw9⟩ := hc
    obtain rfl := hw9.symm
    exact V_iret X dX12_strict_16 ⟨by rw [R_strict, if_neg e9], rfl⟩
  · have e9 := of_decide_eq_true (b_of1 h)
    refine V_bipushE X (-103) dX12_strict_7 (by decide +kernel) ?_
    refine V_goto X 16 dX12_strict_9 (by decide) ?_
    exact V_iret X dX12_strict_16 ⟨by simp [R_strict, e9], rfl⟩
theorem q_back (l : Launch) (G : GX) (ad : Nat → Nat) (ws : List CE) (n : Nat) (K : Nat → Nat) (kg mm : Nat) (Ln : Nat → Nat) (np : Nat) (pg : Nat → Nat) (nj : Nat) (Js : Nat → JD) (pn : Nat) (Pe : Nat → Nat) (hn : Nat) (U : Nat → Nat) (tr kk km kp kh rd : Nat) (hM : RM ws n K kg mm Ln np pg nj Js pn Pe hn U tr kk km kp kh rd) (hK : OKs n K kg mm Ln np pg nj Js pn Pe hn U tr kk km kp kh rd) (x : Int32) : Ct l G yX12_back cX12_back 2 (some .int) 4 0 0 ad ws [.ref 29, .int x] (pI ad (fun r ws2 => r = r_back n K mm Ln x ∧ ws2 = ws)) := by
  refine Ct.of [some (.ref 29), some (.int x)] (by decide +kernel) (Nat.le_of_ble_eq_true rfl) rfl ?_
  intro p e s m args below meth c A X
  obtain ⟨⟨rm, sa, sd, hs, hO⟩, hJ, ⟨h60, h10, hp6, hh6⟩, hl, hpg, hPe, hU, hkk, hkl, hkp, hkh, hscr⟩ := hM
  obtain ⟨o1, o2, o3, o4, o5, o6, o7, o8, o9, o10, o11, o12, o13, o14⟩ := hK
  have h104 := pow_le4 o1
  have hkd := hJ.2.2.2.2.1
  have hkd5 := hJ.2.2.1
  have hkin := hJ.2.2.2.2.2.1
  refine V_aload_n0 X dX12_back_0 ?_
  refine V_cV0I X dX12_back_1 kX12_79 (m_lacks l G ad ws hO h60) (by assumption) (by rfl) (Nat.le_of_ble_eq_true rfl) ⟨⟨Nat.le_of_ble_eq_true rfl, Nat.le_of_ble_eq_true rfl⟩, Nat.le_of_ble_eq_true rfl, Nat.le_of_ble_eq_true rfl⟩ (fun r ws2 hc => ?_)
  obtain ⟨rfl, hw9⟩ := hc
  obtain rfl := hw9.symm
  refine V_if_eq X 10 dX12_back_4 (by decide) (fun h => ?_) (fun h => ?_)
  · have e9 := of_decide_eq_false (b_of0 h)
    refine V_aload_n0 X dX12_back_10 ?_
    refine V_iload_n1 X dX12_back_11 ?_
    refine V_cV1I X dX12_back_12 kX12_118 (m_isPortrait l G ad ws hO o1 x) (by assumption) (by rfl) (Nat.le_of_ble_eq_true rfl) ⟨⟨Nat.le_of_ble_eq_true rfl, Nat.le_of_ble_eq_true rfl⟩, Nat.le_of_ble_eq_true rfl, Nat.le_of_ble_eq_true rfl⟩ (fun r ws2 hc => ?_)
    obtain ⟨rfl, hw9⟩ := hc
    obtain rfl := hw9.symm
    refine V_if_eq X 26 dX12_back_15 (by decide) (fun h2 => ?_) (fun h2 => ?_)
    · have e8 := b_of0 h2
      refine V_bipushE X (-102) dX12_back_26 (by decide +kernel) ?_
      exact V_iret X dX12_back_28 ⟨by simp [r_back, e9, e8], rfl⟩
    · have e8 := b_of1 h2
      obtain ⟨a, ha, rfl⟩ := inR_of (by omega) e8
      refine V_aload_n0 X dX12_back_18 ?_
      refine V_iload_n1 X dX12_back_19 ?_
      refine V_cV1I X dX12_back_20 kX12_202 (m_backOf l G ad ws hO o1 (by omega) h60 Ln hl (fun i hi => by have := o3 i hi; omega) K hkd hkd5 a (by omega)) (by assumption) (by rfl) (Nat.le_of_ble_eq_true rfl) ⟨⟨Nat.le_of_ble_eq_true rfl, Nat.le_of_ble_eq_true rfl⟩, Nat.le_of_ble_eq_true rfl, Nat.le_of_ble_eq_true rfl⟩ (fun r ws2 hc => ?_)
      obtain ⟨rfl, hw9⟩ := hc
      obtain rfl := hw9.symm
      refine V_goto X 28 dX12_back_23 (by decide) ?_
      exact V_iret X dX12_back_28 ⟨by simp [r_back, e9, e8, valI_nI (show a < 2147483648 by omega)], rfl⟩
  · have e9 := of_decide_eq_true (b_of1 h)
    refine V_bipushE X (-103) dX12_back_7 (by decide +kernel) ?_
    exact V_iret X dX12_back_9 ⟨by simp [r_back, e9], rfl⟩
def R_span (n : Nat) (K : Nat → Nat) (mm : Nat) (Ln : Nat → Nat) (x : Int32) : Int32 := if mm = 0 then (-103) else if inR 4 x then nI (cnt (fun a => decide (stepP n K a (Ln (mm - 1)) ≤ valI x)) (10 ^ n)) else (-102)
theorem q_span (l : Launch) (G : GX) (ad : Nat → Nat) (ws : List CE) (n : Nat) (K : Nat → Nat) (kg mm : Nat) (Ln : Nat → Nat) (np : Nat) (pg : Nat → Nat) (nj : Nat) (Js : Nat → JD) (pn : Nat) (Pe : Nat → Nat) (hn : Nat) (U : Nat → Nat) (tr kk km kp kh rd : Nat) (hM : RM ws n K kg mm Ln np pg nj Js pn Pe hn U tr kk km kp kh rd) (hK : OKs n K kg mm Ln np pg nj Js pn Pe hn U tr kk km kp kh rd) (x : Int32) : Ct l G yX12_span cX12_span 2 (some .int) 5 0 0 ad ws [.ref 29, .int x] (pI ad (fun r ws2 => r = R_span n K mm Ln x ∧ ws2 = ws)) := by
  refine Ct.of [some (.ref 29), some (.int x)] (by decide +kernel) (Nat.le_of_ble_eq_true rfl) rfl ?_
  intro p e s m args below meth c A X
  obtain ⟨⟨rm, sa, sd, hs, hO⟩, hJ, ⟨h60, h10, hp6, hh6⟩, hl, hpg, hPe, hU, hkk, hkl, hkp, hkh, hscr⟩ := hM
  obtain ⟨o1, o2, o3, o4, o5, o6, o7, o8, o9, o10, o11, o12, o13, o14⟩ := hK
  have h104 := pow_le4 o1
  have hkd := hJ.2.2.2.2.1
  have hkd5 := hJ.2.2.1
  have hkin := hJ.2.2.2.2.2.1
  refine V_aload_n0 X dX12_span_0 ?_
  refine V_cV0I X dX12_span_1 kX12_79 (m_lacks l G ad ws hO h60) (by assumption) (by rfl) (Nat.le_of_ble_eq_true rfl) ⟨⟨Nat.le_of_ble_eq_true rfl, Nat.le_of_ble_eq_true rfl⟩, Nat.le_of_ble_eq_true rfl, Nat.le_of_ble_eq_true rfl⟩ (fun r ws2 hc => ?_)
  obtain ⟨rfl, hw9⟩ := hc
  obtain rfl := hw9.symm
  refine V_if_eq X 10 dX12_span_4 (by decide) (fun h => ?_) (fun h => ?_)
  · have e9 := of_decide_eq_false (b_of0 h)
    refine V_iload_n1 X dX12_span_10 ?_
    refine V_i2l X dX12_span_11 ?_
    refine V_lconstE X (lN 0) dX12_span_12 (by decide +kernel) ?_
    refine V_ldc2 X dX12_span_13 w_1069 ?_
    refine V_cS3I X dX12_span_16 kX12_68 (m_in l G ad ws _ _ _) (Nat.le_of_ble_eq_true rfl) ⟨⟨Nat.le_of_ble_eq_true rfl, Nat.le_of_ble_eq_true rfl⟩, Nat.le_of_ble_eq_true rfl, Nat.le_of_ble_eq_true rfl⟩ (fun r ws2 hc => ?_)
    obtain ⟨rfl, hw9⟩ := hc
    obtain rfl := hw9.symm
    rw [inL_k (n := 4) (by decide) (by decide +kernel)]
    refine V_if_eq X 30 dX12_span_19 (by decide) (fun h2 => ?_) (fun h2 => ?_)
    · have e8 := b_of0 h2
      refine V_bipushE X (-102) dX12_span_30 (by decide +kernel) ?_
      exact V_iret X dX12_span_32 ⟨by simp [R_span, e9, e8], rfl⟩
    · have e8 := b_of1 h2
      obtain ⟨t, ht, rfl⟩ := inR_of (by decide) e8
      refine V_aload_n0 X dX12_span_22 ?_
      refine V_iload_n1 X dX12_span_23 ?_
      refine V_cV1I X dX12_span_24 kX12_205 (m_spanOf l G ad ws hO o1 (by omega) h60 Ln hl (fun i hi => by have := o3 i hi; omega) K hkd hkd5 t (by omega)) (by assumption) (by rfl) (Nat.le_of_ble_eq_true rfl) ⟨⟨Nat.le_of_ble_eq_true rfl, Nat.le_of_ble_eq_true rfl⟩, Nat.le_of_ble_eq_true rfl, Nat.le_of_ble_eq_true rfl⟩ (fun r ws2 hc => ?_)
      obtain ⟨rfl, hw9⟩ := hc
      obtain rfl := hw9.symm
      refine V_goto X 32 dX12_span_27 (by decide) ?_
      exact V_iret X dX12_span_32 ⟨by rw [R_span, if_neg e9, e8, if_pos rfl, valI_nI (by omega)], rfl⟩
  · have e9 := of_decide_eq_true (b_of1 h)
    refine V_bipushE X (-103) dX12_span_7 (by decide +kernel) ?_
    exact V_iret X dX12_span_9 ⟨by simp [R_span, e9], rfl⟩
theorem q_gate (l : Launch) (G : GX) (ad : Nat → Nat) (ws : List CE) (n : Nat) (K : Nat → Nat) (kg mm : Nat) (Ln : Nat → Nat) (np : Nat) (pg : Nat → Nat) (nj : Nat) (Js : Nat → JD) (pn : Nat) (Pe : Nat → Nat) (hn : Nat) (U : Nat → Nat) (tr kk km kp kh rd : Nat) (hM : RM ws n K kg mm Ln np pg nj Js pn Pe hn U tr kk km kp kh rd) (hK : OKs n K kg mm Ln np pg nj Js pn Pe hn U tr kk km kp kh rd) : Ct l G yX12_gate cX12_gate 1 (some .int) 8 0 0 ad ws [.ref 29] (pI ad (fun r ws2 => r = r_gate n K mm kg nj Js Ln pn Pe ∧ ws2 = ws)) := by
  refine Ct.of [some (.ref 29)] (by decide +kernel) (Nat.le_of_ble_eq_true rfl) rfl ?_
  intro p e s m args below meth c A X
  obtain ⟨⟨rm, sa, sd, hs, hO⟩, hJ, ⟨h60, h10, hp6, hh6⟩, hl, hpg, hPe, hU, hkk, hkl, hkp, hkh, hscr⟩ := hM
  obtain ⟨o1, o2, o3, o4, o5, o6, o7, o8, o9, o10, o11, o12, o13, o14⟩ := hK
  have h104 := pow_le4 o1
  have hkd := hJ.2.2.2.2.1
  have hkd5 := hJ.2.2.1
  have hkin := hJ.2.2.2.2.2.1
  refine V_aload_n0 X dX12_gate_0 ?_
  refine V_cV0I X dX12_gate_1 kX12_79 (m_lacks l G ad ws hO h60) (by assumption) (by rfl) (Nat.le_of_ble_eq_true rfl) ⟨⟨Nat.le_of_ble_eq_true rfl, Nat.le_of_ble_eq_true rfl⟩, Nat.le_of_ble_eq_true rfl, Nat.le_of_ble_eq_true rfl⟩ (fun r ws2 hc => ?_)
  obtain ⟨rfl, hw9⟩ := hc
  obtain rfl := hw9.symm
  refine V_if_eq X 12 dX12_gate_4 (by decide) (fun h => ?_) (fun h => ?_)
  · have e9 := of_decide_eq_false (b_of0 h)
    refine V_aload_n0 X dX12_gate_12 ?_
    refine V_cV0I X dX12_gate_13 kX12_211 (m_gateOf l G ad ws hO (by omega) h60 Ln hl (fun i hi => by have := o3 i hi; omega) K kg Js hJ hp6 Pe hPe (fun i hi => by have := o5 i hi; omega)) (by assumption) (by rfl) (Nat.le_of_ble_eq_true rfl) ⟨⟨Nat.le_of_ble_eq_true rfl, Nat.le_of_ble_eq_true rfl⟩, Nat.le_of_ble_eq_true rfl, Nat.le_of_ble_eq_true rfl⟩ (fun r ws2 hc => ?_)
    obtain ⟨rfl, hw9⟩ := hc
    obtain rfl := hw9.symm
    exact V_iret X dX12_gate_16 ⟨by rw [r_gate, if_neg e9], rfl⟩
  · have e9 := of_decide_eq_true (b_of1 h)
    refine V_bipushE X (-103) dX12_gate_7 (by decide +kernel) ?_
    refine V_goto X 16 dX12_gate_9 (by decide) ?_
    exact V_iret X dX12_gate_16 ⟨by simp [r_gate, e9], rfl⟩
theorem m_countOf (l : Launch) (G : GX) (ad : Nat → Nat) (ws : List CE) (n : Nat) (K : Nat → Nat) (kg mm : Nat) (Ln : Nat → Nat) (np : Nat) (pg : Nat → Nat) (nj : Nat) (Js : Nat → JD) (pn : Nat) (Pe : Nat → Nat) (hn : Nat) (U : Nat → Nat) (tr kk km kp kh rd : Nat) (hM : RM ws n K kg mm Ln np pg nj Js pn Pe hn U tr kk km kp kh rd) (hK : OKs n K kg mm Ln np pg nj Js pn Pe hn U tr kk km kp kh rd) (x : Int32) : Ct l G yX12_countOf cX12_countOf 2 (some .int) 4 0 0 ad ws [.ref 29, .int x] (pI ad (fun r ws2 => r = r_count n K kg mm Ln np nj pn hn tr x ∧ ws2 = ws)) := by
  refine Ct.of [some (.ref 29), some (.int x)] (by decide +kernel) (Nat.le_of_ble_eq_true rfl) rfl ?_
  intro p e s m args below meth c A X
  obtain ⟨⟨rm, sa, sd, hs, hO⟩, hJ, ⟨h60, h10, hp6, hh6⟩, hl, hpg, hPe, hU, hkk, hkl, hkp, hkh, hscr⟩ := hM
  obtain ⟨o1, o2, o3, o4, o5, o6, o7, o8, o9, o10, o11, o12, o13, o14⟩ := hK
  have h104 := pow_le4 o1
  have hkd := hJ.2.2.2.2.1
  have hkd5 := hJ.2.2.1
  have hkin := hJ.2.2.2.2.2.1
  refine V_iload_n1 X dX12_countOf_0 ?_
  by_cases e8 : inR 8 x = true
  · obtain ⟨w, hw, rfl⟩ := inR_of (by decide) e8
    rw [r_count, e8, if_pos rfl, valI_nI (by omega)]
    rcases (show w = 0 ∨ w = 1 ∨ w = 2 ∨ w = 3 ∨ w = 4 ∨ w = 5 ∨ w = 6 ∨ w = 7 by omega) with rfl | rfl | rfl | rfl | rfl | rfl | rfl | rfl
    · refine V_tswI X 48 dX12_countOf_1 (by decide +kernel) (by decide +kernel) (off := 47) (by decide +kernel) (by decide) ?_
      refine V_aload_n0 X dX12_countOf_48 ?_
      refine V_getf X dX12_countOf_49 fX12_65 (by assumption) (by rfl) ?_
      exact V_iret X dX12_countOf_52 ⟨rfl, rfl⟩
    · refine V_tswI X 53 dX12_countOf_1 (by decide +kernel) (by decide +kernel) (off := 52) (by decide +kernel) (by decide) ?_
      refine V_aload_n0 X dX12_countOf_53 ?_
      refine V_getf X dX12_countOf_54 fX12_72 (by assumption) (by rfl) ?_
      exact V_iret X dX12_countOf_57 ⟨rfl, rfl⟩
    · refine V_tswI X 58 dX12_countOf_1 (by decide +kernel) (by decide +kernel) (off := 57) (by decide +kernel) (by decide) ?_
      refine V_aload_n0 X dX12_countOf_58 ?_
      refine V_getf X dX12_countOf_59 fX12_154 (by assumption) (by rfl) ?_
      exact V_iret X dX12_countOf_62 ⟨rfl, rfl⟩
    · refine V_tswI X 63 dX12_countOf_1 (by decide +kernel) (by decide +kernel) (off := 62) (by decide +kernel) (by decide) ?_
      refine V_aload_n0 X dX12_countOf_63 ?_
      refine V_getf X dX12_countOf_64 fX12_208 (by assumption) (by rfl) ?_
      exact V_iret X dX12_countOf_67 ⟨rfl, rfl⟩
    · refine V_tswI X 68 dX12_countOf_1 (by decide +kernel) (by decide +kernel) (off := 67) (by decide +kernel) (by decide) ?_
      refine V_aload_n0 X dX12_countOf_68 ?_
      refine V_getf X dX12_countOf_69 fX12_214 (by assumption) (by rfl) ?_
      exact V_iret X dX12_countOf_72 ⟨rfl, rfl⟩
    · refine V_tswI X 73 dX12_countOf_1 (by decide +kernel) (by decide +kernel) (off := 72) (by decide +kernel) (by decide) ?_
      refine V_aload_n0 X dX12_countOf_73 ?_
      refine V_getf X dX12_countOf_74 fX12_139 (by assumption) (by rfl) ?_
      exact V_iret X dX12_countOf_77 ⟨rfl, rfl⟩
    · refine V_tswI X 78 dX12_countOf_1 (by decide +kernel) (by decide +kernel) (off := 77) (by decide +kernel) (by decide) ?_
      refine V_aload_n0 X dX12_countOf_78 ?_
      refine V_getf X dX12_countOf_79 fX12_179 (by assumption) (by rfl) ?_
      exact V_iret X dX12_countOf_82 ⟨rfl, rfl⟩
    · refine V_tswI X 83 dX12_countOf_1 (by decide +kernel) (by decide +kernel) (off := 82) (by decide +kernel) (by decide) ?_
      refine V_aload_n0 X dX12_countOf_83 ?_
      refine V_cV0I X dX12_countOf_84 kX12_79 (m_lacks l G ad ws hO h60) (by assumption) (by rfl) (Nat.le_of_ble_eq_true rfl) ⟨⟨Nat.le_of_ble_eq_true rfl, Nat.le_of_ble_eq_true rfl⟩, Nat.le_of_ble_eq_true rfl, Nat.le_of_ble_eq_true rfl⟩ (fun r ws2 hc => ?_)
      obtain ⟨rfl, hw9⟩ := hc
      obtain rfl := hw9.symm
      refine V_if_eq X 94 dX12_countOf_87 (by decide) (fun h => ?_) (fun h => ?_)
      · have e9 := of_decide_eq_false (b_of0 h)
        have e7 := o3 (mm - 1) (by omega)
        refine V_aload_n0 X dX12_countOf_94 ?_
        refine V_aload_n0 X dX12_countOf_95 ?_
        refine V_cV0I X dX12_countOf_96 kX12_105 (m_king l G ad ws hO o1 kg hkin o2) (by assumption) (by rfl) (Nat.le_of_ble_eq_true rfl) ⟨⟨Nat.le_of_ble_eq_true rfl, Nat.le_of_ble_eq_true rfl⟩, Nat.le_of_ble_eq_true rfl, Nat.le_of_ble_eq_true rfl⟩ (fun r ws2 hc => ?_)
        obtain ⟨rfl, hw9⟩ := hc
        obtain rfl := hw9.symm
        refine V_aload_n0 X dX12_countOf_99 ?_
        refine V_cV0I X dX12_countOf_100 kX12_91 (m_last l G ad ws hO (by omega) h60 Ln hl) (by assumption) (by rfl) (Nat.le_of_ble_eq_true rfl) ⟨⟨Nat.le_of_ble_eq_true rfl, Nat.le_of_ble_eq_true rfl⟩, Nat.le_of_ble_eq_true rfl, Nat.le_of_ble_eq_true rfl⟩ (fun r ws2 hc => ?_)
        obtain ⟨rfl, hw9⟩ := hc
        obtain rfl := hw9.symm
        refine V_cV2I X dX12_countOf_103 kX12_121 (m_apartOf l G ad ws hO o1 K hkd hkd5 kg _ (by omega) (by omega)) (by assumption) (by rfl) (Nat.le_of_ble_eq_true rfl) ⟨⟨Nat.le_of_ble_eq_true rfl, Nat.le_of_ble_eq_true rfl⟩, Nat.le_of_ble_eq_true rfl, Nat.le_of_ble_eq_true rfl⟩ (fun r ws2 hc => ?_)
        obtain ⟨rfl, hw9⟩ := hc
        obtain rfl := hw9.symm
        exact V_iret X dX12_countOf_106 ⟨by simp [howI, e9], rfl⟩
      · have e9 := of_decide_eq_true (b_of1 h)
        refine V_iconstE X (nI 0) dX12_countOf_90 (by decide +kernel) ?_
        refine V_goto X 106 dX12_countOf_91 (by decide) ?_
        exact V_iret X dX12_countOf_106 ⟨by simp [howI, e9], rfl⟩
  · have e7 : inR 8 x = false := by simpa using e8
    have e6 : x.toInt < 0 ∨ 7 < x.toInt := by
      rw [inR_int (by decide)] at e7
      have := of_decide_eq_false e7
      omega
    refine V_tswO X 107 dX12_countOf_1 e6 (by decide) ?_
    refine V_bipushE X (-102) dX12_countOf_107 (by decide +kernel) ?_
    exact V_iret X dX12_countOf_109 ⟨by rw [r_count, e7]; rfl, rfl⟩
theorem q_count (l : Launch) (G : GX) (ad : Nat → Nat) (ws : List CE) (n : Nat) (K : Nat → Nat) (kg mm : Nat) (Ln : Nat → Nat) (np : Nat) (pg : Nat → Nat) (nj : Nat) (Js : Nat → JD) (pn : Nat) (Pe : Nat → Nat) (hn : Nat) (U : Nat → Nat) (tr kk km kp kh rd : Nat) (hM : RM ws n K kg mm Ln np pg nj Js pn Pe hn U tr kk km kp kh rd) (hK : OKs n K kg mm Ln np pg nj Js pn Pe hn U tr kk km kp kh rd) (x : Int32) : Ct l G yX12_count cX12_count 2 (some .int) 5 0 0 ad ws [.ref 29, .int x] (pI ad (fun r ws2 => r = r_count n K kg mm Ln np nj pn hn tr x ∧ ws2 = ws)) := by
  refine Ct.of [some (.ref 29), some (.int x)] (by decide +kernel) (Nat.le_of_ble_eq_true rfl) rfl ?_
  intro p e s m args below meth c A X
  obtain ⟨rm, sa, sd, hs, hO⟩ := hM.1
  refine V_aload_n0 X dX12_count_0 ?_
  refine V_iload_n1 X dX12_count_1 ?_
  refine V_cV1I X dX12_count_2 kX12_240 (m_countOf l G ad ws n K kg mm Ln np pg nj Js pn Pe hn U tr kk km kp kh rd hM hK x) (by assumption) (by rfl) (Nat.le_of_ble_eq_true rfl) ⟨⟨Nat.le_of_ble_eq_true rfl, Nat.le_of_ble_eq_true rfl⟩, Nat.le_of_ble_eq_true rfl, Nat.le_of_ble_eq_true rfl⟩ (fun r ws2 hc => ?_)
  obtain ⟨rfl, hw9⟩ := hc
  obtain rfl := hw9.symm
  exact V_iret X dX12_count_5 ⟨rfl, rfl⟩
