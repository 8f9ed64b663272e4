/-! the reference: features, images, slips, orders, texts -/
set_option maxHeartbeats 1000000 in
theorem q_feature (l : Launch) (G : GX) (ad : Nat → Nat) (ws : List CE) (n : Nat) (K : Nat → Nat) (kg mm : Nat) (Ln : Nat → Nat) (np : Nat) (pg : Nat → Nat) (nj : Nat) (Js : Nat → JD) (pn : Nat) (Pe : Nat → Nat) (hn : Nat) (U : Nat → Nat) (tr kk km kp kh rd : Nat) (hM : RM ws n K kg mm Ln np pg nj Js pn Pe hn U tr kk km kp kh rd) (hK : OKs n K kg mm Ln np pg nj Js pn Pe hn U tr kk km kp kh rd) (x z : Int32) : Ct l G yX12_feature cX12_feature 3 (some .int) 1 0 0 ad ws [.ref 29, .int x, .int z] (pI ad (fun r ws2 => r = r_feature n mm x z ∧ (if okF n mm x z = true then RM ws2 (n + 1) (updN K n (valI x)) (withP kg n (valI z)) mm Ln np pg nj Js pn Pe hn U tr kk km kp kh rd else RM ws2 n K kg mm Ln np pg nj Js pn Pe hn U tr kk km kp kh rd) ∧ fr ref18 ws ws2)) := by
  refine Ct.of [some (.ref 29), some (.int x), some (.int z)] (by decide +kernel) (Nat.le_of_ble_eq_true rfl) rfl ?_
  intro p e s m args below meth c A X
  have hM0 := hM
  obtain ⟨⟨rm, sa, sd, hs, hO⟩, hJ, ⟨h60, h10, hp6, hh6⟩, hl, hpg, hPe, hU, hkk, hkl, hkp, hkh, hscr⟩ := hM
  obtain ⟨o1, o2, o3, o4, o5, o6, o7, o8, o9, o10, o11, o12, o13, o14⟩ := hK
  have h104 := pow_le4 o1
  have hkd := hJ.2.2.2.2.1
  have hkd5 := hJ.2.2.1
  have hkin := hJ.2.2.2.2.2.1
  obtain ⟨fk, hk1, hk2⟩ := hkd
  obtain ⟨fg, hg1, hg2⟩ := hkin
  refine V_iload_n1 X dX12_feature_0 ?_
  refine V_i2l X dX12_feature_1 ?_
  refine V_lconstE X (lN 0) dX12_feature_2 (by decide +kernel) ?_
  refine V_ldc2 X dX12_feature_3 w_895 ?_
  refine V_cS3I X dX12_feature_6 kX12_68 (m_in l G ad ws _ _ _) (Nat.le_of_ble_eq_true rfl) ⟨⟨Nat.le_of_ble_eq_true rfl, Nat.le_of_ble_eq_true rfl⟩, Nat.le_of_ble_eq_true rfl, Nat.le_of_ble_eq_true rfl⟩ (fun r ws2 hc => ?_)
  obtain ⟨rfl, hw9⟩ := hc
  obtain rfl := hw9.symm
  rw [inL_k (n := 5) (by decide) (by decide +kernel)]
  refine V_if_eq X 24 dX12_feature_9 (by decide) (fun h => ?_) (fun h => ?_)
  · have e9 := b_of0 h
    refine V_bipushE X (-102) dX12_feature_24 (by decide +kernel) ?_
    exact V_iret X dX12_feature_26 ⟨by rw [r_feature, e9]; rfl, by rw [okF, e9]; exact hM0, fr.rfl⟩
  · have e9 := b_of1 h
    refine V_iload_n2 X dX12_feature_12 ?_
    refine V_i2l X dX12_feature_13 ?_
    refine V_lconstE X (lN 0) dX12_feature_14 (by decide +kernel) ?_
    refine V_ldc2 X dX12_feature_15 w_899 ?_
    refine V_cS3I X dX12_feature_18 kX12_68 (m_in l G ad ws _ _ _) (Nat.le_of_ble_eq_true rfl) ⟨⟨Nat.le_of_ble_eq_true rfl, Nat.le_of_ble_eq_true rfl⟩, Nat.le_of_ble_eq_true rfl, Nat.le_of_ble_eq_true rfl⟩ (fun r ws2 hc => ?_)
    obtain ⟨rfl, hw9⟩ := hc
    obtain rfl := hw9.symm
    rw [inL_k (n := 10) (by decide) (by decide +kernel)]
    refine V_if_ne X 27 dX12_feature_21 (by decide) (fun h2 => ?_) (fun h2 => ?_)
    · have e8 := b_of1 h2
      refine V_aload_n0 X dX12_feature_27 ?_
      refine V_cV0I X dX12_feature_28 kX12_79 (m_lacks l G ad ws hO h60) (by assumption) (by rfl) (Nat.le_of_ble_eq_true rfl) ⟨⟨Nat.le_of_ble_eq_true rfl, Nat.le_of_ble_eq_true rfl⟩, Nat.le_of_ble_eq_true rfl, Nat.le_of_ble_eq_true rfl⟩ (fun r ws2 hc => ?_)
      obtain ⟨rfl, hw9⟩ := hc
      obtain rfl := hw9.symm
      refine V_if_ne X 37 dX12_feature_31 (by decide) (fun h3 => ?_) (fun h3 => ?_)
      · have e7 := of_decide_eq_true (b_of1 h3)
        refine V_aload_n0 X dX12_feature_37 ?_
        refine V_getf X dX12_feature_38 fX12_65 (by assumption) (by rfl) ?_
        refine V_iconstE X (nI 4) dX12_feature_41 (by decide +kernel) ?_
        refine V_icmp_ne X 48 dX12_feature_42 (by decide) (fun h4 => ?_) (fun h4 => ?_)
        · have e6 := c_ne h4
          obtain ⟨t, ht, rfl⟩ := inR_of (by decide) e9
          obtain ⟨v, hv, rfl⟩ := inR_of (by decide) e8
          have hok : okF n mm (nI t) (nI v) = true := by rw [okF, e9, e8, decide_eq_true e7, decide_eq_true (show n < 4 by omega)]; rfl
          have hvt : valI (nI t) = t := valI_nI (by omega)
          have hvv : valI (nI v) = v := valI_nI (by omega)
          rw [hvt, hvv]
          refine V_aload_n0 X dX12_feature_48 ?_
          refine V_getf X dX12_feature_49 fX12_7 (by assumption) (by rfl) ?_
          refine V_aload_n0 X dX12_feature_52 ?_
          refine V_getf X dX12_feature_53 fX12_65 (by assumption) (by rfl) ?_
          refine V_iload_n1 X dX12_feature_56 ?_
          refine V_iast X n dX12_feature_57 (by assumption) rfl (by omega) (by omega) ?_
          have hO2 := gne (k := 30) (e2 := iA 4 (upd fk n (nI t))) (by decide) hO
          have hg3 := gne (k := 30) (e2 := iA 4 (upd fk n (nI t))) (by decide) hg1
          refine V_aload_n0 X dX12_feature_58 ?_
          refine V_getf X dX12_feature_59 fX12_13 (by assumption) (by rfl) ?_
          refine V_aload_n0 X dX12_feature_62 ?_
          refine V_getf X dX12_feature_63 fX12_65 (by assumption) (by rfl) ?_
          refine V_iload_n2 X dX12_feature_66 ?_
          refine V_iast X n dX12_feature_67 (by assumption) rfl (by omega) (by omega) ?_
          have hO3 := gne (k := 31) (e2 := iA 4 (upd fg n (nI v))) (by decide) hO2
          refine V_aload_n0 X dX12_feature_68 ?_
          refine V_dup X dX12_feature_69 rfl ?_
          refine V_getf X dX12_feature_70 fX12_65 (by assumption) (by rfl) ?_
          refine V_iconstE X (nI 1) dX12_feature_73 (by decide +kernel) ?_
          refine V_iadd X dX12_feature_74 ?_
          refine V_putf X dX12_feature_75 fX12_65 (by assumption) (Nat.le_of_ble_eq_true rfl) rfl rfl ?_
          refine V_eqW (ws2 := ((ws.set 30 (iA 4 (upd fk n (nI t)))).set 31 (iA 4 (upd fg n (nI v)))).set 29 (MO (n + 1) mm np rm sa nj tr sd pn hn (keptI km) (nI kp) (nI kh) hs)) (by rw [nI_add]; rfl) ?_
          have hO4 := gset (e2 := (MO (n + 1) mm np rm sa nj tr sd pn hn (keptI km) (nI kp) (nI kh) hs)) hO3
          have hfb : fr [29, 30, 31] ws (((ws.set 30 (iA 4 (upd fk n (nI t)))).set 31 (iA 4 (upd fg n (nI v)))).set 29 (MO (n + 1) mm np rm sa nj tr sd pn hn (keptI km) (nI kp) (nI kh) hs)) := ((fr.rfl.set (by decide)).set (by decide)).set (by decide)
          have hA : AI (((ws.set 30 (iA 4 (upd fk n (nI t)))).set 31 (iA 4 (upd fg n (nI v)))).set 29 (MO (n + 1) mm np rm sa nj tr sd pn hn (keptI km) (nI kp) (nI kh) hs)) 30 4 4 (updN K n t) := by
            refine ⟨_, gne (by decide) (gne (by decide) (gset hk1)), fun i hi => ?_⟩
            by_cases q : i = n
            · subst q; rw [pk_us, updN_eq]
            · rw [pk_un q, updN_ne q]; exact hk2 i hi
          have hB : AI (((ws.set 30 (iA 4 (upd fk n (nI t)))).set 31 (iA 4 (upd fg n (nI v)))).set 29 (MO (n + 1) mm np rm sa nj tr sd pn hn (keptI km) (nI kp) (nI kh) hs)) 31 4 4 (dg (withP kg n v)) := by
            refine ⟨_, gne (by decide) (gset hg3), fun i hi => ?_⟩
            by_cases q : i = n
            · subst q; rw [pk_us, dg_withP_self hv]
            · rw [pk_un q, dg_withP_ne hv q]; exact hg2 i hi
          obtain ⟨p1, p2, p3, p4⟩ := o8 e7
          have hK5 : ∀ f, f < 4 → updN K n t f < 5 := fun f hf => by
            by_cases q : f = n
            · rw [q, updN_eq]; exact ht
            · rw [updN_ne q]; exact hkd5 f hf
          obtain ⟨fj, hj1, hj2⟩ := hJ.2.2.2.2.2.2
          refine V_aload_n0 X dX12_feature_78 ?_
          refine V_getf X dX12_feature_79 fX12_65 (by assumption) (by rfl) ?_
          refine V_iconstE X (nI 1) dX12_feature_82 (by decide +kernel) ?_
          refine V_isub X dX12_feature_83 ?_
          refine V_iret X dX12_feature_84 ⟨?_, ?_, hfb.mono (ks2 := ref18) (by decide)⟩
          · rw [r_feature, e9, e8, if_pos (by rfl), if_pos e7, if_pos (by omega)]
            exact pk_sub (by omega)
          · rw [hok, if_pos rfl]
            exact ⟨⟨rm, sa, sd, hs, hO4⟩, ⟨by omega, hJ.2.1, hK5, fun j hj => by omega, hA, hB, fj, hfb.get (by decide) hj1, fun j hj => by omega⟩, ⟨h60, h10, hp6, hh6⟩, hl.fr hfb (by decide), hpg.fr hfb (by decide), hPe.fr hfb (by decide), hU.fr hfb (by decide), hkk.fr hfb (by decide), hkl.fr hfb (by decide), hkp.fr hfb (by decide), hkh.fr hfb (by decide), hscr.fr hfb (by decide) (by decide) (by decide) (by decide) (by decide) (by decide)⟩
        · have e6 := c_eq h4
          refine V_bipushE X (-104) dX12_feature_45 (by decide +kernel) ?_
          exact V_iret X dX12_feature_47 ⟨by rw [r_feature, e9, e8, if_pos (by rfl), if_pos e7, if_neg (by omega)], by rw [okF, decide_eq_false (show ¬ n < 4 by omega), Bool.and_false]; exact hM0, fr.rfl⟩
      · have e7 := of_decide_eq_false (b_of0 h3)
        refine V_bipushE X (-103) dX12_feature_34 (by decide +kernel) ?_
        exact V_iret X dX12_feature_36 ⟨by rw [r_feature, e9, e8, if_pos (by rfl), if_neg e7], by rw [okF, decide_eq_false e7, Bool.and_false]; exact hM0, fr.rfl⟩
    · have e8 := b_of0 h2
      refine V_bipushE X (-102) dX12_feature_24 (by decide +kernel) ?_
      exact V_iret X dX12_feature_26 ⟨by rw [r_feature, e9, e8]; rfl, by rw [okF, e9, e8]; exact hM0, fr.rfl⟩
theorem AI.cp {ws wz : List CE} {k j N m : Nat} {U : Nat → Nat} {fa fc : Nat → Int32} (h1 : ∀ i, i < m → fa i = nI (U i)) (hm : m ≤ N) (h2 : wz[j]? = some (iA N fc)) (h3 : ∀ i, i < N → fc i = fa i) : AI wz j N m U := ⟨fc, h2, fun i hi => (h3 i (by omega)).trans (h1 i hi)⟩
set_option maxHeartbeats 1000000 in
theorem q_image (l : Launch) (G : GX) (ad : Nat → Nat) (ws : List CE) (n : Nat) (K : Nat → Nat) (kg mm : Nat) (Ln : Nat → Nat) (np : Nat) (pg : Nat → Nat) (nj : Nat) (Js : Nat → JD) (pn : Nat) (Pe : Nat → Nat) (hn : Nat) (U : Nat → Nat) (tr kk km kp kh rd : Nat) (hM : RM ws n K kg mm Ln np pg nj Js pn Pe hn U tr kk km kp kh rd) (hK : OKs n K kg mm Ln np pg nj Js pn Pe hn U tr kk km kp kh rd) : Ct l G yX12_image cX12_image 1 (some .int) 1 0 0 ad ws [.ref 29] (pI ad (fun r ws2 => r = r_image mm ∧ (if mm = 0 then RM ws2 n K kg mm Ln np pg nj Js pn Pe hn U tr kk km kp kh rd else RM ws2 n K kg mm Ln np pg nj Js pn Pe hn U tr kg mm pn hn rd) ∧ fr ref18 ws ws2)) := by
  refine Ct.of [some (.ref 29)] (by decide +kernel) (Nat.le_of_ble_eq_true rfl) rfl ?_
  intro p e s m args below meth c A X
  have hM0 := hM
  obtain ⟨⟨rm, sa, sd, hs, hO⟩, hJ, ⟨h60, h10, hp6, hh6⟩, hl, hpg, hPe, hU, hkk, hkl, hkp, hkh, hscr⟩ := hM
  obtain ⟨o1, o2, o3, o4, o5, o6, o7, o8, o9, o10, o11, o12, o13, o14⟩ := hK
  have h104 := pow_le4 o1
  have hkd := hJ.2.2.2.2.1
  have hkd5 := hJ.2.2.1
  have hkin := hJ.2.2.2.2.2.1
  refine V_aload_n0 X dX12_image_0 ?_
  refine V_cV0I X dX12_image_1 kX12_79 (m_lacks l G ad ws hO h60) (by assumption) (by rfl) (Nat.le_of_ble_eq_true rfl) ⟨⟨Nat.le_of_ble_eq_true rfl, Nat.le_of_ble_eq_true rfl⟩, Nat.le_of_ble_eq_true rfl, Nat.le_of_ble_eq_true rfl⟩ (fun r ws2 hc => ?_)
  obtain ⟨rfl, hw9⟩ := hc
  obtain rfl := hw9.symm
  refine V_if_eq X 10 dX12_image_4 (by decide) (fun h => ?_) (fun h => ?_)
  · have e9 := of_decide_eq_false (b_of0 h)
    obtain ⟨fg, g1, g2⟩ := hkin
    obtain ⟨fl, l1, l2⟩ := hl
    obtain ⟨fp, p1, p2⟩ := hPe
    obtain ⟨fu, u1, u2⟩ := hU
    obtain ⟨fg2, g3⟩ := hkk.ex
    obtain ⟨fl2, l3⟩ := hkl.ex
    obtain ⟨fp2, p3⟩ := hkp.ex
    obtain ⟨fu2, u3⟩ := hkh.ex
    refine V_aload_n0 X dX12_image_10 ?_
    refine V_getf X dX12_image_11 fX12_13 (by assumption) (by rfl) ?_
    refine V_aload_n0 X dX12_image_14 ?_
    refine V_getf X dX12_image_15 fX12_49 (by assumption) (by rfl) ?_
    refine V_cS2V X dX12_image_18 kX12_230 (m_copy l G ad ws 31 43 4 fg fg2 (by decide) (by decide) g1 g3) (Nat.le_of_ble_eq_true rfl) ⟨⟨Nat.le_of_ble_eq_true rfl, Nat.le_of_ble_eq_true rfl⟩, Nat.le_of_ble_eq_true rfl, Nat.le_of_ble_eq_true rfl⟩ (fun ws2 hc => ?_)
    obtain ⟨⟨c1, d1, x1⟩, f1⟩ := hc
    generalize ws2 = w1 at d1 f1 ⊢
    have O1 := f1.get (by decide) hO
    refine V_aload_n0 X dX12_image_21 ?_
    refine V_getf X dX12_image_22 fX12_16 (by assumption) (by rfl) ?_
    refine V_aload_n0 X dX12_image_25 ?_
    refine V_getf X dX12_image_26 fX12_52 (by assumption) (by rfl) ?_
    refine V_cS2V X dX12_image_29 kX12_230 (m_copy l G ad w1 32 44 60 fl fl2 (by decide) (by decide) (f1.get (by decide) l1) (f1.get (by decide) l3)) (Nat.le_of_ble_eq_true rfl) ⟨⟨Nat.le_of_ble_eq_true rfl, Nat.le_of_ble_eq_true rfl⟩, Nat.le_of_ble_eq_true rfl, Nat.le_of_ble_eq_true rfl⟩ (fun ws2 hc => ?_)
    obtain ⟨⟨c2, d2, x2⟩, f2⟩ := hc
    generalize ws2 = w2 at d2 f2 ⊢
    have O2 := f2.get (by decide) O1
    refine V_aload_n0 X dX12_image_32 ?_
    refine V_getf X dX12_image_33 fX12_37 (by assumption) (by rfl) ?_
    refine V_aload_n0 X dX12_image_36 ?_
    refine V_getf X dX12_image_37 fX12_55 (by assumption) (by rfl) ?_
    refine V_cS2V X dX12_image_40 kX12_230 (m_copy l G ad w2 39 45 6 fp fp2 (by decide) (by decide) (f2.get (by decide) (f1.get (by decide) p1)) (f2.get (by decide) (f1.get (by decide) p3))) (Nat.le_of_ble_eq_true rfl) ⟨⟨Nat.le_of_ble_eq_true rfl, Nat.le_of_ble_eq_true rfl⟩, Nat.le_of_ble_eq_true rfl, Nat.le_of_ble_eq_true rfl⟩ (fun ws2 hc => ?_)
    obtain ⟨⟨c3, d3, x3⟩, f3⟩ := hc
    generalize ws2 = w3 at d3 f3 ⊢
    have O3 := f3.get (by decide) O2
    refine V_aload_n0 X dX12_image_43 ?_
    refine V_getf X dX12_image_44 fX12_40 (by assumption) (by rfl) ?_
    refine V_aload_n0 X dX12_image_47 ?_
    refine V_getf X dX12_image_48 fX12_58 (by assumption) (by rfl) ?_
    refine V_cS2V X dX12_image_51 kX12_230 (m_copy l G ad w3 40 46 6 fu fu2 (by decide) (by decide) (f3.get (by decide) (f2.get (by decide) (f1.get (by decide) u1))) (f3.get (by decide) (f2.get (by decide) (f1.get (by decide) u3)))) (Nat.le_of_ble_eq_true rfl) ⟨⟨Nat.le_of_ble_eq_true rfl, Nat.le_of_ble_eq_true rfl⟩, Nat.le_of_ble_eq_true rfl, Nat.le_of_ble_eq_true rfl⟩ (fun ws2 hc => ?_)
    obtain ⟨⟨c4, d4, x4⟩, f4⟩ := hc
    generalize ws2 = w4 at d4 f4 ⊢
    have O4 := f4.get (by decide) O3
    refine V_aload_n0 X dX12_image_54 ?_
    refine V_aload_n0 X dX12_image_55 ?_
    refine V_getf X dX12_image_56 fX12_72 (by assumption) (by rfl) ?_
    refine V_putf X dX12_image_59 fX12_61 (by assumption) (Nat.le_of_ble_eq_true rfl) rfl rfl ?_
    have O5 := gset (e2 := (MO n mm np rm sa nj tr sd pn hn (nI mm) (nI kp) (nI kh) hs)) O4
    refine V_aload_n0 X dX12_image_62 ?_
    refine V_aload_n0 X dX12_image_63 ?_
    refine V_getf X dX12_image_64 fX12_208 (by assumption) (by rfl) ?_
    refine V_putf X dX12_image_67 fX12_234 (by assumption) (Nat.le_of_ble_eq_true rfl) rfl rfl ?_
    have O6 := gset (e2 := (MO n mm np rm sa nj tr sd pn hn (nI mm) (nI pn) (nI kh) hs)) O5
    refine V_aload_n0 X dX12_image_70 ?_
    refine V_aload_n0 X dX12_image_71 ?_
    refine V_getf X dX12_image_72 fX12_214 (by assumption) (by rfl) ?_
    refine V_putf X dX12_image_75 fX12_237 (by assumption) (Nat.le_of_ble_eq_true rfl) rfl rfl ?_
    have O7 := gset (e2 := (MO n mm np rm sa nj tr sd pn hn (nI mm) (nI pn) (nI hn) hs)) O6
    refine V_eqW (ws2 := ((w4.set 29 (MO n mm np rm sa nj tr sd pn hn (nI mm) (nI kp) (nI kh) hs)).set 29 (MO n mm np rm sa nj tr sd pn hn (nI mm) (nI pn) (nI kh) hs)).set 29 (MO n mm np rm sa nj tr sd pn hn (nI mm) (nI pn) (nI hn) hs)) rfl ?_
    have f5 : fr [29] w4 (((w4.set 29 (MO n mm np rm sa nj tr sd pn hn (nI mm) (nI kp) (nI kh) hs)).set 29 (MO n mm np rm sa nj tr sd pn hn (nI mm) (nI pn) (nI kh) hs)).set 29 (MO n mm np rm sa nj tr sd pn hn (nI mm) (nI pn) (nI hn) hs)) := ((fr.rfl.set (by decide)).set (by decide)).set (by decide)
    generalize ((w4.set 29 (MO n mm np rm sa nj tr sd pn hn (nI mm) (nI kp) (nI kh) hs)).set 29 (MO n mm np rm sa nj tr sd pn hn (nI mm) (nI pn) (nI kh) hs)).set 29 (MO n mm np rm sa nj tr sd pn hn (nI mm) (nI pn) (nI hn) hs) = w5 at O7 f5 ⊢
    have hfb : fr [29, 43, 44, 45, 46] ws w5 := ((((f1.mono (ks2 := [29, 43, 44, 45, 46]) (by decide)).trans (f2.mono (by decide))).trans (f3.mono (by decide))).trans (f4.mono (by decide))).trans (f5.mono (by decide))
    have hkI : keptI mm = nI mm := if_neg e9
    refine V_aload_n0 X dX12_image_78 ?_
    refine V_getf X dX12_image_79 fX12_72 (by assumption) (by rfl) ?_
    refine V_iret X dX12_image_82 ⟨by rw [r_image, if_neg e9], ?_, hfb.mono (ks2 := ref18) (by decide)⟩
    rw [if_neg e9]
    exact ⟨⟨rm, sa, sd, hs, by rw [hkI]; exact O7⟩, hJ.fr hfb (by decide) (by decide) (by decide), ⟨h60, h10, hp6, hh6⟩, ⟨fl, hfb.get (by decide) l1, l2⟩, hpg.fr hfb (by decide), ⟨fp, hfb.get (by decide) p1, p2⟩, ⟨fu, hfb.get (by decide) u1, u2⟩, AI.cp (ws := ws) (k := 31) g2 (by omega) (f5.get (by decide) (f4.get (by decide) (f3.get (by decide) (f2.get (by decide) d1)))) x1, AI.cp (ws := ws) (k := 32) l2 (by omega) (f5.get (by decide) (f4.get (by decide) (f3.get (by decide) d2))) x2, AI.cp (ws := ws) (k := 39) p2 (by omega) (f5.get (by decide) (f4.get (by decide) d3)) x3, AI.cp (ws := ws) (k := 40) u2 (by omega) (f5.get (by decide) d4) x4, hscr.fr hfb (by decide) (by decide) (by decide) (by decide) (by decide) (by decide)⟩
  · have e9 := of_decide_eq_true (b_of1 h)
    refine V_bipushE X (-103) dX12_image_7 (by decide +kernel) ?_
    exact V_iret X dX12_image_9 ⟨by rw [r_image, if_pos e9], by rw [if_pos e9]; exact hM0, fr.rfl⟩
theorem kept61 : ∀ k, k < 61 → k ≠ 0 → nI k ≠ (-1) := by decide +kernel
set_option maxHeartbeats 1000000 in
theorem q_restore (l : Launch) (G : GX) (ad : Nat → Nat) (ws : List CE) (n : Nat) (K : Nat → Nat) (kg mm : Nat) (Ln : Nat → Nat) (np : Nat) (pg : Nat → Nat) (nj : Nat) (Js : Nat → JD) (pn : Nat) (Pe : Nat → Nat) (hn : Nat) (U : Nat → Nat) (tr kk km kp kh rd : Nat) (hM : RM ws n K kg mm Ln np pg nj Js pn Pe hn U tr kk km kp kh rd) (hK : OKs n K kg mm Ln np pg nj Js pn Pe hn U tr kk km kp kh rd) : Ct l G yX12_restore cX12_restore 1 (some .int) 1 0 0 ad ws [.ref 29] (pI ad (fun r ws2 => r = r_restore km ∧ (if km = 0 then RM ws2 n K kg mm Ln np pg nj Js pn Pe hn U tr kk km kp kh rd else RM ws2 n K kk km Ln np pg nj Js kp Pe kh U tr kk km kp kh rd) ∧ fr ref18 ws ws2)) := by
  refine Ct.of [some (.ref 29)] (by decide +kernel) (Nat.le_of_ble_eq_true rfl) rfl ?_
  intro p e s m args below meth c A X
  have hM0 := hM
  obtain ⟨⟨rm, sa, sd, hs, hO⟩, hJ, ⟨h60, h10, hp6, hh6⟩, hl, hpg, hPe, hU, hkk, hkl, hkp, hkh, hscr⟩ := hM
  obtain ⟨o1, o2, o3, o4, o5, o6, o7, o8, o9, o10, o11, o12, o13, o14⟩ := hK
  have h104 := pow_le4 o1
  have hkd := hJ.2.2.2.2.1
  have hkd5 := hJ.2.2.1
  have hkin := hJ.2.2.2.2.2.1
  refine V_aload_n0 X dX12_restore_0 ?_
  refine V_getf X dX12_restore_1 fX12_61 (by assumption) (by rfl) ?_
  refine V_iconstE X (-1) dX12_restore_4 (by decide +kernel) ?_
  refine V_icmp_ne X 11 dX12_restore_5 (by decide) (fun h => ?_) (fun h => ?_)
  · have e9 : ¬ km = 0 := fun q => h (by rw [keptI, if_pos q])
    have hkI : keptI km = nI km := if_neg e9
    rw [hkI] at hO
    obtain ⟨fg2, g3⟩ := hkin.ex
    obtain ⟨fl2, l3⟩ := hl.ex
    obtain ⟨fp2, p3⟩ := hPe.ex
    obtain ⟨fu2, u3⟩ := hU.ex
    obtain ⟨fg, g1, g2⟩ := hkk
    obtain ⟨fl, l1, l2⟩ := hkl
    obtain ⟨fp, p1, p2⟩ := hkp
    obtain ⟨fu, u1, u2⟩ := hkh
    refine V_aload_n0 X dX12_restore_11 ?_
    refine V_getf X dX12_restore_12 fX12_49 (by assumption) (by rfl) ?_
    refine V_aload_n0 X dX12_restore_15 ?_
    refine V_getf X dX12_restore_16 fX12_13 (by assumption) (by rfl) ?_
    refine V_cS2V X dX12_restore_19 kX12_230 (m_copy l G ad ws 43 31 4 fg fg2 (by decide) (by decide) g1 g3) (Nat.le_of_ble_eq_true rfl) ⟨⟨Nat.le_of_ble_eq_true rfl, Nat.le_of_ble_eq_true rfl⟩, Nat.le_of_ble_eq_true rfl, Nat.le_of_ble_eq_true rfl⟩ (fun ws2 hc => ?_)
    obtain ⟨⟨c1, d1, x1⟩, f1⟩ := hc
    generalize ws2 = w1 at d1 f1 ⊢
    have O1 := f1.get (by decide) hO
    refine V_aload_n0 X dX12_restore_22 ?_
    refine V_getf X dX12_restore_23 fX12_52 (by assumption) (by rfl) ?_
    refine V_aload_n0 X dX12_restore_26 ?_
    refine V_getf X dX12_restore_27 fX12_16 (by assumption) (by rfl) ?_
    refine V_cS2V X dX12_restore_30 kX12_230 (m_copy l G ad w1 44 32 60 fl fl2 (by decide) (by decide) (f1.get (by decide) l1) (f1.get (by decide) l3)) (Nat.le_of_ble_eq_true rfl) ⟨⟨Nat.le_of_ble_eq_true rfl, Nat.le_of_ble_eq_true rfl⟩, Nat.le_of_ble_eq_true rfl, Nat.le_of_ble_eq_true rfl⟩ (fun ws2 hc => ?_)
    obtain ⟨⟨c2, d2, x2⟩, f2⟩ := hc
    generalize ws2 = w2 at d2 f2 ⊢
    have O2 := f2.get (by decide) O1
    refine V_aload_n0 X dX12_restore_33 ?_
    refine V_getf X dX12_restore_34 fX12_55 (by assumption) (by rfl) ?_
    refine V_aload_n0 X dX12_restore_37 ?_
    refine V_getf X dX12_restore_38 fX12_37 (by assumption) (by rfl) ?_
    refine V_cS2V X dX12_restore_41 kX12_230 (m_copy l G ad w2 45 39 6 fp fp2 (by decide) (by decide) (f2.get (by decide) (f1.get (by decide) p1)) (f2.get (by decide) (f1.get (by decide) p3))) (Nat.le_of_ble_eq_true rfl) ⟨⟨Nat.le_of_ble_eq_true rfl, Nat.le_of_ble_eq_true rfl⟩, Nat.le_of_ble_eq_true rfl, Nat.le_of_ble_eq_true rfl⟩ (fun ws2 hc => ?_)
    obtain ⟨⟨c3, d3, x3⟩, f3⟩ := hc
    generalize ws2 = w3 at d3 f3 ⊢
    have O3 := f3.get (by decide) O2
    refine V_aload_n0 X dX12_restore_44 ?_
    refine V_getf X dX12_restore_45 fX12_58 (by assumption) (by rfl) ?_
    refine V_aload_n0 X dX12_restore_48 ?_
    refine V_getf X dX12_restore_49 fX12_40 (by assumption) (by rfl) ?_
    refine V_cS2V X dX12_restore_52 kX12_230 (m_copy l G ad w3 46 40 6 fu fu2 (by decide) (by decide) (f3.get (by decide) (f2.get (by decide) (f1.get (by decide) u1))) (f3.get (by decide) (f2.get (by decide) (f1.get (by decide) u3)))) (Nat.le_of_ble_eq_true rfl) ⟨⟨Nat.le_of_ble_eq_true rfl, Nat.le_of_ble_eq_true rfl⟩, Nat.le_of_ble_eq_true rfl, Nat.le_of_ble_eq_true rfl⟩ (fun ws2 hc => ?_)
    obtain ⟨⟨c4, d4, x4⟩, f4⟩ := hc
    generalize ws2 = w4 at d4 f4 ⊢
    have O4 := f4.get (by decide) O3
    refine V_aload_n0 X dX12_restore_55 ?_
    refine V_aload_n0 X dX12_restore_56 ?_
    refine V_getf X dX12_restore_57 fX12_61 (by assumption) (by rfl) ?_
    refine V_putf X dX12_restore_60 fX12_72 (by assumption) (Nat.le_of_ble_eq_true rfl) rfl rfl ?_
    have O5 := gset (e2 := (MO n km np rm sa nj tr sd pn hn (nI km) (nI kp) (nI kh) hs)) O4
    refine V_aload_n0 X dX12_restore_63 ?_
    refine V_aload_n0 X dX12_restore_64 ?_
    refine V_getf X dX12_restore_65 fX12_234 (by assumption) (by rfl) ?_
    refine V_putf X dX12_restore_68 fX12_208 (by assumption) (Nat.le_of_ble_eq_true rfl) rfl rfl ?_
    have O6 := gset (e2 := (MO n km np rm sa nj tr sd kp hn (nI km) (nI kp) (nI kh) hs)) O5
    refine V_aload_n0 X dX12_restore_71 ?_
    refine V_aload_n0 X dX12_restore_72 ?_
    refine V_getf X dX12_restore_73 fX12_237 (by assumption) (by rfl) ?_
    refine V_putf X dX12_restore_76 fX12_214 (by assumption) (Nat.le_of_ble_eq_true rfl) rfl rfl ?_
    have O7 := gset (e2 := (MO n km np rm sa nj tr sd kp kh (nI km) (nI kp) (nI kh) hs)) O6
    refine V_eqW (ws2 := ((w4.set 29 (MO n km np rm sa nj tr sd pn hn (nI km) (nI kp) (nI kh) hs)).set 29 (MO n km np rm sa nj tr sd kp hn (nI km) (nI kp) (nI kh) hs)).set 29 (MO n km np rm sa nj tr sd kp kh (nI km) (nI kp) (nI kh) hs)) rfl ?_
    have f5 : fr [29] w4 (((w4.set 29 (MO n km np rm sa nj tr sd pn hn (nI km) (nI kp) (nI kh) hs)).set 29 (MO n km np rm sa nj tr sd kp hn (nI km) (nI kp) (nI kh) hs)).set 29 (MO n km np rm sa nj tr sd kp kh (nI km) (nI kp) (nI kh) hs)) := ((fr.rfl.set (by decide)).set (by decide)).set (by decide)
    generalize ((w4.set 29 (MO n km np rm sa nj tr sd pn hn (nI km) (nI kp) (nI kh) hs)).set 29 (MO n km np rm sa nj tr sd kp hn (nI km) (nI kp) (nI kh) hs)).set 29 (MO n km np rm sa nj tr sd kp kh (nI km) (nI kp) (nI kh) hs) = w5 at O7 f5 ⊢
    have hfb : fr [29, 31, 32, 39, 40] ws w5 := ((((f1.mono (ks2 := [29, 31, 32, 39, 40]) (by decide)).trans (f2.mono (by decide))).trans (f3.mono (by decide))).trans (f4.mono (by decide))).trans (f5.mono (by decide))
    refine V_aload_n0 X dX12_restore_79 ?_
    refine V_getf X dX12_restore_80 fX12_72 (by assumption) (by rfl) ?_
    refine V_iret X dX12_restore_83 ⟨by rw [r_restore, if_neg e9], ?_, hfb.mono (ks2 := ref18) (by decide)⟩
    rw [if_neg e9]
    exact ⟨⟨rm, sa, sd, hs, by rw [hkI]; exact O7⟩, MJ_king hJ hfb (by decide) (AI.cp (ws := ws) (k := 31) g2 (by omega) (f5.get (by decide) (f4.get (by decide) (f3.get (by decide) (f2.get (by decide) d1)))) x1) (by decide), ⟨by omega, h10, by omega, by omega⟩, AI.cp (ws := ws) (k := 32) l2 (by omega) (f5.get (by decide) (f4.get (by decide) (f3.get (by decide) d2))) x2, hpg.fr hfb (by decide), AI.cp (ws := ws) (k := 39) p2 (by omega) (f5.get (by decide) (f4.get (by decide) d3)) x3, AI.cp (ws := ws) (k := 40) u2 (by omega) (f5.get (by decide) d4) x4, ⟨fg, hfb.get (by decide) g1, g2⟩, ⟨fl, hfb.get (by decide) l1, l2⟩, ⟨fp, hfb.get (by decide) p1, p2⟩, ⟨fu, hfb.get (by decide) u1, u2⟩, hscr.fr hfb (by decide) (by decide) (by decide) (by decide) (by decide) (by decide)⟩
  · have e9 : km = 0 := by
      rcases Nat.eq_zero_or_pos km with q | q
      · exact q
      · rw [keptI, if_neg (by omega)] at h
        exact absurd h (kept61 km (by omega) (by omega))
    refine V_bipushE X (-103) dX12_restore_8 (by decide +kernel) ?_
    exact V_iret X dX12_restore_10 ⟨by rw [r_restore, if_pos e9], by rw [if_pos e9]; exact hM0, fr.rfl⟩
def R_slips (n : Nat) (K : Nat → Nat) (mm kg nj : Nat) (Js : Nat → JD) (x z : Int32) : Int32 := if mm = 0 then (-103) else if inR (10 ^ n) x && inR (10 ^ n) z then bfsB n K nj Js kg (valI z) 10001 0 [(0, valI x)] else (-102)
theorem q_slips (l : Launch) (G : GX) (ad : Nat → Nat) (ws : List CE) (n : Nat) (K : Nat → Nat) (kg mm : Nat) (Ln : Nat → Nat) (np : Nat) (pg : Nat → Nat) (nj : Nat) (Js : Nat → JD) (pn : Nat) (Pe : Nat → Nat) (hn : Nat) (U : Nat → Nat) (tr kk km kp kh rd : Nat) (hM : RM ws n K kg mm Ln np pg nj Js pn Pe hn U tr kk km kp kh rd) (hK : OKs n K kg mm Ln np pg nj Js pn Pe hn U tr kk km kp kh rd) (x z : Int32) : Ct l G yX12_slips cX12_slips 3 (some .int) 9 0 0 ad ws [.ref 29, .int x, .int z] (pI ad (fun r ws2 => r = R_slips n K mm kg nj Js x z ∧ RM ws2 n K kg mm Ln np pg nj Js pn Pe hn U tr kk km kp kh rd ∧ fr ref18 ws ws2)) := by
  refine Ct.of [some (.ref 29), some (.int x), some (.int z)] (by decide +kernel) (Nat.le_of_ble_eq_true rfl) rfl ?_
  intro p e s m args below meth c A X
  have hM0 := hM
  obtain ⟨⟨rm, sa, sd, hs, hO⟩, hJ, ⟨h60, h10, hp6, hh6⟩, hl, hpg, hPe, hU, hkk, hkl, hkp, hkh, hscr⟩ := hM
  obtain ⟨o1, o2, o3, o4, o5, o6, o7, o8, o9, o10, o11, o12, o13, o14⟩ := hK
  have h104 := pow_le4 o1
  have hkd := hJ.2.2.2.2.1
  have hkd5 := hJ.2.2.1
  have hkin := hJ.2.2.2.2.2.1
  obtain ⟨fs0, hs0⟩ := hscr.2.2.1
  obtain ⟨fq0, hq0⟩ := hscr.2.2.2.1
  refine V_aload_n0 X dX12_slips_0 ?_
  refine V_cV0I X dX12_slips_1 kX12_79 (m_lacks l G ad ws hO h60) (by assumption) (by rfl) (Nat.le_of_ble_eq_true rfl) ⟨⟨Nat.le_of_ble_eq_true rfl, Nat.le_of_ble_eq_true rfl⟩, Nat.le_of_ble_eq_true rfl, Nat.le_of_ble_eq_true rfl⟩ (fun r ws2 hc => ?_)
  obtain ⟨rfl, hw9⟩ := hc
  obtain rfl := hw9.symm
  refine V_if_eq X 10 dX12_slips_4 (by decide) (fun h => ?_) (fun h => ?_)
  · have e9 := of_decide_eq_false (b_of0 h)
    refine V_aload_n0 X dX12_slips_10 ?_
    refine V_iload_n1 X dX12_slips_11 ?_
    refine V_cV1I X dX12_slips_12 kX12_118 (m_isPortrait l G ad ws hO o1 x) (by assumption) (by rfl) (Nat.le_of_ble_eq_true rfl) ⟨⟨Nat.le_of_ble_eq_true rfl, Nat.le_of_ble_eq_true rfl⟩, Nat.le_of_ble_eq_true rfl, Nat.le_of_ble_eq_true rfl⟩ (fun r ws2 hc => ?_)
    obtain ⟨rfl, hw9⟩ := hc
    obtain rfl := hw9.symm
    refine V_if_eq X 35 dX12_slips_15 (by decide) (fun h2 => ?_) (fun h2 => ?_)
    · have e8 := b_of0 h2
      refine V_bipushE X (-102) dX12_slips_35 (by decide +kernel) ?_
      exact V_iret X dX12_slips_37 ⟨by simp [R_slips, e9, e8], hM0, fr.rfl⟩
    · have e8 := b_of1 h2
      refine V_aload_n0 X dX12_slips_18 ?_
      refine V_iload_n2 X dX12_slips_19 ?_
      refine V_cV1I X dX12_slips_20 kX12_118 (m_isPortrait l G ad ws hO o1 z) (by assumption) (by rfl) (Nat.le_of_ble_eq_true rfl) ⟨⟨Nat.le_of_ble_eq_true rfl, Nat.le_of_ble_eq_true rfl⟩, Nat.le_of_ble_eq_true rfl, Nat.le_of_ble_eq_true rfl⟩ (fun r ws2 hc => ?_)
      obtain ⟨rfl, hw9⟩ := hc
      obtain rfl := hw9.symm
      refine V_if_eq X 35 dX12_slips_23 (by decide) (fun h3 => ?_) (fun h3 => ?_)
      · have e7 := b_of0 h3
        refine V_bipushE X (-102) dX12_slips_35 (by decide +kernel) ?_
        exact V_iret X dX12_slips_37 ⟨by simp [R_slips, e9, e7], hM0, fr.rfl⟩
      · have e7 := b_of1 h3
        obtain ⟨a, ha, rfl⟩ := inR_of (by omega) e8
        obtain ⟨b, hb, rfl⟩ := inR_of (by omega) e7
        refine V_aload_n0 X dX12_slips_26 ?_
        refine V_iload_n1 X dX12_slips_27 ?_
        refine V_iload_n2 X dX12_slips_28 ?_
        refine V_cV2I X dX12_slips_29 kX12_173 (m_slipsOf l G ad ws hO K kg Js hJ fs0 fq0 hs0 hq0 a b ha hb) (by assumption) (by rfl) (Nat.le_of_ble_eq_true rfl) ⟨⟨Nat.le_of_ble_eq_true rfl, Nat.le_of_ble_eq_true rfl⟩, Nat.le_of_ble_eq_true rfl, Nat.le_of_ble_eq_true rfl⟩ (fun r ws2 hc => ?_)
        obtain ⟨hr, ⟨fs1, fq1, hs1, hq1⟩, hfb⟩ := hc
        refine V_goto X 37 dX12_slips_32 (by decide) ?_
        exact V_iret X dX12_slips_37 ⟨by rw [hr, R_slips, if_neg e9, e8, e7, if_pos (by rfl), valI_nI (by omega), valI_nI (by omega)], ⟨⟨rm, sa, sd, hs, hfb.get (by decide) hO⟩, hJ.fr hfb (by decide) (by decide) (by decide), ⟨h60, h10, hp6, hh6⟩, hl.fr hfb (by decide), hpg.fr hfb (by decide), hPe.fr hfb (by decide), hU.fr hfb (by decide), hkk.fr hfb (by decide), hkl.fr hfb (by decide), hkp.fr hfb (by decide), hkh.fr hfb (by decide), scr_gen hscr hfb (Or.inl (by decide)) (Or.inl (by decide)) (Or.inr ⟨fs1, hs1⟩) (Or.inr ⟨fq1, hq1⟩) (Or.inl (by decide)) (Or.inl (by decide))⟩, hfb.mono (ks2 := ref18) (by decide)⟩
  · have e9 := of_decide_eq_true (b_of1 h)
    refine V_bipushE X (-103) dX12_slips_7 (by decide +kernel) ?_
    exact V_iret X dX12_slips_9 ⟨by simp [R_slips, e9], hM0, fr.rfl⟩
theorem inL_ord (x : Int32) {lo hi : Int64} (h1 : lo.toInt = 10) (h2 : hi.toInt = 15) : inL x.toInt64 lo hi = (decide (¬ x < nI 10) && decide (x < nI 16)) := by
  rw [inL_int, Int32.toInt_toInt64, h1, h2, Bool.eq_iff_iff]
  simp only [Bool.and_eq_true, decide_eq_true_eq, Int32.lt_iff_toInt_lt, nI_toInt (show 10 < 2 ^ 31 by decide), nI_toInt (show 16 < 2 ^ 31 by decide)]
  constructor <;> intro h <;> omega
def R_order (n : Nat) (K : Nat → Nat) (mm hn : Nat) (U : Nat → Nat) (x : Int32) : Int32 := if mm = 0 then (-103) else if decide (x = 0) || (decide (¬ x < nI 10) && decide (x < nI 16)) then tellO n K hn U (valI x) else (-102)
theorem q_order (l : Launch) (G : GX) (ad : Nat → Nat) (ws : List CE) (n : Nat) (K : Nat → Nat) (kg mm : Nat) (Ln : Nat → Nat) (np : Nat) (pg : Nat → Nat) (nj : Nat) (Js : Nat → JD) (pn : Nat) (Pe : Nat → Nat) (hn : Nat) (U : Nat → Nat) (tr kk km kp kh rd : Nat) (hM : RM ws n K kg mm Ln np pg nj Js pn Pe hn U tr kk km kp kh rd) (hK : OKs n K kg mm Ln np pg nj Js pn Pe hn U tr kk km kp kh rd) (x : Int32) : Ct l G yX12_order cX12_order 2 (some .int) 6 0 0 ad ws [.ref 29, .int x] (pI ad (fun r ws2 => r = R_order n K mm hn U x ∧ RM ws2 n K kg mm Ln np pg nj Js pn Pe hn U tr kk km kp kh rd ∧ fr ref18 ws ws2)) := by
  refine Ct.of [some (.ref 29), some (.int x)] (by decide +kernel) (Nat.le_of_ble_eq_true rfl) rfl ?_
  intro p e s m args below meth c A X
  have hM0 := hM
  obtain ⟨⟨rm, sa, sd, hs, hO⟩, hJ, ⟨h60, h10, hp6, hh6⟩, hl, hpg, hPe, hU, hkk, hkl, hkp, hkh, hscr⟩ := hM
  obtain ⟨o1, o2, o3, o4, o5, o6, o7, o8, o9, o10, o11, o12, o13, o14⟩ := hK
  have h104 := pow_le4 o1
  have hkd := hJ.2.2.2.2.1
  have hkd5 := hJ.2.2.1
  have hkin := hJ.2.2.2.2.2.1
  obtain ⟨fr0, hr0⟩ := hscr.2.2.2.2.1
  obtain ⟨fb0, hb0⟩ := hscr.2.2.2.2.2
  refine V_aload_n0 X dX12_order_0 ?_
  refine V_cV0I X dX12_order_1 kX12_79 (m_lacks l G ad ws hO h60) (by assumption) (by rfl) (Nat.le_of_ble_eq_true rfl) ⟨⟨Nat.le_of_ble_eq_true rfl, Nat.le_of_ble_eq_true rfl⟩, Nat.le_of_ble_eq_true rfl, Nat.le_of_ble_eq_true rfl⟩ (fun r ws2 hc => ?_)
  obtain ⟨rfl, hw9⟩ := hc
  obtain rfl := hw9.symm
  refine V_if_eq X 10 dX12_order_4 (by decide) (fun h => ?_) (fun h => ?_)
  · have e9 := of_decide_eq_false (b_of0 h)
    have yes : ∀ t : Nat, x = nI t → (t = 0 ∨ (10 ≤ t ∧ t < 16)) → (decide (x = 0) || (decide (¬ x < nI 10) && decide (x < nI 16))) = true → V p l e (rmm 6 0 0) s m args below meth c 0 0 (MQ below (QQ G A (pI ad (fun r ws2 => r = R_order n K mm hn U x ∧ RM ws2 n K kg mm Ln np pg nj Js pn Pe hn U tr kk km kp kh rd ∧ fr ref18 ws ws2))) args s 0 0 A) G A 2 ad ws 28 [some (.ref 29), some (.int x)] [] := by
      intro t hx ht hcd
      rw [hx]
      refine V_aload_n0 X dX12_order_28 ?_
      refine V_iload_n1 X dX12_order_29 ?_
      refine V_cV1I X dX12_order_30 kX12_227 (m_tellOrder l G ad ws hO o1 K hkd hkd5 hh6 U hU (fun i hi => by have := o6 i hi; omega) fr0 fb0 hr0 hb0 t ht) (by assumption) (by rfl) (Nat.le_of_ble_eq_true rfl) ⟨⟨Nat.le_of_ble_eq_true rfl, Nat.le_of_ble_eq_true rfl⟩, Nat.le_of_ble_eq_true rfl, Nat.le_of_ble_eq_true rfl⟩ (fun r ws2 hc => ?_)
      obtain ⟨hr, ⟨fa, ha⟩, ⟨fb, hb⟩, hfb⟩ := hc
      refine V_goto X 38 dX12_order_33 (by decide) ?_
      exact V_iret X dX12_order_38 ⟨by rw [hr, ← hx, R_order, if_neg e9, if_pos hcd, hx, valI_nI (by omega)], ⟨⟨rm, sa, sd, hs, hfb.get (by decide) hO⟩, hJ.fr hfb (by decide) (by decide) (by decide), ⟨h60, h10, hp6, hh6⟩, hl.fr hfb (by decide), hpg.fr hfb (by decide), hPe.fr hfb (by decide), hU.fr hfb (by decide), hkk.fr hfb (by decide), hkl.fr hfb (by decide), hkp.fr hfb (by decide), hkh.fr hfb (by decide), scr_gen hscr hfb (Or.inl (by decide)) (Or.inl (by decide)) (Or.inl (by decide)) (Or.inl (by decide)) (Or.inr ⟨fa, ha⟩) (Or.inr ⟨fb, hb⟩)⟩, hfb.mono (ks2 := ref18) (by decide)⟩
    refine V_iload_n1 X dX12_order_10 ?_
    refine V_if_eq X 28 dX12_order_11 (by decide) (fun h2 => ?_) (fun h2 => ?_)
    · exact yes 0 (h2.trans nI_0.symm) (Or.inl rfl) (by rw [decide_eq_true h2]; rfl)
    · refine V_iload_n1 X dX12_order_14 ?_
      refine V_i2l X dX12_order_15 ?_
      refine V_ldc2 X dX12_order_16 w_1114 ?_
      refine V_ldc2 X dX12_order_19 w_1115 ?_
      refine V_cS3I X dX12_order_22 kX12_68 (m_in l G ad ws _ _ _) (Nat.le_of_ble_eq_true rfl) ⟨⟨Nat.le_of_ble_eq_true rfl, Nat.le_of_ble_eq_true rfl⟩, Nat.le_of_ble_eq_true rfl, Nat.le_of_ble_eq_true rfl⟩ (fun r ws2 hc => ?_)
      obtain ⟨rfl, hw9⟩ := hc
      obtain rfl := hw9.symm
      rw [inL_ord x (by decide +kernel) (by decide +kernel)]
      refine V_if_eq X 36 dX12_order_25 (by decide) (fun h3 => ?_) (fun h3 => ?_)
      · have e8 := b_of0 h3
        refine V_bipushE X (-102) dX12_order_36 (by decide +kernel) ?_
        exact V_iret X dX12_order_38 ⟨by rw [R_order, if_neg e9, decide_eq_false h2, e8]; rfl, hM0, fr.rfl⟩
      · have e8 := b_of1 h3
        have e7 : inR 16 x = true := by
          rw [inR_int (by decide)]
          simp only [Bool.and_eq_true, decide_eq_true_eq, Int32.lt_iff_toInt_lt, nI_toInt (show 10 < 2 ^ 31 by decide), nI_toInt (show 16 < 2 ^ 31 by decide)] at e8
          exact decide_eq_true (by omega)
        obtain ⟨t, ht, hx⟩ := inR_of (by decide) e7
        refine yes t hx (Or.inr ⟨?_, ht⟩) (by rw [e8, Bool.or_true])
        have := of_decide_eq_true (Bool.and_eq_true _ _ ▸ e8).1
        rw [hx] at this
        exact c_nlt this
  · have e9 := of_decide_eq_true (b_of1 h)
    refine V_bipushE X (-103) dX12_order_7 (by decide +kernel) ?_
    exact V_iret X dX12_order_9 ⟨by simp [R_order, e9], hM0, fr.rfl⟩
