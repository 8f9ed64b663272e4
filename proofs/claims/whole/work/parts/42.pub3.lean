/-! image, restore, letters, judge, truth, copies, count -/
def r_image (mm : Nat) : Int32 := if mm = 0 then (-103) else nI mm
theorem p_image (l : Launch) (G : GX) (ad : Nat → Nat) (ws : List CE) (n : Nat) (K : Nat → Nat) (kg mm : Nat) (Ln : Nat → Nat) (np : Nat) (pg : Nat → Nat) (nj : Nat) (Js : Nat → JD) (pn : Nat) (Pe : Nat → Nat) (hn : Nat) (U : Nat → Nat) (tr kk km kp kh rd : Nat) (hC : RC ws n K kg mm Ln np pg nj Js pn Pe hn U tr kk km kp kh rd) (hkP : ad kP = G.2.2.2) : Ct l G yX11_image cX11_image 1 (some .int) 2 0 0 ad ws [.ref 0] (pI ad (fun r ws2 => r = r_image mm ∧ (if mm = 0 then RC ws2 n K kg mm Ln np pg nj Js pn Pe hn U tr kk km kp kh rd else RC ws2 n K kg mm Ln np pg nj Js pn Pe hn U tr kg mm pn hn rd) ∧ fr own9 ws ws2)) := by
  refine Ct.of [some (.ref 0)] (by decide +kernel) (Nat.le_of_ble_eq_true rfl) rfl ?_
  intro p e s m args below meth c A X
  have hO := hC.obj
  have hC0 := hC
  obtain ⟨z0, hL, hM, hB, hCe, hSe, hSo, hRg, hRl, hRp, hRh, o1, o2, o3, o4, o5, o6, o7, o8, o9, o10, o11, o12, o13, o14⟩ := hC
  have hRl0 := hRl
  have hRp0 := hRp
  have hRh0 := hRh
  obtain ⟨fl, hl1, hl2⟩ := hRl
  obtain ⟨fp, hp1, hp2⟩ := hRp
  obtain ⟨fh, hh1, hh2⟩ := hRh
  refine V_aload_n0 X dX11_image_0 ?_
  refine V_cV0I X dX11_image_1 kX11_89 (t_hasLine l G ad ws kg mm Ln hO hRl0) (by assumption) (by rfl) (Nat.le_of_ble_eq_true rfl) ⟨⟨Nat.le_of_ble_eq_true rfl, Nat.le_of_ble_eq_true rfl⟩, Nat.le_of_ble_eq_true rfl, Nat.le_of_ble_eq_true rfl⟩ (fun r ws2 hc => ?_)
  obtain ⟨rfl, hw9⟩ := hc
  obtain rfl := hw9.symm
  refine V_if_ne X 10 dX11_image_4 (by decide) (fun h => ?_) (fun h => ?_)
  · have e9 : 0 < mm := of_decide_eq_true (b_of1 h)
    refine V_aload_n0 X dX11_image_10 ?_
    refine V_aload_n0 X dX11_image_11 ?_
    refine V_getf X dX11_image_12 fX11_66 (by assumption) (by rfl) ?_
    refine V_putf X dX11_image_15 fX11_73 (by assumption) (Nat.le_of_ble_eq_true rfl) rfl rfl ?_
    refine V_eqW (ws2 := ws.set 0 (CObj kg tr kg km kp kh)) rfl ?_
    have hf1 : fr [0] ws (ws.set 0 (CObj kg tr kg km kp kh)) := fr.rfl.set (by decide)
    have y0 := gset (e2 := CObj kg tr kg km kp kh) z0
    generalize ws.set 0 (CObj kg tr kg km kp kh) = wa at hf1 y0 ⊢
    have hla := hl1.fr hf1 (by decide) (by decide)
    have y23 := hla.1
    refine V_aload_n0 X dX11_image_18 ?_
    refine V_aload_n0 X dX11_image_19 ?_
    refine V_getf X dX11_image_20 fX11_57 (by assumption) (by rfl) ?_
    refine V_cV0I X dX11_image_23 kX11_154 (t_Rsize l G ad wa 23 24 60 mm fl hla) (by assumption) (by rfl) (Nat.le_of_ble_eq_true rfl) ⟨⟨Nat.le_of_ble_eq_true rfl, Nat.le_of_ble_eq_true rfl⟩, Nat.le_of_ble_eq_true rfl, Nat.le_of_ble_eq_true rfl⟩ (fun r ws2 hc => ?_)
    obtain ⟨rfl, hw9⟩ := hc
    obtain rfl := hw9.symm
    refine V_putf X dX11_image_26 fX11_76 (by assumption) (Nat.le_of_ble_eq_true rfl) rfl rfl ?_
    refine V_eqW (ws2 := wa.set 0 (CObj kg tr kg mm kp kh)) rfl ?_
    have hf2 : fr [0] ws (wa.set 0 (CObj kg tr kg mm kp kh)) := hf1.set (by decide)
    have x0 := gset (e2 := CObj kg tr kg mm kp kh) y0
    generalize wa.set 0 (CObj kg tr kg mm kp kh) = wb at hf2 x0 ⊢
    have hpb := hp1.fr hf2 (by decide) (by decide)
    have x25 := hpb.1
    refine V_aload_n0 X dX11_image_29 ?_
    refine V_aload_n0 X dX11_image_30 ?_
    refine V_getf X dX11_image_31 fX11_60 (by assumption) (by rfl) ?_
    refine V_cV0I X dX11_image_34 kX11_154 (t_Rsize l G ad wb 25 26 6 pn fp hpb) (by assumption) (by rfl) (Nat.le_of_ble_eq_true rfl) ⟨⟨Nat.le_of_ble_eq_true rfl, Nat.le_of_ble_eq_true rfl⟩, Nat.le_of_ble_eq_true rfl, Nat.le_of_ble_eq_true rfl⟩ (fun r ws2 hc => ?_)
    obtain ⟨rfl, hw9⟩ := hc
    obtain rfl := hw9.symm
    refine V_putf X dX11_image_37 fX11_79 (by assumption) (Nat.le_of_ble_eq_true rfl) rfl rfl ?_
    refine V_eqW (ws2 := wb.set 0 (CObj kg tr kg mm pn kh)) rfl ?_
    have hf3 : fr [0] ws (wb.set 0 (CObj kg tr kg mm pn kh)) := hf2.set (by decide)
    have v0 := gset (e2 := CObj kg tr kg mm pn kh) x0
    generalize wb.set 0 (CObj kg tr kg mm pn kh) = wc at hf3 v0 ⊢
    have hhc := hh1.fr hf3 (by decide) (by decide)
    have v27 := hhc.1
    refine V_aload_n0 X dX11_image_40 ?_
    refine V_aload_n0 X dX11_image_41 ?_
    refine V_getf X dX11_image_42 fX11_63 (by assumption) (by rfl) ?_
    refine V_cV0I X dX11_image_45 kX11_154 (t_Rsize l G ad wc 27 28 6 hn fh hhc) (by assumption) (by rfl) (Nat.le_of_ble_eq_true rfl) ⟨⟨Nat.le_of_ble_eq_true rfl, Nat.le_of_ble_eq_true rfl⟩, Nat.le_of_ble_eq_true rfl, Nat.le_of_ble_eq_true rfl⟩ (fun r ws2 hc => ?_)
    obtain ⟨rfl, hw9⟩ := hc
    obtain rfl := hw9.symm
    refine V_putf X dX11_image_48 fX11_82 (by assumption) (Nat.le_of_ble_eq_true rfl) rfl rfl ?_
    refine V_eqW (ws2 := wc.set 0 (CObj kg tr kg mm pn hn)) rfl ?_
    have hf4 : fr [0] ws (wc.set 0 (CObj kg tr kg mm pn hn)) := hf3.set (by decide)
    have u0 := gset (e2 := CObj kg tr kg mm pn hn) v0
    generalize wc.set 0 (CObj kg tr kg mm pn hn) = wd at hf4 u0 ⊢
    refine V_aload_n0 X dX11_image_51 ?_
    refine V_getf X dX11_image_52 fX11_76 (by assumption) (by rfl) ?_
    refine V_iret X dX11_image_55 ⟨by rw [r_image, if_neg (by omega)], ?_, hf4.mono (by decide)⟩
    rw [if_neg (by omega)]
    exact hC0.own hf4 (by decide) u0 (hRg.fr hf4 (by decide) (by decide)) (hRl0.fr hf4 (by decide) (by decide)) (hRp0.fr hf4 (by decide) (by decide)) (hRh0.fr hf4 (by decide) (by decide)) ⟨o1, o2, o3, o4, o5, o6, o7, fun q => absurd q (by omega), o2, Nat.le_refl _, Nat.le_refl _, Nat.le_refl _, o13, o14⟩
  · have e9 : mm = 0 := by have := of_decide_eq_false (b_of0 h); omega
    refine V_bipushE X (-103) dX11_image_7 (by decide +kernel) ?_
    exact V_iret X dX11_image_9 ⟨by rw [r_image, if_pos e9], by rw [if_pos e9]; exact hC0, fr.rfl⟩
def r_restore (km : Nat) : Int32 := if km = 0 then (-103) else nI km
theorem p_restore (l : Launch) (G : GX) (ad : Nat → Nat) (ws : List CE) (n : Nat) (K : Nat → Nat) (kg mm : Nat) (Ln : Nat → Nat) (np : Nat) (pg : Nat → Nat) (nj : Nat) (Js : Nat → JD) (pn : Nat) (Pe : Nat → Nat) (hn : Nat) (U : Nat → Nat) (tr kk km kp kh rd : Nat) (hC : RC ws n K kg mm Ln np pg nj Js pn Pe hn U tr kk km kp kh rd) (hkP : ad kP = G.2.2.2) : Ct l G yX11_restore cX11_restore 1 (some .int) 1 0 0 ad ws [.ref 0] (pI ad (fun r ws2 => r = r_restore km ∧ (if km = 0 then RC ws2 n K kg mm Ln np pg nj Js pn Pe hn U tr kk km kp kh rd else RC ws2 n K kk km Ln np pg nj Js kp Pe kh U tr kk km kp kh rd) ∧ fr own9 ws ws2)) := by
  refine Ct.of [some (.ref 0)] (by decide +kernel) (Nat.le_of_ble_eq_true rfl) rfl ?_
  intro p e s m args below meth c A X
  have hC0 := hC
  obtain ⟨z0, hL, hM, hB, hCe, hSe, hSo, hRg, hRl, hRp, hRh, o1, o2, o3, o4, o5, o6, o7, o8, o9, o10, o11, o12, o13, o14⟩ := hC
  have hm60 : mm ≤ 60 := by obtain ⟨f, a, _⟩ := hRl; exact a.2.2.1
  have hRl0 := hRl
  have hRp0 := hRp
  have hRh0 := hRh
  obtain ⟨fl, hl1, hl2⟩ := hRl
  obtain ⟨fp, hp1, hp2⟩ := hRp
  obtain ⟨fh, hh1, hh2⟩ := hRh
  refine V_aload_n0 X dX11_restore_0 ?_
  refine V_getf X dX11_restore_1 fX11_76 (by assumption) (by rfl) ?_
  refine V_if_ne X 10 dX11_restore_4 (by decide) (fun h => ?_) (fun h => ?_)
  · have e9 : ¬ km = 0 := fun q => h (by rw [q]; rfl)
    refine V_aload_n0 X dX11_restore_10 ?_
    refine V_aload_n0 X dX11_restore_11 ?_
    refine V_getf X dX11_restore_12 fX11_73 (by assumption) (by rfl) ?_
    refine V_putf X dX11_restore_15 fX11_66 (by assumption) (Nat.le_of_ble_eq_true rfl) rfl rfl ?_
    refine V_eqW (ws2 := ws.set 0 (CObj kk tr kk km kp kh)) rfl ?_
    have hf1 : fr [0] ws (ws.set 0 (CObj kk tr kk km kp kh)) := fr.rfl.set (by decide)
    have y0 := gset (e2 := CObj kk tr kk km kp kh) z0
    generalize ws.set 0 (CObj kk tr kk km kp kh) = wa at hf1 y0 ⊢
    have hla := hl1.fr hf1 (by decide) (by decide)
    have y23 := hla.1
    refine V_aload_n0 X dX11_restore_18 ?_
    refine V_getf X dX11_restore_19 fX11_57 (by assumption) (by rfl) ?_
    refine V_aload_n0 X dX11_restore_22 ?_
    refine V_getf X dX11_restore_23 fX11_76 (by assumption) (by rfl) ?_
    refine V_cV1V X dX11_restore_26 kX11_159 (t_Rcut l G ad wa 23 24 60 mm fl hla km o10) (by assumption) (by rfl) (Nat.le_of_ble_eq_true rfl) ⟨⟨Nat.le_of_ble_eq_true rfl, Nat.le_of_ble_eq_true rfl⟩, Nat.le_of_ble_eq_true rfl, Nat.le_of_ble_eq_true rfl⟩ (fun ws2 hc => ?_)
    obtain rfl := hc.symm
    have hR2 := (hRl0.fr hf1 (by decide) (by decide)).cut (j := km) o10
    have hf2 : fr own9 ws (wa.set 23 (oB 7 [.ref 24, .int (nI km)])) := (hf1.mono (by decide)).set (by decide)
    have hg2 : fr [23] wa (wa.set 23 (oB 7 [.ref 24, .int (nI km)])) := fr.rfl.set (by decide)
    have x0 := hg2.get (by decide) y0
    have hp2' := (hp1.fr hf1 (by decide) (by decide)).fr hg2 (by decide) (by decide)
    have hP2 := (hRp0.fr hf1 (by decide) (by decide)).fr hg2 (by decide) (by decide)
    have hh2' := (hh1.fr hf1 (by decide) (by decide)).fr hg2 (by decide) (by decide)
    have hH2 := (hRh0.fr hf1 (by decide) (by decide)).fr hg2 (by decide) (by decide)
    have hG2 := (hRg.fr hf1 (by decide) (by decide)).fr hg2 (by decide) (by decide)
    generalize wa.set 23 (oB 7 [.ref 24, .int (nI km)]) = wb at hR2 hf2 x0 hp2' hP2 hh2' hH2 hG2 ⊢
    have x25 := hp2'.1
    refine V_aload_n0 X dX11_restore_29 ?_
    refine V_getf X dX11_restore_30 fX11_60 (by assumption) (by rfl) ?_
    refine V_aload_n0 X dX11_restore_33 ?_
    refine V_getf X dX11_restore_34 fX11_79 (by assumption) (by rfl) ?_
    refine V_cV1V X dX11_restore_37 kX11_159 (t_Rcut l G ad wb 25 26 6 pn fp hp2' kp o11) (by assumption) (by rfl) (Nat.le_of_ble_eq_true rfl) ⟨⟨Nat.le_of_ble_eq_true rfl, Nat.le_of_ble_eq_true rfl⟩, Nat.le_of_ble_eq_true rfl, Nat.le_of_ble_eq_true rfl⟩ (fun ws2 hc => ?_)
    obtain rfl := hc.symm
    have hP3 := hP2.cut (j := kp) o11
    have hf3 : fr own9 ws (wb.set 25 (oB 7 [.ref 26, .int (nI kp)])) := hf2.set (by decide)
    have hg3 : fr [25] wb (wb.set 25 (oB 7 [.ref 26, .int (nI kp)])) := fr.rfl.set (by decide)
    have v0 := hg3.get (by decide) x0
    have hR3 := hR2.fr hg3 (by decide) (by decide)
    have hh3 := hh2'.fr hg3 (by decide) (by decide)
    have hH3 := hH2.fr hg3 (by decide) (by decide)
    have hG3 := hG2.fr hg3 (by decide) (by decide)
    generalize wb.set 25 (oB 7 [.ref 26, .int (nI kp)]) = wc at hP3 hf3 v0 hR3 hh3 hH3 hG3 ⊢
    have v27 := hh3.1
    refine V_aload_n0 X dX11_restore_40 ?_
    refine V_getf X dX11_restore_41 fX11_63 (by assumption) (by rfl) ?_
    refine V_aload_n0 X dX11_restore_44 ?_
    refine V_getf X dX11_restore_45 fX11_82 (by assumption) (by rfl) ?_
    refine V_cV1V X dX11_restore_48 kX11_159 (t_Rcut l G ad wc 27 28 6 hn fh hh3 kh o12) (by assumption) (by rfl) (Nat.le_of_ble_eq_true rfl) ⟨⟨Nat.le_of_ble_eq_true rfl, Nat.le_of_ble_eq_true rfl⟩, Nat.le_of_ble_eq_true rfl, Nat.le_of_ble_eq_true rfl⟩ (fun ws2 hc => ?_)
    obtain rfl := hc.symm
    have hH4 := hH3.cut (j := kh) o12
    have hf4 : fr own9 ws (wc.set 27 (oB 7 [.ref 28, .int (nI kh)])) := hf3.set (by decide)
    have hg4 : fr [27] wc (wc.set 27 (oB 7 [.ref 28, .int (nI kh)])) := fr.rfl.set (by decide)
    have u0 := hg4.get (by decide) v0
    have hR4 := hR3.fr hg4 (by decide) (by decide)
    have hP4 := hP3.fr hg4 (by decide) (by decide)
    have hG4 := hG3.fr hg4 (by decide) (by decide)
    generalize wc.set 27 (oB 7 [.ref 28, .int (nI kh)]) = wd at hH4 hf4 u0 hR4 hP4 hG4 ⊢
    refine V_aload_n0 X dX11_restore_51 ?_
    refine V_getf X dX11_restore_52 fX11_76 (by assumption) (by rfl) ?_
    refine V_iret X dX11_restore_55 ⟨by rw [r_restore, if_neg e9], ?_, hf4⟩
    rw [if_neg e9]
    exact hC0.own hf4 (by decide) u0 hG4 hR4 hP4 hH4 ⟨o1, o9, fun i hi => o3 i (by omega), o4, fun i hi => o5 i (by omega), fun i hi => o6 i (by omega), fun _ => o7 (by omega), fun q => absurd q e9, o9, Nat.le_refl _, Nat.le_refl _, Nat.le_refl _, o13, o14⟩
  · have e9 : km = 0 := (nI_eq (a := km) (b := 0) (by omega) (by omega)).mp h
    refine V_bipushE X (-103) dX11_restore_7 (by decide +kernel) ?_
    exact V_iret X dX11_restore_9 ⟨by rw [r_restore, if_pos e9], by rw [if_pos e9]; exact hC0, fr.rfl⟩
def addL (pg : Nat → Nat) (np W k : Nat) : Nat → Nat := fun i => if np ≤ i ∧ i < np + k then letN W (i - np) else pg i
def r_letters (np W : Nat) : Int32 := match letTo (letN W) 8 with
  | none => (-102)
  | some q => if np + q ≤ 10 then nI (np + q) else (-104)
theorem addL_step (pg : Nat → Nat) (np W k : Nat) : updN (addL pg np W k) (np + k) (letN W k) = addL pg np W (k + 1) := by
  funext i
  unfold updN addL
  by_cases h : i = np + k
  · subst h; rw [if_pos rfl, if_pos ⟨by omega, by omega⟩, Nat.add_sub_cancel_left]
  · rw [if_neg h]
    by_cases h2 : np ≤ i ∧ i < np + k
    · rw [if_pos h2, if_pos ⟨h2.1, by omega⟩]
    · rw [if_neg h2, if_neg (fun q => by omega)]
theorem addL_0 (pg : Nat → Nat) (np W : Nat) : addL pg np W 0 = pg := by
  funext i
  unfold addL
  rw [if_neg (fun q => by omega)]
set_option maxHeartbeats 1000000 in
theorem p_letters (l : Launch) (G : GX) (ad : Nat → Nat) (ws : List CE) (n : Nat) (K : Nat → Nat) (kg mm : Nat) (Ln : Nat → Nat) (np : Nat) (pg : Nat → Nat) (nj : Nat) (Js : Nat → JD) (pn : Nat) (Pe : Nat → Nat) (hn : Nat) (U : Nat → Nat) (tr kk km kp kh rd : Nat) (hC : RC ws n K kg mm Ln np pg nj Js pn Pe hn U tr kk km kp kh rd) (hkP : ad kP = G.2.2.2) (W : Nat) (hW : W < 2 ^ 64) : Ct l G yX11_letters cX11_letters 5 (some .int) 2 0 0 ad ws [.ref 0, .long (lN W)] (pI ad (fun r ws2 => r = r_letters np W ∧ (∃ k, RC ws2 n K kg mm Ln (np + k) (addL pg np W k) nj Js pn Pe hn U tr kk km kp kh rd ∧ k = (match letTo (letN W) 8 with | none => 0 | some q => if np + q ≤ 10 then q else 0)) ∧ fr own9 ws ws2)) := by
  refine Ct.of [some (.ref 0), some (.long (lN W)), none, none, none] (by decide +kernel) (Nat.le_of_ble_eq_true rfl) rfl ?_
  intro p e s m args below meth c A X
  have hC0 := hC
  obtain ⟨z0, hL, hM, hB, hCe, hSe, hSo, hRg, hRl, hRp, hRh, o1, o2, o3, o4, o5, o6, o7, o8, o9, o10, o11, o12, o13, o14⟩ := hC
  have hRg0 := hRg
  have hz : RC ws n K kg mm Ln (np + 0) (addL pg np W 0) nj Js pn Pe hn U tr kk km kp kh rd := by rw [addL_0]; exact hC0
  obtain ⟨fp, hR1, hR2⟩ := hRg
  have hnp := hR1.2.2.1
  have z21 := hR1.1
  refine V_lload_n1 X dX11_letters_0 ?_
  refine V_cS1I X dX11_letters_1 kX11_150 (t_lettersIn l G ad ws W hW) (Nat.le_of_ble_eq_true rfl) ⟨⟨Nat.le_of_ble_eq_true rfl, Nat.le_of_ble_eq_true rfl⟩, Nat.le_of_ble_eq_true rfl, Nat.le_of_ble_eq_true rfl⟩ (fun r ws2 hc => ?_)
  obtain ⟨rfl, hw9⟩ := hc
  obtain rfl := hw9.symm
  cases hq : letTo (letN W) 8 with
  | none =>
    refine V_istore_n3 X dX11_letters_4 (Nat.le_of_ble_eq_true rfl) rfl ?_
    refine V_iload_n3 X dX11_letters_5 ?_
    refine V_iconstE X (-1) dX11_letters_6 (by decide +kernel) ?_
    refine V_icmp_ne X 13 dX11_letters_7 (by decide) (fun h => ?_) (fun h => ?_)
    · exact absurd rfl h
    · refine V_bipushE X (-102) dX11_letters_10 (by decide +kernel) ?_
      exact V_iret X dX11_letters_12 ⟨by rw [r_letters, hq], ⟨0, hz, rfl⟩, fr.rfl⟩
  | some q =>
    have hq8 := letTo_le hq
    refine V_istore_n3 X dX11_letters_4 (Nat.le_of_ble_eq_true rfl) rfl ?_
    refine V_iload_n3 X dX11_letters_5 ?_
    refine V_iconstE X (-1) dX11_letters_6 (by decide +kernel) ?_
    refine V_icmp_ne X 13 dX11_letters_7 (by decide) (fun h => ?_) (fun h => ?_)
    · refine V_aload_n0 X dX11_letters_13 ?_
      refine V_getf X dX11_letters_14 fX11_53 (by assumption) (by rfl) ?_
      refine V_cV0I X dX11_letters_17 kX11_154 (t_Rsize l G ad ws 21 22 10 np fp hR1) (by assumption) (by rfl) (Nat.le_of_ble_eq_true rfl) ⟨⟨Nat.le_of_ble_eq_true rfl, Nat.le_of_ble_eq_true rfl⟩, Nat.le_of_ble_eq_true rfl, Nat.le_of_ble_eq_true rfl⟩ (fun r ws2 hc => ?_)
      obtain ⟨rfl, hw9⟩ := hc
      obtain rfl := hw9.symm
      refine V_iload_n3 X dX11_letters_20 ?_
      refine V_iadd X dX11_letters_21 ?_
      rw [show optI (some q) = nI q from rfl, nI_add]
      refine V_bipushE X (nI 10) dX11_letters_22 (by decide +kernel) ?_
      refine V_icmp_le X 30 dX11_letters_24 (by decide) (fun h2 => ?_) (fun h2 => ?_)
      · have e9 : np + q ≤ 10 := (nI_leI (b := 10) (by omega) (by omega)).mp h2
        refine V_iconstE X (nI 0) dX11_letters_30 (by decide +kernel) ?_
        refine V_istore_4 X dX11_letters_31 (Nat.le_of_ble_eq_true rfl) rfl ?_
        refine V_loop (fun k2 wk lv2 => ∃ k : Nat, k + k2 = q ∧ lv2 = [some (.ref 0), some (.long (lN W)), none, some (.int (nI q)), some (.int (nI k))] ∧ fr [21, 22] ws wk ∧ RowN wk 21 22 10 (np + k) (addL pg np W k)) q ⟨0, by omega, rfl, fr.rfl, by rw [addL_0]; exact hRg0⟩ ?_
        rintro k2 wk _ ⟨k, hk, rfl, hfk, hRk⟩ ih
        have y0 := hfk.get (by decide) z0
        have hRk0 := hRk
        obtain ⟨fk, hk1, hk2⟩ := hRk
        have y21 := hk1.1
        refine V_iload_4 X dX11_letters_33 ?_
        refine V_iload_n3 X dX11_letters_35 ?_
        refine V_icmp_ge X 58 dX11_letters_36 (by decide) (fun h3 => ?_) (fun h3 => ?_)
        · have e10 : k = q := by have := (nI_leI (by omega) (by omega)).mp h3; omega
          refine V_aload_n0 X dX11_letters_58 ?_
          refine V_getf X dX11_letters_59 fX11_53 (by assumption) (by rfl) ?_
          refine V_cV0I X dX11_letters_62 kX11_154 (t_Rsize l G ad wk 21 22 10 (np + k) fk hk1) (by assumption) (by rfl) (Nat.le_of_ble_eq_true rfl) ⟨⟨Nat.le_of_ble_eq_true rfl, Nat.le_of_ble_eq_true rfl⟩, Nat.le_of_ble_eq_true rfl, Nat.le_of_ble_eq_true rfl⟩ (fun r ws2 hc => ?_)
          obtain ⟨rfl, hw9⟩ := hc
          obtain rfl := hw9.symm
          refine V_iret X dX11_letters_65 ⟨by rw [r_letters, hq]; simp only; rw [if_pos e9, e10], ⟨k, hC0.own hfk (by decide) y0 hRk0 (hRl.fr hfk (by decide) (by decide)) (hRp.fr hfk (by decide) (by decide)) (hRh.fr hfk (by decide) (by decide)) ⟨o1, o2, o3, fun i hi => ?_, o5, o6, o7, o8, o9, o10, o11, o12, o13, o14⟩, by simp only; rw [if_pos e9, e10]⟩, hfk.mono (by decide)⟩
          unfold addL
          split
          · exact Nat.mod_lt _ (by decide)
          · exact o4 i (by omega)
        · have e10 : k < q := by
            rcases Nat.lt_or_ge k q with q9 | q9
            · exact q9
            · exact absurd ((nI_leI (by omega) (by omega)).mpr q9) h3
          refine V_aload_n0 X dX11_letters_39 ?_
          refine V_getf X dX11_letters_40 fX11_53 (by assumption) (by rfl) ?_
          refine V_lload_n1 X dX11_letters_43 ?_
          refine V_iload_4 X dX11_letters_44 ?_
          refine V_cS2I X dX11_letters_46 kX11_155 (t_letterIn l G ad wk W k hW (by omega)) (Nat.le_of_ble_eq_true rfl) ⟨⟨Nat.le_of_ble_eq_true rfl, Nat.le_of_ble_eq_true rfl⟩, Nat.le_of_ble_eq_true rfl, Nat.le_of_ble_eq_true rfl⟩ (fun r ws2 hc => ?_)
          obtain ⟨rfl, hw9⟩ := hc
          obtain rfl := hw9.symm
          refine V_cV1V X dX11_letters_49 kX11_126 (t_Radd l G ad wk 21 22 10 (np + k) fk hk1 (by omega) (nI (letN W k))) (by assumption) (by rfl) (Nat.le_of_ble_eq_true rfl) ⟨⟨Nat.le_of_ble_eq_true rfl, Nat.le_of_ble_eq_true rfl⟩, Nat.le_of_ble_eq_true rfl, Nat.le_of_ble_eq_true rfl⟩ (fun ws2 hc => ?_)
          obtain rfl := hc.symm
          have hRn := RowN.add hk1 hk2 (by omega) (letN W k)
          rw [addL_step] at hRn
          refine V_iinc_4 X dX11_letters_52 (Nat.le_of_ble_eq_true rfl) rfl (inc1 _) ?_
          refine V_goto X 33 dX11_letters_55 (by decide) ?_
          exact ih (k2 - 1) _ _ (by omega) ⟨k + 1, by omega, rfl, (hfk.set (by decide)).set (by decide), hRn⟩
      · have e9 : ¬ np + q ≤ 10 := fun q9 => h2 ((nI_leI (b := 10) (by omega) (by omega)).mpr q9)
        refine V_bipushE X (-104) dX11_letters_27 (by decide +kernel) ?_
        exact V_iret X dX11_letters_29 ⟨by rw [r_letters, hq]; simp only; rw [if_neg e9], ⟨0, hz, by simp only; rw [if_neg e9]⟩, fr.rfl⟩
    · exact absurd h (nI_m1 (by omega))
theorem scanD_dg {pg : Nat → Nat} : ∀ {k i : Nat}, scanD pg k i = i + k → ∀ j, i ≤ j → j < i + k → isDg (pg j) 0 = true
  | 0, i, _, j, h1, h2 => absurd h2 (by omega)
  | k + 1, i, h, j, h1, h2 => by
    rw [scanD] at h
    split at h
    · next hd =>
      by_cases e : j = i
      · rw [e]; exact hd
      · exact scanD_dg (k := k) (i := i + 1) (by omega) j (by omega) (by omega)
    · omega
theorem isJ_ok {n np : Nat} {pg : Nat → Nat} (hn : 0 < n) (h : isJ n np pg = true) : okT n np pg := by
  simp only [isJ, Bool.and_eq_true, decide_eq_true_eq] at h
  obtain ⟨⟨h1, h2⟩, h3⟩ := h
  have hs := scanD_le pg (min np n) 0
  have hi : scanD pg (min np n) 0 = n := by
    unfold faultP faultT at h2
    split at h2
    · omega
    · omega
  unfold faultP at h2
  rw [hi] at h2
  refine ⟨h1, fun f hf => ?_, fun hp => ?_⟩
  · have := scanD_dg (pg := pg) (k := min np n) (i := 0) (by omega) f (by omega) (by omega)
    simp only [isDg, Bool.and_eq_true, decide_eq_true_eq] at this
    omega
  · unfold faultT at h2
    rw [if_neg (by omega), if_pos hp] at h2
    by_cases q : n + 1 = np
    · exact absurd (by rw [show np - 1 = n by omega]; exact hp.2) h3
    · by_cases q2 : isDg (pg (n + 1)) 1 = false
      · rw [if_pos (Or.inr q2)] at h2; exact absurd h2 q
      · have q3 : isDg (pg (n + 1)) 1 = true := by simpa using q2
        simp only [isDg, Bool.and_eq_true, decide_eq_true_eq] at q3
        exact ⟨by omega, by omega, by omega⟩
def okJudge (n mm np : Nat) (pg : Nat → Nat) : Bool := decide (0 < mm) && isJ n np pg
def r_judge (n mm np : Nat) (pg : Nat → Nat) (nj : Nat) : Int32 := if okJudge n mm np pg then (if nj < 5 then nI nj else (-104)) else (-103)
set_option maxHeartbeats 1000000 in
theorem p_judge (l : Launch) (G : GX) (ad : Nat → Nat) (ws : List CE) (n : Nat) (K : Nat → Nat) (kg mm : Nat) (Ln : Nat → Nat) (np : Nat) (pg : Nat → Nat) (nj : Nat) (Js : Nat → JD) (pn : Nat) (Pe : Nat → Nat) (hn : Nat) (U : Nat → Nat) (tr kk km kp kh rd : Nat) (hC : RC ws n K kg mm Ln np pg nj Js pn Pe hn U tr kk km kp kh rd) (hkP : ad kP = G.2.2.2) : Ct l G yX11_judge cX11_judge 2 (some .int) 7 0 0 ad ws [.ref 0] (pI ad (fun r ws2 => r = r_judge n mm np pg nj ∧ (if okJudge n mm np pg = true ∧ nj < 5 then RC ws2 n K kg mm Ln 0 pg (nj + 1) (upJ Js nj (judgeOf n np pg)) pn Pe hn U tr kk km kp kh rd else RC ws2 n K kg mm Ln np pg nj Js pn Pe hn U tr kk km kp kh rd) ∧ fr (own9 ++ [4, 5, 6, 7, 8]) ws ws2)) := by
  refine Ct.of [some (.ref 0), none] (by decide +kernel) (Nat.le_of_ble_eq_true rfl) rfl ?_
  intro p e s m args below meth c A X
  have hO := hC.obj
  have hC0 := hC
  obtain ⟨z0, hL, hM, hB, hCe, hSe, hSo, hRg, hRl, hRp, hRh, o1, o2, o3, o4, o5, o6, o7, o8, o9, o10, o11, o12, o13, o14⟩ := hC
  have z1 := hL.2.1
  have z4 := hM.1
  refine V_aload_n0 X dX11_judge_0 ?_
  refine V_cV0I X dX11_judge_1 kX11_89 (t_hasLine l G ad ws kg mm Ln hO hRl) (by assumption) (by rfl) (Nat.le_of_ble_eq_true rfl) ⟨⟨Nat.le_of_ble_eq_true rfl, Nat.le_of_ble_eq_true rfl⟩, Nat.le_of_ble_eq_true rfl, Nat.le_of_ble_eq_true rfl⟩ (fun r ws2 hc => ?_)
  obtain ⟨rfl, hw9⟩ := hc
  obtain rfl := hw9.symm
  refine V_if_eq X 24 dX11_judge_4 (by decide) (fun h => ?_) (fun h => ?_)
  · have e9 : mm = 0 := by have := of_decide_eq_false (b_of0 h); omega
    have eok : okJudge n mm np pg = false := by simp [okJudge, e9]
    refine V_bipushE X (-103) dX11_judge_24 (by decide +kernel) ?_
    exact V_iret X dX11_judge_26 ⟨by rw [r_judge, eok]; rfl, by rw [eok, if_neg (fun q => by cases q.1)]; exact hC0, fr.rfl⟩
  · have e9 : 0 < mm := of_decide_eq_true (b_of1 h)
    have hn2 := o7 e9
    refine V_aload_n0 X dX11_judge_7 ?_
    refine V_getf X dX11_judge_8 fX11_53 (by assumption) (by rfl) ?_
    refine V_aload_n0 X dX11_judge_11 ?_
    refine V_getf X dX11_judge_12 fX11_12 (by assumption) (by rfl) ?_
    refine V_cV0I X dX11_judge_15 kX11_122 (t_Lsize l G ad ws n K hL) (by assumption) (by rfl) (Nat.le_of_ble_eq_true rfl) ⟨⟨Nat.le_of_ble_eq_true rfl, Nat.le_of_ble_eq_true rfl⟩, Nat.le_of_ble_eq_true rfl, Nat.le_of_ble_eq_true rfl⟩ (fun r ws2 hc => ?_)
    obtain ⟨rfl, hw9⟩ := hc
    obtain rfl := hw9.symm
    refine V_cS2I X dX11_judge_18 kX11_166 (t_isJudge l G ad ws n np pg hRg o1 (by omega) o4) (Nat.le_of_ble_eq_true rfl) ⟨⟨Nat.le_of_ble_eq_true rfl, Nat.le_of_ble_eq_true rfl⟩, Nat.le_of_ble_eq_true rfl, Nat.le_of_ble_eq_true rfl⟩ (fun r ws2 hc => ?_)
    obtain ⟨rfl, hw9⟩ := hc
    obtain rfl := hw9.symm
    refine V_if_ne X 27 dX11_judge_21 (by decide) (fun h2 => ?_) (fun h2 => ?_)
    · have e8 := b_of1 h2
      have eok : okJudge n mm np pg = true := by simp [okJudge, e9, e8]
      refine V_aload_n0 X dX11_judge_27 ?_
      refine V_getf X dX11_judge_28 fX11_21 (by assumption) (by rfl) ?_
      refine V_cV0I X dX11_judge_31 kX11_170 (t_BisFull l G ad ws n nj Js hM) (by assumption) (by rfl) (Nat.le_of_ble_eq_true rfl) ⟨⟨Nat.le_of_ble_eq_true rfl, Nat.le_of_ble_eq_true rfl⟩, Nat.le_of_ble_eq_true rfl, Nat.le_of_ble_eq_true rfl⟩ (fun r ws2 hc => ?_)
      obtain ⟨rfl, hw9⟩ := hc
      obtain rfl := hw9.symm
      refine V_if_eq X 40 dX11_judge_34 (by decide) (fun h3 => ?_) (fun h3 => ?_)
      · have e7 := of_decide_eq_false (b_of0 h3)
        refine V_aload_n0 X dX11_judge_40 ?_
        refine V_getf X dX11_judge_41 fX11_21 (by assumption) (by rfl) ?_
        refine V_aload_n0 X dX11_judge_44 ?_
        refine V_getf X dX11_judge_45 fX11_53 (by assumption) (by rfl) ?_
        refine V_cV1I X dX11_judge_48 kX11_171 (t_Badd l G ad ws n nj K Js np pg hL hM hB hRg o4 (isJ_ok (by omega) e8) (by omega) (by omega)) (by assumption) (by rfl) (Nat.le_of_ble_eq_true rfl) ⟨⟨Nat.le_of_ble_eq_true rfl, Nat.le_of_ble_eq_true rfl⟩, Nat.le_of_ble_eq_true rfl, Nat.le_of_ble_eq_true rfl⟩ (fun r ws2 hc => ?_)
        obtain ⟨rfl, hM5, hB5, hf5⟩ := hc
        generalize ws2 = wa at hM5 hB5 hf5 ⊢
        have y0 := hf5.get (by decide) z0
        have hRg5 := hRg.fr hf5 (by decide) (by decide)
        have hRg6 := hRg5
        obtain ⟨fp, hR1, hR2⟩ := hRg5
        have y21 := hR1.1
        refine V_istore_n1 X dX11_judge_51 (Nat.le_of_ble_eq_true rfl) rfl ?_
        refine V_aload_n0 X dX11_judge_52 ?_
        refine V_getf X dX11_judge_53 fX11_53 (by assumption) (by rfl) ?_
        refine V_iconstE X (nI 0) dX11_judge_56 (by decide +kernel) ?_
        refine V_cV1V X dX11_judge_57 kX11_159 (t_Rcut l G ad wa 21 22 10 np fp hR1 0 (by omega)) (by assumption) (by rfl) (Nat.le_of_ble_eq_true rfl) ⟨⟨Nat.le_of_ble_eq_true rfl, Nat.le_of_ble_eq_true rfl⟩, Nat.le_of_ble_eq_true rfl, Nat.le_of_ble_eq_true rfl⟩ (fun ws2 hc => ?_)
        obtain rfl := hc.symm
        have hfx : fr [21] wa (wa.set 21 (oB 7 [.ref 22, .int (nI 0)])) := fr.rfl.set (by decide)
        have hfz : fr (own9 ++ [4, 5, 6, 7, 8]) ws (wa.set 21 (oB 7 [.ref 22, .int (nI 0)])) := (hf5.mono (by decide)).set (by decide)
        have hL5 := hL.fr hf5 (by decide)
        refine V_iload_n1 X dX11_judge_60 ?_
        refine V_iret X dX11_judge_61 ⟨by rw [r_judge, if_pos eok, if_pos (by omega)], ?_, hfz⟩
        rw [if_pos ⟨eok, by omega⟩]
        exact ⟨hfx.get (by decide) y0, Looks_fr0 hL5 hfx (by decide), hM5.fr hfx (by decide) (by decide), hB5.fr hfx (by decide) (by decide) (by decide), (hCe.fr hf5 (by decide)).fr hfx (by decide), SeaI.fr (SeaI.fr hSe hf5 (by decide)) hfx (by decide), (hSo.fr hf5 (by decide)).fr hfx (by decide), hRg6.cut (by omega), (hRl.fr hf5 (by decide) (by decide)).fr hfx (by decide) (by decide), (hRp.fr hf5 (by decide) (by decide)).fr hfx (by decide) (by decide), (hRh.fr hf5 (by decide) (by decide)).fr hfx (by decide) (by decide), o1, o2, o3, fun i hi => absurd hi (by omega), o5, o6, o7, fun q => absurd q (by omega), o9, o10, o11, o12, o13, o14⟩
      · have e7 := of_decide_eq_true (b_of1 h3)
        refine V_bipushE X (-104) dX11_judge_37 (by decide +kernel) ?_
        exact V_iret X dX11_judge_39 ⟨by rw [r_judge, if_pos eok, if_neg (by omega)], by rw [if_neg (fun q => by omega)]; exact hC0, fr.rfl⟩
    · have e8 := b_of0 h2
      have eok : okJudge n mm np pg = false := by simp [okJudge, e8]
      refine V_bipushE X (-103) dX11_judge_24 (by decide +kernel) ?_
      exact V_iret X dX11_judge_26 ⟨by rw [r_judge, eok]; rfl, by rw [eok, if_neg (fun q => by cases q.1)]; exact hC0, fr.rfl⟩
