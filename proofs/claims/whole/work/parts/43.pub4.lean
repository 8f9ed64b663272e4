/-! truth, copies, count -/
def truthPair (n : Nat) (K : Nat → Nat) (nj : Nat) (Js : Nat → JD) (la kg : Nat) : Int32 × Int32 := seekI n K nj Js la kg
def r_truth (n : Nat) (K : Nat → Nat) (mm kg nj : Nat) (Js : Nat → JD) (Ln : Nat → Nat) (tr : Nat) (x : Int32) : Int32 := if mm = 0 then (-103) else if x = 0 ∨ x = nI 1 then (if tr < 30 then (if x = 0 then (seekI n K nj Js (Ln (mm - 1)) kg).1 else (seekI n K nj Js (Ln (mm - 1)) kg).2) else (-103)) else (-102)
def okTruth (mm tr : Nat) (x : Int32) : Prop := 0 < mm ∧ (x = 0 ∨ x = nI 1) ∧ tr < 30
set_option maxHeartbeats 1000000 in
theorem p_truth (l : Launch) (G : GX) (ad : Nat → Nat) (ws : List CE) (n : Nat) (K : Nat → Nat) (kg mm : Nat) (Ln : Nat → Nat) (np : Nat) (pg : Nat → Nat) (nj : Nat) (Js : Nat → JD) (pn : Nat) (Pe : Nat → Nat) (hn : Nat) (U : Nat → Nat) (tr kk km kp kh rd : Nat) (hC : RC ws n K kg mm Ln np pg nj Js pn Pe hn U tr kk km kp kh rd) (hkP : ad kP = G.2.2.2) (hrd : rd + 20 < 900000000) (x : Int32) : Ct l G yX11_truth cX11_truth 2 (some .int) 10 0 0 ad ws [.ref 0, .int x] (pI ad (fun r ws2 => r = r_truth n K mm kg nj Js Ln tr x ∧ (okTruth mm tr x → RC ws2 n K kg mm Ln np pg nj Js pn Pe hn U (tr + 1) kk km kp kh (rd + 20)) ∧ (¬ okTruth mm tr x → RC ws2 n K kg mm Ln np pg nj Js pn Pe hn U tr kk km kp kh (rd + 20)) ∧ fr (own9 ++ sea4) ws ws2)) := by
  refine Ct.of [some (.ref 0), some (.int x)] (by decide +kernel) (Nat.le_of_ble_eq_true rfl) rfl ?_
  intro p e s m args below meth c A X
  have hO := hC.obj
  have hC0 : RC ws n K kg mm Ln np pg nj Js pn Pe hn U tr kk km kp kh (rd + 20) := hC.sea fr.rfl (by obtain ⟨a, b, c, d, e, f, g, h1, h2⟩ := hC.2.2.2.2.2.1; exact ⟨a, b, c, d, e, f, g, by omega, h2⟩) hrd
  have hC1 := hC
  obtain ⟨z0, hL, hM, hB, hCe, hSe, hSo, hRg, hRl, hRp, hRh, o1, o2, o3, o4, o5, o6, o7, o8, o9, o10, o11, o12, o13, o14⟩ := hC
  have h104 := pow_le4 o1
  have hRl0 := hRl
  obtain ⟨fl, hR1, hR2⟩ := hRl
  have z23 := hR1.1
  refine V_aload_n0 X dX11_truth_0 ?_
  refine V_cV0I X dX11_truth_1 kX11_89 (t_hasLine l G ad ws kg mm Ln hO hRl0) (by assumption) (by rfl) (Nat.le_of_ble_eq_true rfl) ⟨⟨Nat.le_of_ble_eq_true rfl, Nat.le_of_ble_eq_true rfl⟩, Nat.le_of_ble_eq_true rfl, Nat.le_of_ble_eq_true rfl⟩ (fun r ws2 hc => ?_)
  obtain ⟨rfl, hw9⟩ := hc
  obtain rfl := hw9.symm
  refine V_if_ne X 10 dX11_truth_4 (by decide) (fun h => ?_) (fun h => ?_)
  · have e9 : 0 < mm := of_decide_eq_true (b_of1 h)
    have e9' : ¬ mm = 0 := by omega
    have hla := o3 (mm - 1) (by omega)
    have go : (x = 0 ∨ x = nI 1) → V p l e (rmm 10 0 0) s m args below meth c 0 0 (MQ below (QQ G A (pI ad (fun r ws2 => r = r_truth n K mm kg nj Js Ln tr x ∧ (okTruth mm tr x → RC ws2 n K kg mm Ln np pg nj Js pn Pe hn U (tr + 1) kk km kp kh (rd + 20)) ∧ (¬ okTruth mm tr x → RC ws2 n K kg mm Ln np pg nj Js pn Pe hn U tr kk km kp kh (rd + 20)) ∧ fr (own9 ++ sea4) ws ws2))) args s 0 0 A) G A 2 ad ws 22 [some (.ref 0), some (.int x)] [] := by
      intro hx
      refine V_aload_n0 X dX11_truth_22 ?_
      refine V_getf X dX11_truth_23 fX11_70 (by assumption) (by rfl) ?_
      refine V_bipushE X (nI 30) dX11_truth_26 (by decide +kernel) ?_
      refine V_icmp_lt X 34 dX11_truth_28 (by decide) (fun h6 => ?_) (fun h6 => ?_)
      · have e8 : tr < 30 := (nI_ltI (b := 30) (by omega) (by omega)).mp h6
        refine V_aload_n0 X dX11_truth_34 ?_
        refine V_dup X dX11_truth_35 rfl ?_
        refine V_getf X dX11_truth_36 fX11_70 (by assumption) (by rfl) ?_
        refine V_iconstE X (nI 1) dX11_truth_39 (by decide +kernel) ?_
        refine V_iadd X dX11_truth_40 ?_
        rw [nI_add]
        refine V_putf X dX11_truth_41 fX11_70 (by assumption) (Nat.le_of_ble_eq_true rfl) rfl rfl ?_
        refine V_eqW (ws2 := ws.set 0 (CObj kg (tr + 1) kk km kp kh)) rfl ?_
        have hf1 : fr [0] ws (ws.set 0 (CObj kg (tr + 1) kk km kp kh)) := fr.rfl.set (by decide)
        have y0 := gset (e2 := CObj kg (tr + 1) kk km kp kh) z0
        generalize ws.set 0 (CObj kg (tr + 1) kk km kp kh) = wa at hf1 y0 ⊢
        have hCa := hC1.own hf1 (by decide) y0 (hRg.fr hf1 (by decide) (by decide)) (hRl0.fr hf1 (by decide) (by decide)) (hRp.fr hf1 (by decide) (by decide)) (hRh.fr hf1 (by decide) (by decide)) ⟨o1, o2, o3, o4, o5, o6, o7, o8, o9, o10, o11, o12, by omega, o14⟩
        have hRa := hR1.fr hf1 (by decide) (by decide)
        have y23 := hRa.1
        obtain ⟨kr, ke, rd2, L2, ty, ft, fe, hr2, hSR⟩ := hCa.2.2.2.2.2.1
        have y13 := hSR.obj
        refine V_aload_n0 X dX11_truth_44 ?_
        refine V_getf X dX11_truth_45 fX11_37 (by assumption) (by rfl) ?_
        refine V_aload_n0 X dX11_truth_48 ?_
        refine V_getf X dX11_truth_49 fX11_57 (by assumption) (by rfl) ?_
        refine V_cV0I X dX11_truth_52 kX11_138 (t_Rlast l G ad wa 23 24 60 mm fl hRa e9) (by assumption) (by rfl) (Nat.le_of_ble_eq_true rfl) ⟨⟨Nat.le_of_ble_eq_true rfl, Nat.le_of_ble_eq_true rfl⟩, Nat.le_of_ble_eq_true rfl, Nat.le_of_ble_eq_true rfl⟩ (fun r ws2 hc => ?_)
        obtain ⟨rfl, hw9⟩ := hc
        obtain rfl := hw9.symm
        rw [hR2 _ (by omega)]
        refine V_aload_n0 X dX11_truth_55 ?_
        refine V_getf X dX11_truth_56 fX11_66 (by assumption) (by rfl) ?_
        refine V_cV2V X dX11_truth_59 kX11_192 (t_seek l G ad wa n nj K Js kr ke rd2 L2 ty ft fe hCa.2.1 hCa.2.2.1 hCa.2.2.2.1 hSR (by omega) hkP _ kg hla o2) (by assumption) (by rfl) (Nat.le_of_ble_eq_true rfl) ⟨⟨Nat.le_of_ble_eq_true rfl, Nat.le_of_ble_eq_true rfl⟩, Nat.le_of_ble_eq_true rfl, Nat.le_of_ble_eq_true rfl⟩ (fun ws2 hc => ?_)
        obtain ⟨⟨kr3, ke3, rd3, L3, fe3, hr3, hS3⟩, hf3⟩ := hc
        generalize ws2 = wb at hS3 hf3 ⊢
        have hCb := hCa.sea (rd2 := rd + 20) hf3 ⟨kr3, ke3, rd3, L3.length, _, _, fe3, by omega, hS3.toV⟩ hrd
        have x0 := hf3.get (by decide) y0
        have x13 := hS3.2.2.1
        have hfr : fr (own9 ++ sea4) ws wb := (hf1.mono (by decide)).trans (hf3.mono (by decide))
        have hok : okTruth mm tr x := ⟨e9, hx, e8⟩
        refine V_iload_n1 X dX11_truth_62 ?_
        refine V_if_ne X 76 dX11_truth_63 (by decide) (fun h7 => ?_) (fun h7 => ?_)
        · refine V_aload_n0 X dX11_truth_76 ?_
          refine V_getf X dX11_truth_77 fX11_37 (by assumption) (by rfl) ?_
          refine V_cV0I X dX11_truth_80 kX11_199 (t_firstTrue l G ad wb kr3 ke3 rd3 L3 _ _ fe3 hS3) (by assumption) (by rfl) (Nat.le_of_ble_eq_true rfl) ⟨⟨Nat.le_of_ble_eq_true rfl, Nat.le_of_ble_eq_true rfl⟩, Nat.le_of_ble_eq_true rfl, Nat.le_of_ble_eq_true rfl⟩ (fun r ws2 hc => ?_)
          obtain ⟨rfl, hw9⟩ := hc
          obtain rfl := hw9.symm
          exact V_iret X dX11_truth_83 ⟨by rw [r_truth, if_neg e9', if_pos hx, if_pos e8, if_neg h7], fun _ => hCb, fun q => absurd hok q, hfr⟩
        · refine V_aload_n0 X dX11_truth_66 ?_
          refine V_getf X dX11_truth_67 fX11_37 (by assumption) (by rfl) ?_
          refine V_cV0I X dX11_truth_70 kX11_196 (t_trueYears l G ad wb kr3 ke3 rd3 L3 _ _ fe3 hS3) (by assumption) (by rfl) (Nat.le_of_ble_eq_true rfl) ⟨⟨Nat.le_of_ble_eq_true rfl, Nat.le_of_ble_eq_true rfl⟩, Nat.le_of_ble_eq_true rfl, Nat.le_of_ble_eq_true rfl⟩ (fun r ws2 hc => ?_)
          obtain ⟨rfl, hw9⟩ := hc
          obtain rfl := hw9.symm
          refine V_goto X 83 dX11_truth_73 (by decide) ?_
          exact V_iret X dX11_truth_83 ⟨by rw [r_truth, if_neg e9', if_pos hx, if_pos e8, if_pos h7], fun _ => hCb, fun q => absurd hok q, hfr⟩
      · have e8 : ¬ tr < 30 := fun q => h6 ((nI_ltI (b := 30) (by omega) (by omega)).mpr q)
        refine V_bipushE X (-103) dX11_truth_31 (by decide +kernel) ?_
        exact V_iret X dX11_truth_33 ⟨by rw [r_truth, if_neg e9', if_pos hx, if_neg e8], fun q => absurd q.2.2 e8, fun _ => hC0, fr.rfl⟩
    refine V_iload_n1 X dX11_truth_10 ?_
    refine V_if_eq X 22 dX11_truth_11 (by decide) (fun h2 => ?_) (fun h2 => ?_)
    · exact go (Or.inl h2)
    · refine V_iload_n1 X dX11_truth_14 ?_
      refine V_iconstE X (nI 1) dX11_truth_15 (by decide +kernel) ?_
      refine V_icmp_eq X 22 dX11_truth_16 (by decide) (fun h3 => ?_) (fun h3 => ?_)
      · exact go (Or.inr h3)
      · refine V_bipushE X (-102) dX11_truth_19 (by decide +kernel) ?_
        exact V_iret X dX11_truth_21 ⟨by rw [r_truth, if_neg e9', if_neg (fun q => q.elim h2 h3)], fun q => absurd q.2.1 (fun q2 => q2.elim h2 h3), fun _ => hC0, fr.rfl⟩
  · have e9 : mm = 0 := by have := of_decide_eq_false (b_of0 h); omega
    refine V_bipushE X (-103) dX11_truth_7 (by decide +kernel) ?_
    exact V_iret X dX11_truth_9 ⟨by rw [r_truth, if_pos e9], fun q => absurd q.1 (by omega), fun _ => hC0, fr.rfl⟩
def okCop (x z w : Int32) : Prop := ¬ x < nI 1 ∧ ¬ nI 60 < x ∧ ¬ z < 0 ∧ ¬ w < 0 ∧ w ≤ nI 3
def r_copies (n : Nat) (K : Nat → Nat) (mm kg nj : Nat) (Js : Nat → JD) (Ln : Nat → Nat) (x z w : Int32) : Int32 := if mm = 0 then (-103) else if decide (¬ x < nI 1) && decide (¬ nI 60 < x) && decide (¬ z < 0) && decide (¬ w < 0) && decide (w ≤ nI 3) then copI n K (copTo n K nj Js (Ln (mm - 1), kg, 0, valI z) (valI x)) (valI w) else (-102)
theorem p_copies (l : Launch) (G : GX) (ad : Nat → Nat) (ws : List CE) (n : Nat) (K : Nat → Nat) (kg mm : Nat) (Ln : Nat → Nat) (np : Nat) (pg : Nat → Nat) (nj : Nat) (Js : Nat → JD) (pn : Nat) (Pe : Nat → Nat) (hn : Nat) (U : Nat → Nat) (tr kk km kp kh rd : Nat) (hC : RC ws n K kg mm Ln np pg nj Js pn Pe hn U tr kk km kp kh rd) (hkP : ad kP = G.2.2.2) (x z w : Int32) : Ct l G yX11_copies cX11_copies 4 (some .int) 8 0 0 ad ws [.ref 0, .int x, .int z, .int w] (pI ad (fun r ws2 => r = r_copies n K mm kg nj Js Ln x z w ∧ ws2 = ws)) := by
  refine Ct.of [some (.ref 0), some (.int x), some (.int z), some (.int w)] (by decide +kernel) (Nat.le_of_ble_eq_true rfl) rfl ?_
  intro p e s m args below meth c A X
  have hO := hC.obj
  obtain ⟨z0, hL, hM, hB, hCe, hSe, hSo, hRg, hRl, hRp, hRh, o1, o2, o3, o4, o5, o6, o7, o8, o9, o10, o11, o12, o13, o14⟩ := hC
  have h104 := pow_le4 o1
  refine V_aload_n0 X dX11_copies_0 ?_
  refine V_cV0I X dX11_copies_1 kX11_89 (t_hasLine l G ad ws kg mm Ln hO hRl) (by assumption) (by rfl) (Nat.le_of_ble_eq_true rfl) ⟨⟨Nat.le_of_ble_eq_true rfl, Nat.le_of_ble_eq_true rfl⟩, Nat.le_of_ble_eq_true rfl, Nat.le_of_ble_eq_true rfl⟩ (fun r ws2 hc => ?_)
  obtain ⟨rfl, hw9⟩ := hc
  obtain rfl := hw9.symm
  refine V_if_ne X 10 dX11_copies_4 (by decide) (fun h => ?_) (fun h => ?_)
  · have e9 : 0 < mm := of_decide_eq_true (b_of1 h)
    have e9' : ¬ mm = 0 := by omega
    have hla := o3 (mm - 1) (by omega)
    have hn2 := o7 e9
    refine V_iload_n1 X dX11_copies_10 ?_
    refine V_iconstE X (nI 1) dX11_copies_11 (by decide +kernel) ?_
    refine V_icmp_lt X 34 dX11_copies_12 (by decide) (fun h1 => ?_) (fun h1 => ?_)
    · refine V_bipushE X (-102) dX11_copies_34 (by decide +kernel) ?_
      exact V_iret X dX11_copies_36 ⟨by simp [r_copies, e9', h1], rfl⟩
    · refine V_iload_n1 X dX11_copies_15 ?_
      refine V_bipushE X (nI 60) dX11_copies_16 (by decide +kernel) ?_
      refine V_icmp_gt X 34 dX11_copies_18 (by decide) (fun h2 => ?_) (fun h2 => ?_)
      · refine V_bipushE X (-102) dX11_copies_34 (by decide +kernel) ?_
        exact V_iret X dX11_copies_36 ⟨by simp [r_copies, e9', h2], rfl⟩
      · refine V_iload_n2 X dX11_copies_21 ?_
        refine V_if_lt X 34 dX11_copies_22 (by decide) (fun h3 => ?_) (fun h3 => ?_)
        · refine V_bipushE X (-102) dX11_copies_34 (by decide +kernel) ?_
          exact V_iret X dX11_copies_36 ⟨by simp [r_copies, e9', h3], rfl⟩
        · refine V_iload_n3 X dX11_copies_25 ?_
          refine V_if_lt X 34 dX11_copies_26 (by decide) (fun h4 => ?_) (fun h4 => ?_)
          · refine V_bipushE X (-102) dX11_copies_34 (by decide +kernel) ?_
            exact V_iret X dX11_copies_36 ⟨by simp [r_copies, e9', h4], rfl⟩
          · refine V_iload_n3 X dX11_copies_29 ?_
            refine V_iconstE X (nI 3) dX11_copies_30 (by decide +kernel) ?_
            refine V_icmp_le X 37 dX11_copies_31 (by decide) (fun h5 => ?_) (fun h5 => ?_)
            · have hx0 : ¬ x < 0 := fun q => h1 (Int32.lt_trans q (by decide +kernel))
              obtain ⟨y, hy, rfl⟩ := nI_of2 (M := nI 60) (n := 60) (by decide +kernel) hx0 (Int32.not_lt.mp h2)
              obtain ⟨s0, hs0, rfl⟩ := nI_of h3
              obtain ⟨wh, hwh, rfl⟩ := nI_of2 (M := nI 3) (n := 3) (by decide +kernel) h4 h5
              refine V_aload_n0 X dX11_copies_37 ?_
              refine V_iload_n1 X dX11_copies_38 ?_
              refine V_iload_n2 X dX11_copies_39 ?_
              refine V_iload_n3 X dX11_copies_40 ?_
              refine V_cV3I X dX11_copies_41 kX11_202 (t_copied l G ad ws n nj K Js kg mm Ln hO hL hM hB hRl hkP (by omega) o2 e9 _ rfl hla y s0 wh (by omega) (by omega) (by omega)) (by assumption) (by rfl) (Nat.le_of_ble_eq_true rfl) ⟨⟨Nat.le_of_ble_eq_true rfl, Nat.le_of_ble_eq_true rfl⟩, Nat.le_of_ble_eq_true rfl, Nat.le_of_ble_eq_true rfl⟩ (fun r ws2 hc => ?_)
              obtain ⟨rfl, hw9⟩ := hc
              obtain rfl := hw9.symm
              exact V_iret X dX11_copies_44 ⟨by rw [r_copies, if_neg e9', decide_eq_true h1, decide_eq_true h2, decide_eq_true h3, decide_eq_true h4, decide_eq_true h5, valI_nI (by omega), valI_nI (by omega), valI_nI (by omega)]; rfl, rfl⟩
            · refine V_bipushE X (-102) dX11_copies_34 (by decide +kernel) ?_
              exact V_iret X dX11_copies_36 ⟨by rw [r_copies, if_neg e9', decide_eq_false h5, Bool.and_false]; rfl, rfl⟩
  · have e9 : mm = 0 := by have := of_decide_eq_false (b_of0 h); omega
    refine V_bipushE X (-103) dX11_copies_7 (by decide +kernel) ?_
    exact V_iret X dX11_copies_9 ⟨by simp [r_copies, e9], rfl⟩
def howI (n : Nat) (K : Nat → Nat) (kg mm : Nat) (Ln : Nat → Nat) (np nj pn hn tr : Nat) (w : Nat) : Int32 := if w = 0 then nI n else if w = 1 then nI mm else if w = 2 then nI nj else if w = 3 then nI pn else if w = 4 then nI hn else if w = 5 then nI np else if w = 6 then nI tr else if mm = 0 then nI 0 else nI (gapP n K kg (Ln (mm - 1)))
theorem t_howMany (l : Launch) (G : GX) (ad : Nat → Nat) (ws : List CE) (n : Nat) (K : Nat → Nat) (kg mm : Nat) (Ln : Nat → Nat) (np : Nat) (pg : Nat → Nat) (nj : Nat) (Js : Nat → JD) (pn : Nat) (Pe : Nat → Nat) (hn : Nat) (U : Nat → Nat) (tr kk km kp kh rd : Nat) (hC : RC ws n K kg mm Ln np pg nj Js pn Pe hn U tr kk km kp kh rd) (hkP : ad kP = G.2.2.2) (w : Nat) (hw : w < 8) : Ct l G yX11_howMany cX11_howMany 2 (some .int) 5 0 0 ad ws [.ref 0, .int (nI w)] (pI ad (fun r ws2 => r = howI n K kg mm Ln np nj pn hn tr w ∧ ws2 = ws)) := by
  refine Ct.of [some (.ref 0), some (.int (nI w))] (by decide +kernel) (Nat.le_of_ble_eq_true rfl) rfl ?_
  intro p e s m args below meth c A X
  have hO := hC.obj
  obtain ⟨z0, hL, hM, hB, hCe, hSe, hSo, hRg, hRl, hRp, hRh, o1, o2, o3, o4, o5, o6, o7, o8, o9, o10, o11, o12, o13, o14⟩ := hC
  have h104 := pow_le4 o1
  have z1 := hL.2.1
  have z4 := hM.1
  have hRl0 := hRl
  obtain ⟨fl, hl1, hl2⟩ := hRl
  obtain ⟨fp, hp1, hp2⟩ := hRp
  obtain ⟨fh, hh1, hh2⟩ := hRh
  obtain ⟨fg, hg1, hg2⟩ := hRg
  have z23 := hl1.1
  have z25 := hp1.1
  have z27 := hh1.1
  have z21 := hg1.1
  refine V_iload_n1 X dX11_howMany_0 ?_
  rcases (show w = 0 ∨ w = 1 ∨ w = 2 ∨ w = 3 ∨ w = 4 ∨ w = 5 ∨ w = 6 ∨ w = 7 by omega) with rfl | rfl | rfl | rfl | rfl | rfl | rfl | rfl
  · refine V_tswI X 44 dX11_howMany_1 (by decide +kernel) (by decide +kernel) (off := 43) (by decide +kernel) (by decide) ?_
    refine V_aload_n0 X dX11_howMany_44 ?_
    refine V_getf X dX11_howMany_45 fX11_12 (by assumption) (by rfl) ?_
    refine V_cV0I X dX11_howMany_48 kX11_122 (t_Lsize l G ad ws n K hL) (by assumption) (by rfl) (Nat.le_of_ble_eq_true rfl) ⟨⟨Nat.le_of_ble_eq_true rfl, Nat.le_of_ble_eq_true rfl⟩, Nat.le_of_ble_eq_true rfl, Nat.le_of_ble_eq_true rfl⟩ (fun r ws2 hc => ?_)
    obtain ⟨rfl, hw9⟩ := hc
    obtain rfl := hw9.symm
    exact V_iret X dX11_howMany_51 ⟨rfl, rfl⟩
  · refine V_tswI X 52 dX11_howMany_1 (by decide +kernel) (by decide +kernel) (off := 51) (by decide +kernel) (by decide) ?_
    refine V_aload_n0 X dX11_howMany_52 ?_
    refine V_getf X dX11_howMany_53 fX11_57 (by assumption) (by rfl) ?_
    refine V_cV0I X dX11_howMany_56 kX11_154 (t_Rsize l G ad ws 23 24 60 mm fl hl1) (by assumption) (by rfl) (Nat.le_of_ble_eq_true rfl) ⟨⟨Nat.le_of_ble_eq_true rfl, Nat.le_of_ble_eq_true rfl⟩, Nat.le_of_ble_eq_true rfl, Nat.le_of_ble_eq_true rfl⟩ (fun r ws2 hc => ?_)
    obtain ⟨rfl, hw9⟩ := hc
    obtain rfl := hw9.symm
    exact V_iret X dX11_howMany_59 ⟨rfl, rfl⟩
  · refine V_tswI X 60 dX11_howMany_1 (by decide +kernel) (by decide +kernel) (off := 59) (by decide +kernel) (by decide) ?_
    refine V_aload_n0 X dX11_howMany_60 ?_
    refine V_getf X dX11_howMany_61 fX11_21 (by assumption) (by rfl) ?_
    refine V_cV0I X dX11_howMany_64 kX11_239 (t_Bsize l G ad ws n nj Js hM) (by assumption) (by rfl) (Nat.le_of_ble_eq_true rfl) ⟨⟨Nat.le_of_ble_eq_true rfl, Nat.le_of_ble_eq_true rfl⟩, Nat.le_of_ble_eq_true rfl, Nat.le_of_ble_eq_true rfl⟩ (fun r ws2 hc => ?_)
    obtain ⟨rfl, hw9⟩ := hc
    obtain rfl := hw9.symm
    exact V_iret X dX11_howMany_67 ⟨rfl, rfl⟩
  · refine V_tswI X 68 dX11_howMany_1 (by decide +kernel) (by decide +kernel) (off := 67) (by decide +kernel) (by decide) ?_
    refine V_aload_n0 X dX11_howMany_68 ?_
    refine V_getf X dX11_howMany_69 fX11_60 (by assumption) (by rfl) ?_
    refine V_cV0I X dX11_howMany_72 kX11_154 (t_Rsize l G ad ws 25 26 6 pn fp hp1) (by assumption) (by rfl) (Nat.le_of_ble_eq_true rfl) ⟨⟨Nat.le_of_ble_eq_true rfl, Nat.le_of_ble_eq_true rfl⟩, Nat.le_of_ble_eq_true rfl, Nat.le_of_ble_eq_true rfl⟩ (fun r ws2 hc => ?_)
    obtain ⟨rfl, hw9⟩ := hc
    obtain rfl := hw9.symm
    exact V_iret X dX11_howMany_75 ⟨rfl, rfl⟩
  · refine V_tswI X 76 dX11_howMany_1 (by decide +kernel) (by decide +kernel) (off := 75) (by decide +kernel) (by decide) ?_
    refine V_aload_n0 X dX11_howMany_76 ?_
    refine V_getf X dX11_howMany_77 fX11_63 (by assumption) (by rfl) ?_
    refine V_cV0I X dX11_howMany_80 kX11_154 (t_Rsize l G ad ws 27 28 6 hn fh hh1) (by assumption) (by rfl) (Nat.le_of_ble_eq_true rfl) ⟨⟨Nat.le_of_ble_eq_true rfl, Nat.le_of_ble_eq_true rfl⟩, Nat.le_of_ble_eq_true rfl, Nat.le_of_ble_eq_true rfl⟩ (fun r ws2 hc => ?_)
    obtain ⟨rfl, hw9⟩ := hc
    obtain rfl := hw9.symm
    exact V_iret X dX11_howMany_83 ⟨rfl, rfl⟩
  · refine V_tswI X 84 dX11_howMany_1 (by decide +kernel) (by decide +kernel) (off := 83) (by decide +kernel) (by decide) ?_
    refine V_aload_n0 X dX11_howMany_84 ?_
    refine V_getf X dX11_howMany_85 fX11_53 (by assumption) (by rfl) ?_
    refine V_cV0I X dX11_howMany_88 kX11_154 (t_Rsize l G ad ws 21 22 10 np fg hg1) (by assumption) (by rfl) (Nat.le_of_ble_eq_true rfl) ⟨⟨Nat.le_of_ble_eq_true rfl, Nat.le_of_ble_eq_true rfl⟩, Nat.le_of_ble_eq_true rfl, Nat.le_of_ble_eq_true rfl⟩ (fun r ws2 hc => ?_)
    obtain ⟨rfl, hw9⟩ := hc
    obtain rfl := hw9.symm
    exact V_iret X dX11_howMany_91 ⟨rfl, rfl⟩
  · refine V_tswI X 92 dX11_howMany_1 (by decide +kernel) (by decide +kernel) (off := 91) (by decide +kernel) (by decide) ?_
    refine V_aload_n0 X dX11_howMany_92 ?_
    refine V_getf X dX11_howMany_93 fX11_70 (by assumption) (by rfl) ?_
    exact V_iret X dX11_howMany_96 ⟨rfl, rfl⟩
  · refine V_tswO X 97 dX11_howMany_1 (by decide +kernel) (by decide) ?_
    refine V_aload_n0 X dX11_howMany_97 ?_
    refine V_cV0I X dX11_howMany_98 kX11_89 (t_hasLine l G ad ws kg mm Ln hO hRl0) (by assumption) (by rfl) (Nat.le_of_ble_eq_true rfl) ⟨⟨Nat.le_of_ble_eq_true rfl, Nat.le_of_ble_eq_true rfl⟩, Nat.le_of_ble_eq_true rfl, Nat.le_of_ble_eq_true rfl⟩ (fun r ws2 hc => ?_)
    obtain ⟨rfl, hw9⟩ := hc
    obtain rfl := hw9.symm
    refine V_if_eq X 125 dX11_howMany_101 (by decide) (fun h => ?_) (fun h => ?_)
    · have e9 : mm = 0 := by have := of_decide_eq_false (b_of0 h); omega
      refine V_iconstE X (nI 0) dX11_howMany_125 (by decide +kernel) ?_
      exact V_iret X dX11_howMany_126 ⟨by simp [howI, e9], rfl⟩
    · have e9 : 0 < mm := of_decide_eq_true (b_of1 h)
      have hla := o3 (mm - 1) (by omega)
      refine V_aload_n0 X dX11_howMany_104 ?_
      refine V_getf X dX11_howMany_105 fX11_12 (by assumption) (by rfl) ?_
      refine V_aload_n0 X dX11_howMany_108 ?_
      refine V_getf X dX11_howMany_109 fX11_66 (by assumption) (by rfl) ?_
      refine V_aload_n0 X dX11_howMany_112 ?_
      refine V_getf X dX11_howMany_113 fX11_57 (by assumption) (by rfl) ?_
      refine V_cV0I X dX11_howMany_116 kX11_138 (t_Rlast l G ad ws 23 24 60 mm fl hl1 e9) (by assumption) (by rfl) (Nat.le_of_ble_eq_true rfl) ⟨⟨Nat.le_of_ble_eq_true rfl, Nat.le_of_ble_eq_true rfl⟩, Nat.le_of_ble_eq_true rfl, Nat.le_of_ble_eq_true rfl⟩ (fun r ws2 hc => ?_)
      obtain ⟨rfl, hw9⟩ := hc
      obtain rfl := hw9.symm
      rw [hl2 _ (by omega)]
      refine V_cV2I X dX11_howMany_119 kX11_131 (t_Lgap l G ad ws n K hL hkP kg _ (by omega) (by omega)) (by assumption) (by rfl) (Nat.le_of_ble_eq_true rfl) ⟨⟨Nat.le_of_ble_eq_true rfl, Nat.le_of_ble_eq_true rfl⟩, Nat.le_of_ble_eq_true rfl, Nat.le_of_ble_eq_true rfl⟩ (fun r ws2 hc => ?_)
      obtain ⟨rfl, hw9⟩ := hc
      obtain rfl := hw9.symm
      refine V_goto X 126 dX11_howMany_122 (by decide) ?_
      exact V_iret X dX11_howMany_126 ⟨by simp [howI, show ¬ mm = 0 by omega], rfl⟩
def r_count (n : Nat) (K : Nat → Nat) (kg mm : Nat) (Ln : Nat → Nat) (np nj pn hn tr : Nat) (x : Int32) : Int32 := if inR 8 x then howI n K kg mm Ln np nj pn hn tr (valI x) else (-102)
theorem p_count (l : Launch) (G : GX) (ad : Nat → Nat) (ws : List CE) (n : Nat) (K : Nat → Nat) (kg mm : Nat) (Ln : Nat → Nat) (np : Nat) (pg : Nat → Nat) (nj : Nat) (Js : Nat → JD) (pn : Nat) (Pe : Nat → Nat) (hn : Nat) (U : Nat → Nat) (tr kk km kp kh rd : Nat) (hC : RC ws n K kg mm Ln np pg nj Js pn Pe hn U tr kk km kp kh rd) (hkP : ad kP = G.2.2.2) (x : Int32) : Ct l G yX11_count cX11_count 2 (some .int) 6 0 0 ad ws [.ref 0, .int x] (pI ad (fun r ws2 => r = r_count n K kg mm Ln np nj pn hn tr x ∧ ws2 = ws)) := by
  refine Ct.of [some (.ref 0), some (.int x)] (by decide +kernel) (Nat.le_of_ble_eq_true rfl) rfl ?_
  intro p e s m args below meth c A X
  have hC0 := hC
  have z0 := hC.1
  refine V_iload_n1 X dX11_count_0 ?_
  refine V_if_lt X 10 dX11_count_1 (by decide) (fun h => ?_) (fun h => ?_)
  · refine V_bipushE X (-102) dX11_count_10 (by decide +kernel) ?_
    refine V_goto X 20 dX11_count_12 (by decide) ?_
    exact V_iret X dX11_count_20 ⟨by rw [r_count, inR_f0 h]; rfl, rfl⟩
  · refine V_iload_n1 X dX11_count_4 ?_
    refine V_bipushE X (nI 8) dX11_count_5 (by decide +kernel) ?_
    refine V_icmp_lt X 15 dX11_count_7 (by decide) (fun h2 => ?_) (fun h2 => ?_)
    · have e9 := inR_t h h2
      obtain ⟨w, hw, rfl⟩ := inR_of (by omega) e9
      refine V_aload_n0 X dX11_count_15 ?_
      refine V_iload_n1 X dX11_count_16 ?_
      refine V_cV1I X dX11_count_17 kX11_228 (t_howMany l G ad ws n K kg mm Ln np pg nj Js pn Pe hn U tr kk km kp kh rd hC0 hkP w hw) (by assumption) (by rfl) (Nat.le_of_ble_eq_true rfl) ⟨⟨Nat.le_of_ble_eq_true rfl, Nat.le_of_ble_eq_true rfl⟩, Nat.le_of_ble_eq_true rfl, Nat.le_of_ble_eq_true rfl⟩ (fun r ws2 hc => ?_)
      obtain ⟨rfl, hw9⟩ := hc
      obtain rfl := hw9.symm
      exact V_iret X dX11_count_20 ⟨by rw [r_count, e9, if_pos rfl, valI_nI (by omega)], rfl⟩
    · refine V_bipushE X (-102) dX11_count_10 (by decide +kernel) ?_
      refine V_goto X 20 dX11_count_12 (by decide) ?_
      exact V_iret X dX11_count_20 ⟨by rw [r_count, inR_f1 h2]; rfl, rfl⟩
