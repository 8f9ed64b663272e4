/-! digest -/
def say (h : Int64) (v : Int32) : Int64 := 31 * h + v.toInt64
def findH (n : Nat) (K : Nat → Nat) (kg mm : Nat) (Ln : Nat → Nat) (nj : Nat) (Js : Nat → JD) (pn : Nat) (Pe : Nat → Nat) (hn : Nat) (U : Nat → Nat) (h : Int64) : Int64 :=
  say (say (rowH (say (say (say h (r_strict n K mm kg nj Js Ln)) (r_gate n K mm kg nj Js Ln pn Pe)) (nI (bestT n K hn U).1)) (fun i => placeI hn (bestT n K hn U).2 (nI i)) 6) (nI (withinN n K (Ln (mm - 1)) 2))) (slipsI n K nj Js kg (Ln 0) kg)
set_option maxHeartbeats 2000000 in
theorem t_findings (l : Launch) (G : GX) (ad : Nat → Nat) (ws : List CE) (n : Nat) (K : Nat → Nat) (kg mm : Nat) (Ln : Nat → Nat) (np : Nat) (pg : Nat → Nat) (nj : Nat) (Js : Nat → JD) (pn : Nat) (Pe : Nat → Nat) (hn : Nat) (U : Nat → Nat) (tr kk km kp kh rd : Nat) (hC : RC ws n K kg mm Ln np pg nj Js pn Pe hn U tr kk km kp kh rd) (hkP : ad kP = G.2.2.2) (hrd : rd + 20 < 900000000) (hpn : ∀ j, j < nj → passN n K (Js j) (Ln (mm - 1)) kg < 2147483648) (hlen : (bestT n K hn U).2.length = hn) (hm : 0 < mm) (h0 : Int64) : Ct l G yX11_withFindings cX11_withFindings 4 (some .long) 10 0 0 ad ws [.ref 0, .long h0] (pL ad (fun r ws2 => r = findH n K kg mm Ln nj Js pn Pe hn U h0 ∧ RC ws2 n K kg mm Ln np pg nj Js pn Pe hn U tr kk km kp kh (rd + 20) ∧ fr (cen4 ++ (sea4 ++ srt4)) ws ws2)) := by
  refine Ct.of [some (.ref 0), some (.long h0), none, none] (by decide +kernel) (Nat.le_of_ble_eq_true rfl) rfl ?_
  intro p e s m args below meth c A X
  have hm' : ¬ mm = 0 := by omega
  have o1 := hC.2.2.2.2.2.2.2.2.2.2.2.1
  have o2 := hC.2.2.2.2.2.2.2.2.2.2.2.2.1
  have o3 := hC.2.2.2.2.2.2.2.2.2.2.2.2.2.1
  have o5 := hC.2.2.2.2.2.2.2.2.2.2.2.2.2.2.2.1
  have o6 := hC.2.2.2.2.2.2.2.2.2.2.2.2.2.2.2.2.1
  have h104 := pow_le4 o1
  have hla := o3 (mm - 1) (by omega)
  have z0 := hC.1
  refine V_ldc2 X dX11_withFindings_0 w_783 ?_
  refine V_lload_n1 X dX11_withFindings_3 ?_
  refine V_lmul X dX11_withFindings_4 ?_
  refine V_aload_n0 X dX11_withFindings_5 ?_
  refine V_cV0I X dX11_withFindings_6 kX11_186 (t_strictest l G ad ws n nj K Js kg mm Ln hC.obj hC.2.1 hC.2.2.1 hC.2.2.2.2.1 hC.2.2.2.2.2.2.2.2.1 hkP (by omega) hm _ rfl (by omega) hpn) (by assumption) (by rfl) (Nat.le_of_ble_eq_true rfl) ⟨⟨Nat.le_of_ble_eq_true rfl, Nat.le_of_ble_eq_true rfl⟩, Nat.le_of_ble_eq_true rfl, Nat.le_of_ble_eq_true rfl⟩ (fun r ws2 hc => ?_)
  obtain ⟨rfl, hCe, hf1⟩ := hc
  have hC1 := hC.cen hf1 hCe
  generalize ws2 = wa at hf1 hC1 ⊢
  have y0 := hC1.1
  refine V_i2l X dX11_withFindings_9 ?_
  refine V_ladd X dX11_withFindings_10 ?_
  refine V_lstore_n1 X dX11_withFindings_11 (Nat.le_of_ble_eq_true rfl) rfl ?_
  refine V_ldc2 X dX11_withFindings_12 w_783 ?_
  refine V_lload_n1 X dX11_withFindings_15 ?_
  refine V_lmul X dX11_withFindings_16 ?_
  refine V_aload_n0 X dX11_withFindings_17 ?_
  refine V_cV0I X dX11_withFindings_18 kX11_215 (t_taken l G ad wa n nj K Js kg mm Ln pn Pe hC1.obj hC1.2.1 hC1.2.2.1 hC1.2.2.2.1 hC1.2.2.2.2.2.2.2.2.1 hC1.2.2.2.2.2.2.2.2.2.1 hkP (by omega) hm _ rfl (by omega) (fun i hi => by have := o5 i hi; omega)) (by assumption) (by rfl) (Nat.le_of_ble_eq_true rfl) ⟨⟨Nat.le_of_ble_eq_true rfl, Nat.le_of_ble_eq_true rfl⟩, Nat.le_of_ble_eq_true rfl, Nat.le_of_ble_eq_true rfl⟩ (fun r ws2 hc => ?_)
  obtain ⟨rfl, hw9⟩ := hc
  obtain rfl := hw9.symm
  have y17 := hC1.2.2.2.2.2.2.1.choose_spec.choose_spec.choose_spec.choose_spec.choose_spec.1
  refine V_i2l X dX11_withFindings_21 ?_
  refine V_ladd X dX11_withFindings_22 ?_
  refine V_lstore_n1 X dX11_withFindings_23 (Nat.le_of_ble_eq_true rfl) rfl ?_
  refine V_aload_n0 X dX11_withFindings_24 ?_
  refine V_getf X dX11_withFindings_25 fX11_44 (by assumption) (by rfl) ?_
  refine V_aload_n0 X dX11_withFindings_28 ?_
  refine V_getf X dX11_withFindings_29 fX11_63 (by assumption) (by rfl) ?_
  refine V_cV1V X dX11_withFindings_32 kX11_218 (t_sort l G ad wa n K hC1.2.1 hkP hC1.2.2.2.2.2.2.1 hn U hC1.2.2.2.2.2.2.2.2.2.2.1 o6) (by assumption) (by rfl) (Nat.le_of_ble_eq_true rfl) ⟨⟨Nat.le_of_ble_eq_true rfl, Nat.le_of_ble_eq_true rfl⟩, Nat.le_of_ble_eq_true rfl, Nat.le_of_ble_eq_true rfl⟩ (fun ws2 hc => ?_)
  obtain ⟨hS2, hf2⟩ := hc
  have hC2 := hC1.srt hf2 hS2.toI
  generalize ws2 = wb at hS2 hf2 hC2 ⊢
  have x0 := hC2.1
  have x17 := hS2.2.2.1
  refine V_ldc2 X dX11_withFindings_35 w_783 ?_
  refine V_lload_n1 X dX11_withFindings_38 ?_
  refine V_lmul X dX11_withFindings_39 ?_
  refine V_aload_n0 X dX11_withFindings_40 ?_
  refine V_getf X dX11_withFindings_41 fX11_44 (by assumption) (by rfl) ?_
  refine V_cV0I X dX11_withFindings_44 kX11_222 (t_cost l G ad wb hn _ _ _ hS2) (by assumption) (by rfl) (Nat.le_of_ble_eq_true rfl) ⟨⟨Nat.le_of_ble_eq_true rfl, Nat.le_of_ble_eq_true rfl⟩, Nat.le_of_ble_eq_true rfl, Nat.le_of_ble_eq_true rfl⟩ (fun r ws2 hc => ?_)
  obtain ⟨rfl, hw9⟩ := hc
  obtain rfl := hw9.symm
  refine V_i2l X dX11_withFindings_47 ?_
  refine V_ladd X dX11_withFindings_48 ?_
  refine V_lstore_n1 X dX11_withFindings_49 (Nat.le_of_ble_eq_true rfl) rfl ?_
  refine V_iconstE X (nI 0) dX11_withFindings_50 (by decide +kernel) ?_
  refine V_istore_n3 X dX11_withFindings_51 (Nat.le_of_ble_eq_true rfl) rfl ?_
  refine V_loopP (fun k lv2 => ∃ i : Nat, i ≤ 6 ∧ i + k = 6 ∧ lv2 = [some (.ref 0), some (.long (rowH (say (say (say h0 (r_strict n K mm kg nj Js Ln)) (r_gate n K mm kg nj Js Ln pn Pe)) (nI (bestT n K hn U).1)) (fun i => placeI hn (bestT n K hn U).2 (nI i)) i)), none, some (.int (nI i))]) 6 ⟨0, by omega, by omega, by rw [r_strict, if_neg hm', r_gate, if_neg hm']; rfl⟩ ?_
  rintro k _ ⟨i, hi, hik, rfl⟩ ih
  refine V_iload_n3 X dX11_withFindings_52 ?_
  refine V_bipushE X (nI 6) dX11_withFindings_53 (by decide +kernel) ?_
  refine V_icmp_ge X 80 dX11_withFindings_55 (by decide) (fun h => ?_) (fun h => ?_)
  · have e9 : i = 6 := by have := (nI_leI (a := 6) (b := i) (by omega) (by omega)).mp h; omega
    subst e9
    refine V_ldc2 X dX11_withFindings_80 w_783 ?_
    refine V_lload_n1 X dX11_withFindings_83 ?_
    refine V_lmul X dX11_withFindings_84 ?_
    refine V_aload_n0 X dX11_withFindings_85 ?_
    refine V_iconstE X (nI 2) dX11_withFindings_86 (by decide +kernel) ?_
    refine V_cV1I X dX11_withFindings_87 kX11_208 (t_within l G ad wb n K kg mm Ln hC2.obj hC2.2.1 hC2.2.2.2.2.1 hC2.2.2.2.2.2.2.2.2.1 hkP hm _ rfl (by omega) 2 (by omega)) (by assumption) (by rfl) (Nat.le_of_ble_eq_true rfl) ⟨⟨Nat.le_of_ble_eq_true rfl, Nat.le_of_ble_eq_true rfl⟩, Nat.le_of_ble_eq_true rfl, Nat.le_of_ble_eq_true rfl⟩ (fun r ws2 hc => ?_)
    obtain ⟨rfl, hCe3, hf3⟩ := hc
    have hC3 := hC2.cen hf3 hCe3
    generalize ws2 = wc at hf3 hC3 ⊢
    have v0 := hC3.1
    obtain ⟨kr, ke, rd2, L2, ty, ft, fe, hr2, hSR⟩ := hC3.2.2.2.2.2.1
    have v13 := hSR.obj
    obtain ⟨fl, hR1, hR2⟩ := hC3.2.2.2.2.2.2.2.2.1
    have v23 := hR1.1
    have hm60 := hR1.2.2.1
    refine V_i2l X dX11_withFindings_90 ?_
    refine V_ladd X dX11_withFindings_91 ?_
    refine V_lstore_n1 X dX11_withFindings_92 (Nat.le_of_ble_eq_true rfl) rfl ?_
    refine V_ldc2 X dX11_withFindings_93 w_783 ?_
    refine V_lload_n1 X dX11_withFindings_96 ?_
    refine V_lmul X dX11_withFindings_97 ?_
    refine V_aload_n0 X dX11_withFindings_98 ?_
    refine V_getf X dX11_withFindings_99 fX11_37 (by assumption) (by rfl) ?_
    refine V_aload_n0 X dX11_withFindings_102 ?_
    refine V_getf X dX11_withFindings_103 fX11_57 (by assumption) (by rfl) ?_
    refine V_iconstE X (nI 0) dX11_withFindings_106 (by decide +kernel) ?_
    refine V_cV1I X dX11_withFindings_107 kX11_147 (t_Rget l G ad wc 23 24 60 mm fl hR1 _) (by assumption) (by rfl) (Nat.le_of_ble_eq_true rfl) ⟨⟨Nat.le_of_ble_eq_true rfl, Nat.le_of_ble_eq_true rfl⟩, Nat.le_of_ble_eq_true rfl, Nat.le_of_ble_eq_true rfl⟩ (fun r ws2 hc => ?_)
    obtain ⟨rfl, hw9⟩ := hc
    obtain rfl := hw9.symm
    rw [getR_nI (by omega) hm, hR2 0 hm]
    refine V_aload_n0 X dX11_withFindings_110 ?_
    refine V_getf X dX11_withFindings_111 fX11_66 (by assumption) (by rfl) ?_
    refine V_aload_n0 X dX11_withFindings_114 ?_
    refine V_getf X dX11_withFindings_115 fX11_66 (by assumption) (by rfl) ?_
    refine V_cV3I X dX11_withFindings_118 kX11_189 (t_few l G ad wc n nj K Js kr ke rd2 L2 ty ft fe hC3.2.1 hC3.2.2.1 hC3.2.2.2.1 hSR (by omega) hkP (Ln 0) kg kg (o3 0 hm) o2 (by omega)) (by assumption) (by rfl) (Nat.le_of_ble_eq_true rfl) ⟨⟨Nat.le_of_ble_eq_true rfl, Nat.le_of_ble_eq_true rfl⟩, Nat.le_of_ble_eq_true rfl, Nat.le_of_ble_eq_true rfl⟩ (fun r ws2 hc => ?_)
    obtain ⟨rfl, ⟨rd3, L3, hr3, hS3⟩, hf4⟩ := hc
    have hC4 := hC3.sea (rd2 := rd + 20) hf4 ⟨kr, ke, rd3, L3, ty, ft, fe, by omega, hS3⟩ hrd
    refine V_i2l X dX11_withFindings_121 ?_
    refine V_ladd X dX11_withFindings_122 ?_
    exact V_lret X dX11_withFindings_123 ⟨rfl, hC4, (((hf1.mono (by decide)).trans (hf2.mono (by decide))).trans (hf3.mono (by decide))).trans (hf4.mono (by decide))⟩
  · have e9 : i < 6 := by
      rcases Nat.lt_or_ge i 6 with q9 | q9
      · exact q9
      · exact absurd ((nI_leI (a := 6) (b := i) (by omega) (by omega)).mpr q9) h
    refine V_ldc2 X dX11_withFindings_58 w_783 ?_
    refine V_lload_n1 X dX11_withFindings_61 ?_
    refine V_lmul X dX11_withFindings_62 ?_
    refine V_aload_n0 X dX11_withFindings_63 ?_
    refine V_getf X dX11_withFindings_64 fX11_44 (by assumption) (by rfl) ?_
    refine V_iload_n3 X dX11_withFindings_67 ?_
    refine V_cV1I X dX11_withFindings_68 kX11_225 (t_place l G ad wb hn _ _ _ hS2 hlen _) (by assumption) (by rfl) (Nat.le_of_ble_eq_true rfl) ⟨⟨Nat.le_of_ble_eq_true rfl, Nat.le_of_ble_eq_true rfl⟩, Nat.le_of_ble_eq_true rfl, Nat.le_of_ble_eq_true rfl⟩ (fun r ws2 hc => ?_)
    obtain ⟨rfl, hw9⟩ := hc
    obtain rfl := hw9.symm
    refine V_i2l X dX11_withFindings_71 ?_
    refine V_ladd X dX11_withFindings_72 ?_
    refine V_lstore_n1 X dX11_withFindings_73 (Nat.le_of_ble_eq_true rfl) rfl ?_
    refine V_iinc_3 X dX11_withFindings_74 (Nat.le_of_ble_eq_true rfl) rfl (inc1 _) ?_
    refine V_goto X 52 dX11_withFindings_77 (by decide) ?_
    exact ih (k - 1) _ (by omega) ⟨i + 1, by omega, by omega, rfl⟩
def digH (n : Nat) (K : Nat → Nat) (kg mm : Nat) (Ln : Nat → Nat) (np : Nat) (pg : Nat → Nat) (nj : Nat) (Js : Nat → JD) (pn : Nat) (Pe : Nat → Nat) (hn : Nat) (U : Nat → Nat) (tr : Nat) : Int64 :=
  let h1 := rowH 619 (fun i => tellI K kg mm Ln (i / 3) (i % 3)) (3 * n)
  let h2 := rowH h1 (fun i => nI (Ln i)) mm
  let h3 := rowH h2 (fun i => markI n (Js (i / 6)) (i % 6)) (6 * nj)
  let h4 := if mm = 0 then h3 else findH n K kg mm Ln nj Js pn Pe hn U h3
  let h5 := rowH h4 (fun i => nI (pg i)) np
  rowH h5 (fun w => howI n K kg mm Ln np nj pn hn tr w) 8
theorem rowH_congr {h : Int64} {f g : Nat → Int32} : ∀ {n : Nat}, (∀ i, i < n → f i = g i) → rowH h f n = rowH h g n
  | 0, _ => rfl
  | n + 1, e => by rw [rowH, rowH, rowH_congr (fun i hi => e i (by omega)), e n (by omega)]
set_option maxHeartbeats 2000000 in
theorem p_digest (l : Launch) (G : GX) (ad : Nat → Nat) (ws : List CE) (n : Nat) (K : Nat → Nat) (kg mm : Nat) (Ln : Nat → Nat) (np : Nat) (pg : Nat → Nat) (nj : Nat) (Js : Nat → JD) (pn : Nat) (Pe : Nat → Nat) (hn : Nat) (U : Nat → Nat) (tr kk km kp kh rd : Nat) (hC : RC ws n K kg mm Ln np pg nj Js pn Pe hn U tr kk km kp kh rd) (hkP : ad kP = G.2.2.2) (hrd : rd + 20 < 900000000) (hpn : 0 < mm → ∀ j, j < nj → passN n K (Js j) (Ln (mm - 1)) kg < 2147483648) (hlen : (bestT n K hn U).2.length = hn) : Ct l G yX11_digest cX11_digest 5 (some .long) 11 0 0 ad ws [.ref 0] (pL ad (fun r ws2 => r = digH n K kg mm Ln np pg nj Js pn Pe hn U tr ∧ RC ws2 n K kg mm Ln np pg nj Js pn Pe hn U tr kk km kp kh (rd + 20) ∧ fr (cen4 ++ (sea4 ++ srt4)) ws ws2)) := by
  refine Ct.of [some (.ref 0), none, none, none, none] (by decide +kernel) (Nat.le_of_ble_eq_true rfl) rfl ?_
  intro p e s m args below meth c A X
  have hC0 : RC ws n K kg mm Ln np pg nj Js pn Pe hn U tr kk km kp kh (rd + 20) := hC.sea fr.rfl (by obtain ⟨a, b, c, d, e, f, g, h1, h2⟩ := hC.2.2.2.2.2.1; exact ⟨a, b, c, d, e, f, g, by omega, h2⟩) hrd
  have o1 := hC.2.2.2.2.2.2.2.2.2.2.2.1
  have o2 := hC.2.2.2.2.2.2.2.2.2.2.2.2.1
  have o3 := hC.2.2.2.2.2.2.2.2.2.2.2.2.2.1
  have h104 := pow_le4 o1
  have hL := hC.2.1
  have hM := hC.2.2.1
  have hRl := hC.2.2.2.2.2.2.2.2.1
  have z0 := hC.1
  have z1 := hL.2.1
  have z4 := hM.1
  have hnj := hM.2.1
  have finish : ∀ (wa : List CE) (h5 : Int64) (w4 : Option Value), RC wa n K kg mm Ln np pg nj Js pn Pe hn U tr kk km kp kh (rd + 20) → fr (cen4 ++ (sea4 ++ srt4)) ws wa → digH n K kg mm Ln np pg nj Js pn Pe hn U tr = rowH (rowH h5 (fun i => nI (pg i)) np) (fun w => howI n K kg mm Ln np nj pn hn tr w) 8 → ∀ w3 : Option Value, V p l e (rmm 11 0 0) s m args below meth c 0 0 (MQ below (QQ G A (pL ad (fun r ws2 => r = digH n K kg mm Ln np pg nj Js pn Pe hn U tr ∧ RC ws2 n K kg mm Ln np pg nj Js pn Pe hn U tr kk km kp kh (rd + 20) ∧ fr (cen4 ++ (sea4 ++ srt4)) ws ws2))) args s 0 0 A) G A 5 ad wa 128 [some (.ref 0), some (.long h5), none, w3, w4] [] := by
    intro wa h5 w4 hCa hfa hres w3
    have y0 := hCa.1
    obtain ⟨fg, hg1, hg2⟩ := hCa.2.2.2.2.2.2.2.1
    have y21 := hg1.1
    refine V_lload_n1 X dX11_digest_128 ?_
    refine V_aload_n0 X dX11_digest_129 ?_
    refine V_getf X dX11_digest_130 fX11_53 (by assumption) (by rfl) ?_
    refine V_cS2L X dX11_digest_133 kX11_235 (t_withRow l G ad wa h5 21 22 10 np fg hg1) (Nat.le_of_ble_eq_true rfl) ⟨⟨Nat.le_of_ble_eq_true rfl, Nat.le_of_ble_eq_true rfl⟩, Nat.le_of_ble_eq_true rfl, Nat.le_of_ble_eq_true rfl⟩ (fun r ws2 hc => ?_)
    obtain ⟨rfl, hw9⟩ := hc
    obtain rfl := hw9.symm
    rw [rowH_congr (fun i hi => hg2 i hi)]
    refine V_lstore_n1 X dX11_digest_136 (Nat.le_of_ble_eq_true rfl) rfl ?_
    refine V_iconstE X (nI 0) dX11_digest_137 (by decide +kernel) ?_
    refine V_istore_n3 X dX11_digest_138 (Nat.le_of_ble_eq_true rfl) rfl ?_
    refine V_loopP (fun k lv2 => ∃ i : Nat, i ≤ 8 ∧ i + k = 8 ∧ lv2 = [some (.ref 0), some (.long (rowH (rowH h5 (fun i => nI (pg i)) np) (fun w => howI n K kg mm Ln np nj pn hn tr w) i)), none, some (.int (nI i)), w4]) 8 ⟨0, by omega, by omega, rfl⟩ ?_
    rintro k _ ⟨i, hi, hik, rfl⟩ ih
    refine V_iload_n3 X dX11_digest_139 ?_
    refine V_bipushE X (nI 8) dX11_digest_140 (by decide +kernel) ?_
    refine V_icmp_ge X 164 dX11_digest_142 (by decide) (fun h => ?_) (fun h => ?_)
    · have e9 : i = 8 := by have := (nI_leI (a := 8) (b := i) (by omega) (by omega)).mp h; omega
      subst e9
      refine V_lload_n1 X dX11_digest_164 ?_
      exact V_lret X dX11_digest_165 ⟨hres.symm, hCa, hfa⟩
    · have e9 : i < 8 := by
        rcases Nat.lt_or_ge i 8 with q9 | q9
        · exact q9
        · exact absurd ((nI_leI (a := 8) (b := i) (by omega) (by omega)).mpr q9) h
      refine V_ldc2 X dX11_digest_145 w_783 ?_
      refine V_lload_n1 X dX11_digest_148 ?_
      refine V_lmul X dX11_digest_149 ?_
      refine V_aload_n0 X dX11_digest_150 ?_
      refine V_iload_n3 X dX11_digest_151 ?_
      refine V_cV1I X dX11_digest_152 kX11_228 (t_howMany l G ad wa n K kg mm Ln np pg nj Js pn Pe hn U tr kk km kp kh (rd + 20) hCa hkP i e9) (by assumption) (by rfl) (Nat.le_of_ble_eq_true rfl) ⟨⟨Nat.le_of_ble_eq_true rfl, Nat.le_of_ble_eq_true rfl⟩, Nat.le_of_ble_eq_true rfl, Nat.le_of_ble_eq_true rfl⟩ (fun r ws2 hc => ?_)
      obtain ⟨rfl, hw9⟩ := hc
      obtain rfl := hw9.symm
      refine V_i2l X dX11_digest_155 ?_
      refine V_ladd X dX11_digest_156 ?_
      refine V_lstore_n1 X dX11_digest_157 (Nat.le_of_ble_eq_true rfl) rfl ?_
      refine V_iinc_3 X dX11_digest_158 (Nat.le_of_ble_eq_true rfl) rfl (inc1 _) ?_
      refine V_goto X 139 dX11_digest_161 (by decide) ?_
      exact ih (k - 1) _ (by omega) ⟨i + 1, by omega, by omega, rfl⟩
  refine V_ldc2 X dX11_digest_0 w_782 ?_
  refine V_lstore_n1 X dX11_digest_3 (Nat.le_of_ble_eq_true rfl) rfl ?_
  refine V_iconstE X (nI 0) dX11_digest_4 (by decide +kernel) ?_
  refine V_istore_n3 X dX11_digest_5 (Nat.le_of_ble_eq_true rfl) rfl ?_
  refine V_loopP (fun k lv2 => ∃ (f : Nat) (w4 : Option Value), f + k = n ∧ lv2 = [some (.ref 0), some (.long (rowH 619 (fun i => tellI K kg mm Ln (i / 3) (i % 3)) (3 * f))), none, some (.int (nI f)), w4]) n ⟨0, none, by omega, rfl⟩ ?_
  rintro k _ ⟨f, w4, hf, rfl⟩ ih
  refine V_iload_n3 X dX11_digest_6 ?_
  refine V_aload_n0 X dX11_digest_7 ?_
  refine V_getf X dX11_digest_8 fX11_12 (by assumption) (by rfl) ?_
  refine V_cV0I X dX11_digest_11 kX11_122 (t_Lsize l G ad ws n K hL) (by assumption) (by rfl) (Nat.le_of_ble_eq_true rfl) ⟨⟨Nat.le_of_ble_eq_true rfl, Nat.le_of_ble_eq_true rfl⟩, Nat.le_of_ble_eq_true rfl, Nat.le_of_ble_eq_true rfl⟩ (fun r ws2 hc => ?_)
  obtain ⟨rfl, hw9⟩ := hc
  obtain rfl := hw9.symm
  refine V_icmp_ge X 53 dX11_digest_14 (by decide) (fun h => ?_) (fun h => ?_)
  · have e9 : f = n := by have := (nI_leI (by omega) (by omega)).mp h; omega
    rw [e9]
    obtain ⟨fl, hl1, hl2⟩ := hRl
    have z23 := hl1.1
    refine V_lload_n1 X dX11_digest_53 ?_
    refine V_aload_n0 X dX11_digest_54 ?_
    refine V_getf X dX11_digest_55 fX11_57 (by assumption) (by rfl) ?_
    refine V_cS2L X dX11_digest_58 kX11_235 (t_withRow l G ad ws _ 23 24 60 mm fl hl1) (Nat.le_of_ble_eq_true rfl) ⟨⟨Nat.le_of_ble_eq_true rfl, Nat.le_of_ble_eq_true rfl⟩, Nat.le_of_ble_eq_true rfl, Nat.le_of_ble_eq_true rfl⟩ (fun r ws2 hc => ?_)
    obtain ⟨rfl, hw9⟩ := hc
    obtain rfl := hw9.symm
    rw [rowH_congr (fun i hi => hl2 i hi)]
    refine V_lstore_n1 X dX11_digest_61 (Nat.le_of_ble_eq_true rfl) rfl ?_
    refine V_iconstE X (nI 0) dX11_digest_62 (by decide +kernel) ?_
    refine V_istore_n3 X dX11_digest_63 (Nat.le_of_ble_eq_true rfl) rfl ?_
    generalize hh2 : rowH (rowH 619 (fun i => tellI K kg mm Ln (i / 3) (i % 3)) (3 * n)) (fun i => nI (Ln i)) mm = h2
    refine V_loopP (fun k lv2 => ∃ (j : Nat) (w4 : Option Value), j + k = nj ∧ lv2 = [some (.ref 0), some (.long (rowH h2 (fun i => markI n (Js (i / 6)) (i % 6)) (6 * j))), none, some (.int (nI j)), w4]) nj ⟨0, w4, by omega, rfl⟩ ?_
    rintro k2 _ ⟨j, w4, hj, rfl⟩ ih2
    refine V_iload_n3 X dX11_digest_64 ?_
    refine V_aload_n0 X dX11_digest_65 ?_
    refine V_getf X dX11_digest_66 fX11_21 (by assumption) (by rfl) ?_
    refine V_cV0I X dX11_digest_69 kX11_239 (t_Bsize l G ad ws n nj Js hM) (by assumption) (by rfl) (Nat.le_of_ble_eq_true rfl) ⟨⟨Nat.le_of_ble_eq_true rfl, Nat.le_of_ble_eq_true rfl⟩, Nat.le_of_ble_eq_true rfl, Nat.le_of_ble_eq_true rfl⟩ (fun r ws2 hc => ?_)
    obtain ⟨rfl, hw9⟩ := hc
    obtain rfl := hw9.symm
    refine V_icmp_ge X 115 dX11_digest_72 (by decide) (fun h3 => ?_) (fun h3 => ?_)
    · have e10 : j = nj := by have := (nI_leI (by omega) (by omega)).mp h3; omega
      rw [e10]
      generalize hh3 : rowH h2 (fun i => markI n (Js (i / 6)) (i % 6)) (6 * nj) = h3v
      refine V_aload_n0 X dX11_digest_115 ?_
      refine V_cV0I X dX11_digest_116 kX11_89 (t_hasLine l G ad ws kg mm Ln hC.obj hC.2.2.2.2.2.2.2.2.1) (by assumption) (by rfl) (Nat.le_of_ble_eq_true rfl) ⟨⟨Nat.le_of_ble_eq_true rfl, Nat.le_of_ble_eq_true rfl⟩, Nat.le_of_ble_eq_true rfl, Nat.le_of_ble_eq_true rfl⟩ (fun r ws2 hc => ?_)
      obtain ⟨rfl, hw9⟩ := hc
      obtain rfl := hw9.symm
      refine V_if_eq X 128 dX11_digest_119 (by decide) (fun h4 => ?_) (fun h4 => ?_)
      · have e11 : mm = 0 := by have := of_decide_eq_false (b_of0 h4); omega
        exact finish ws h3v w4 hC0 fr.rfl (by unfold digH; simp only; rw [hh2, hh3, if_pos e11]) _
      · have e11 : 0 < mm := of_decide_eq_true (b_of1 h4)
        refine V_aload_n0 X dX11_digest_122 ?_
        refine V_lload_n1 X dX11_digest_123 ?_
        refine V_cV1L X dX11_digest_124 kX11_240 (t_findings l G ad ws n K kg mm Ln np pg nj Js pn Pe hn U tr kk km kp kh rd hC hkP hrd (hpn e11) hlen e11 h3v) (by assumption) (by rfl) (Nat.le_of_ble_eq_true rfl) ⟨⟨Nat.le_of_ble_eq_true rfl, Nat.le_of_ble_eq_true rfl⟩, Nat.le_of_ble_eq_true rfl, Nat.le_of_ble_eq_true rfl⟩ (fun r ws2 hc => ?_)
        obtain ⟨rfl, hC5, hf5⟩ := hc
        refine V_lstore_n1 X dX11_digest_127 (Nat.le_of_ble_eq_true rfl) rfl ?_
        exact finish ws2 _ w4 hC5 hf5 (by unfold digH; simp only; rw [hh2, hh3, if_neg (by omega)]) _
    · have e10 : j < nj := by
        rcases Nat.lt_or_ge j nj with q9 | q9
        · exact q9
        · exact absurd ((nI_leI (by omega) (by omega)).mpr q9) h3
      refine V_iconstE X (nI 0) dX11_digest_75 (by decide +kernel) ?_
      refine V_istore_4 X dX11_digest_76 (Nat.le_of_ble_eq_true rfl) rfl ?_
      refine V_loopP (fun k3 lv2 => ∃ w : Nat, w ≤ 6 ∧ w + k3 = 6 ∧ lv2 = [some (.ref 0), some (.long (rowH h2 (fun i => markI n (Js (i / 6)) (i % 6)) (6 * j + w))), none, some (.int (nI j)), some (.int (nI w))]) 6 ⟨0, by omega, by omega, rfl⟩ ?_
      rintro k3 _ ⟨w, hw, hwk, rfl⟩ ih3
      refine V_iload_4 X dX11_digest_78 ?_
      refine V_bipushE X (nI 6) dX11_digest_80 (by decide +kernel) ?_
      refine V_icmp_ge X 109 dX11_digest_82 (by decide) (fun h4 => ?_) (fun h4 => ?_)
      · have e11 : w = 6 := by have := (nI_leI (a := 6) (b := w) (by omega) (by omega)).mp h4; omega
        subst e11
        refine V_iinc_3 X dX11_digest_109 (Nat.le_of_ble_eq_true rfl) rfl (inc1 _) ?_
        refine V_goto X 64 dX11_digest_112 (by decide) ?_
        exact ih2 (k2 - 1) _ (by omega) ⟨j + 1, _, by omega, rfl⟩
      · have e11 : w < 6 := by
          rcases Nat.lt_or_ge w 6 with q9 | q9
          · exact q9
          · exact absurd ((nI_leI (a := 6) (b := w) (by omega) (by omega)).mpr q9) h4
        refine V_ldc2 X dX11_digest_85 w_783 ?_
        refine V_lload_n1 X dX11_digest_88 ?_
        refine V_lmul X dX11_digest_89 ?_
        refine V_aload_n0 X dX11_digest_90 ?_
        refine V_getf X dX11_digest_91 fX11_21 (by assumption) (by rfl) ?_
        refine V_iload_n3 X dX11_digest_94 ?_
        refine V_iload_4 X dX11_digest_95 ?_
        refine V_cV2I X dX11_digest_97 kX11_175 (t_mark l G ad ws n nj Js hM j w e10 e11) (by assumption) (by rfl) (Nat.le_of_ble_eq_true rfl) ⟨⟨Nat.le_of_ble_eq_true rfl, Nat.le_of_ble_eq_true rfl⟩, Nat.le_of_ble_eq_true rfl, Nat.le_of_ble_eq_true rfl⟩ (fun r ws2 hc => ?_)
        obtain ⟨rfl, hw9⟩ := hc
        obtain rfl := hw9.symm
        have em : markI n (Js j) w = markI n (Js ((6 * j + w) / 6)) ((6 * j + w) % 6) := by rw [show (6 * j + w) / 6 = j by omega, show (6 * j + w) % 6 = w by omega]
        rw [em]
        refine V_i2l X dX11_digest_100 ?_
        refine V_ladd X dX11_digest_101 ?_
        refine V_lstore_n1 X dX11_digest_102 (Nat.le_of_ble_eq_true rfl) rfl ?_
        refine V_iinc_4 X dX11_digest_103 (Nat.le_of_ble_eq_true rfl) rfl (inc1 _) ?_
        refine V_goto X 78 dX11_digest_106 (by decide) ?_
        exact ih3 (k3 - 1) _ (by omega) ⟨w + 1, by omega, by omega, rfl⟩
  · have e9 : f < n := by
      rcases Nat.lt_or_ge f n with q9 | q9
      · exact q9
      · exact absurd ((nI_leI (by omega) (by omega)).mpr q9) h
    refine V_iconstE X (nI 0) dX11_digest_17 (by decide +kernel) ?_
    refine V_istore_4 X dX11_digest_18 (Nat.le_of_ble_eq_true rfl) rfl ?_
    refine V_loopP (fun k3 lv2 => ∃ w : Nat, w ≤ 3 ∧ w + k3 = 3 ∧ lv2 = [some (.ref 0), some (.long (rowH 619 (fun i => tellI K kg mm Ln (i / 3) (i % 3)) (3 * f + w))), none, some (.int (nI f)), some (.int (nI w))]) 3 ⟨0, by omega, by omega, rfl⟩ ?_
    rintro k3 _ ⟨w, hw, hwk, rfl⟩ ih3
    refine V_iload_4 X dX11_digest_20 ?_
    refine V_iconstE X (nI 3) dX11_digest_22 (by decide +kernel) ?_
    refine V_icmp_ge X 47 dX11_digest_23 (by decide) (fun h4 => ?_) (fun h4 => ?_)
    · have e11 : w = 3 := by have := (nI_leI (a := 3) (b := w) (by omega) (by omega)).mp h4; omega
      subst e11
      refine V_iinc_3 X dX11_digest_47 (Nat.le_of_ble_eq_true rfl) rfl (inc1 _) ?_
      refine V_goto X 6 dX11_digest_50 (by decide) ?_
      exact ih (k - 1) _ (by omega) ⟨f + 1, _, by omega, rfl⟩
    · have e11 : w < 3 := by
        rcases Nat.lt_or_ge w 3 with q9 | q9
        · exact q9
        · exact absurd ((nI_leI (a := 3) (b := w) (by omega) (by omega)).mpr q9) h4
      refine V_ldc2 X dX11_digest_26 w_783 ?_
      refine V_lload_n1 X dX11_digest_29 ?_
      refine V_lmul X dX11_digest_30 ?_
      refine V_aload_n0 X dX11_digest_31 ?_
      refine V_iload_n3 X dX11_digest_32 ?_
      refine V_iload_4 X dX11_digest_33 ?_
      refine V_cV2I X dX11_digest_35 kX11_111 (t_tellAbout l G ad ws n K kg mm Ln hC.obj hL hRl hkP (by omega) (fun i hi => by have := o3 i hi; omega) f w (by omega) e11) (by assumption) (by rfl) (Nat.le_of_ble_eq_true rfl) ⟨⟨Nat.le_of_ble_eq_true rfl, Nat.le_of_ble_eq_true rfl⟩, Nat.le_of_ble_eq_true rfl, Nat.le_of_ble_eq_true rfl⟩ (fun r ws2 hc => ?_)
      obtain ⟨rfl, hw9⟩ := hc
      obtain rfl := hw9.symm
      have em : tellI K kg mm Ln f w = tellI K kg mm Ln ((3 * f + w) / 3) ((3 * f + w) % 3) := by rw [show (3 * f + w) / 3 = f by omega, show (3 * f + w) % 3 = w by omega]
      rw [em]
      refine V_i2l X dX11_digest_38 ?_
      refine V_ladd X dX11_digest_39 ?_
      refine V_lstore_n1 X dX11_digest_40 (Nat.le_of_ble_eq_true rfl) rfl ?_
      refine V_iinc_4 X dX11_digest_41 (Nat.le_of_ble_eq_true rfl) rfl (inc1 _) ?_
      refine V_goto X 20 dX11_digest_44 (by decide) ?_
      exact ih3 (k3 - 1) _ (by omega) ⟨w + 1, by omega, by omega, rfl⟩
