/-! more calls that change nothing that is told -/
def r_lets (n : Nat) (K : Nat → Nat) (mm kg nj : Nat) (Js : Nat → JD) (x z : Int32) : Int32 := if mm = 0 then (-103) else if inR (10 ^ n) x && inR (10 ^ n) z then nI (cnt (fun j => letsJ n K (Js j) (valI x) (valI z) kg) nj) else (-102)
theorem p_lets (l : Launch) (G : GX) (ad : Nat → Nat) (ws : List CE) (n : Nat) (K : Nat → Nat) (kg mm : Nat) (Ln : Nat → Nat) (np : Nat) (pg : Nat → Nat) (nj : Nat) (Js : Nat → JD) (pn : Nat) (Pe : Nat → Nat) (hn : Nat) (U : Nat → Nat) (tr kk km kp kh rd : Nat) (hC : RC ws n K kg mm Ln np pg nj Js pn Pe hn U tr kk km kp kh rd) (hkP : ad kP = G.2.2.2) (x z : Int32) : Ct l G yX11_lets cX11_lets 3 (some .int) 6 0 0 ad ws [.ref 0, .int x, .int z] (pI ad (fun r ws2 => r = r_lets n K mm kg nj Js x z ∧ ws2 = ws)) := by
  refine Ct.of [some (.ref 0), some (.int x), some (.int z)] (by decide +kernel) (Nat.le_of_ble_eq_true rfl) rfl ?_
  intro p e s m args below meth c A X
  have hO := hC.obj
  obtain ⟨z0, hL, hM, hB, hCe, hSe, hSo, hRg, hRl, hRp, hRh, o1, o2, o3, o4, o5, o6, o7, o8, o9, o10, o11, o12, o13, o14⟩ := hC
  have h104 := pow_le4 o1
  have z1 := hL.2.1
  have z4 := hM.1
  refine V_aload_n0 X dX11_lets_0 ?_
  refine V_cV0I X dX11_lets_1 kX11_89 (t_hasLine l G ad ws kg mm Ln hO hRl) (by assumption) (by rfl) (Nat.le_of_ble_eq_true rfl) ⟨⟨Nat.le_of_ble_eq_true rfl, Nat.le_of_ble_eq_true rfl⟩, Nat.le_of_ble_eq_true rfl, Nat.le_of_ble_eq_true rfl⟩ (fun r ws2 hc => ?_)
  obtain ⟨rfl, hw9⟩ := hc
  obtain rfl := hw9.symm
  refine V_if_ne X 10 dX11_lets_4 (by decide) (fun h => ?_) (fun h => ?_)
  · have e9 : ¬ mm = 0 := by have := of_decide_eq_true (b_of1 h); omega
    refine V_aload_n0 X dX11_lets_10 ?_
    refine V_getf X dX11_lets_11 fX11_12 (by assumption) (by rfl) ?_
    refine V_iload_n1 X dX11_lets_14 ?_
    refine V_cV1I X dX11_lets_15 kX11_128 (t_LisP l G ad ws n K hL hkP x) (by assumption) (by rfl) (Nat.le_of_ble_eq_true rfl) ⟨⟨Nat.le_of_ble_eq_true rfl, Nat.le_of_ble_eq_true rfl⟩, Nat.le_of_ble_eq_true rfl, Nat.le_of_ble_eq_true rfl⟩ (fun r ws2 hc => ?_)
    obtain ⟨rfl, hw9⟩ := hc
    obtain rfl := hw9.symm
    refine V_if_eq X 32 dX11_lets_18 (by decide) (fun h2 => ?_) (fun h2 => ?_)
    · have e8 := b_of0 h2
      refine V_bipushE X (-102) dX11_lets_32 (by decide +kernel) ?_
      exact V_iret X dX11_lets_34 ⟨by simp [r_lets, e9, e8], rfl⟩
    · have e8 := b_of1 h2
      refine V_aload_n0 X dX11_lets_21 ?_
      refine V_getf X dX11_lets_22 fX11_12 (by assumption) (by rfl) ?_
      refine V_iload_n2 X dX11_lets_25 ?_
      refine V_cV1I X dX11_lets_26 kX11_128 (t_LisP l G ad ws n K hL hkP z) (by assumption) (by rfl) (Nat.le_of_ble_eq_true rfl) ⟨⟨Nat.le_of_ble_eq_true rfl, Nat.le_of_ble_eq_true rfl⟩, Nat.le_of_ble_eq_true rfl, Nat.le_of_ble_eq_true rfl⟩ (fun r ws2 hc => ?_)
      obtain ⟨rfl, hw9⟩ := hc
      obtain rfl := hw9.symm
      refine V_if_ne X 35 dX11_lets_29 (by decide) (fun h3 => ?_) (fun h3 => ?_)
      · have e7 := b_of1 h3
        obtain ⟨a, ha, rfl⟩ := inR_of (by omega) e8
        obtain ⟨b, hb, rfl⟩ := inR_of (by omega) e7
        refine V_aload_n0 X dX11_lets_35 ?_
        refine V_getf X dX11_lets_36 fX11_21 (by assumption) (by rfl) ?_
        refine V_iload_n1 X dX11_lets_39 ?_
        refine V_iload_n2 X dX11_lets_40 ?_
        refine V_aload_n0 X dX11_lets_41 ?_
        refine V_getf X dX11_lets_42 fX11_66 (by assumption) (by rfl) ?_
        refine V_cV3I X dX11_lets_45 kX11_178 (t_willing l G ad ws n nj K Js hL hM hB a b kg (by omega) (by omega) (by omega)) (by assumption) (by rfl) (Nat.le_of_ble_eq_true rfl) ⟨⟨Nat.le_of_ble_eq_true rfl, Nat.le_of_ble_eq_true rfl⟩, Nat.le_of_ble_eq_true rfl, Nat.le_of_ble_eq_true rfl⟩ (fun r ws2 hc => ?_)
        obtain ⟨rfl, hw9⟩ := hc
        obtain rfl := hw9.symm
        refine V_cS1I X dX11_lets_48 kX11_181 (t_bc l G ad ws _) (Nat.le_of_ble_eq_true rfl) ⟨⟨Nat.le_of_ble_eq_true rfl, Nat.le_of_ble_eq_true rfl⟩, Nat.le_of_ble_eq_true rfl, Nat.le_of_ble_eq_true rfl⟩ (fun r ws2 hc => ?_)
        obtain ⟨rfl, hw9⟩ := hc
        obtain rfl := hw9.symm
        exact V_iret X dX11_lets_51 ⟨by rw [bc_bits _ hM.2.1]; simp [r_lets, e9, e8, e7, valI_nI (show a < 2147483648 by omega), valI_nI (show b < 2147483648 by omega)], rfl⟩
      · have e7 := b_of0 h3
        refine V_bipushE X (-102) dX11_lets_32 (by decide +kernel) ?_
        exact V_iret X dX11_lets_34 ⟨by simp [r_lets, e9, e7], rfl⟩
  · have e9 : mm = 0 := by have := of_decide_eq_false (b_of0 h); omega
    refine V_bipushE X (-103) dX11_lets_7 (by decide +kernel) ?_
    exact V_iret X dX11_lets_9 ⟨by simp [r_lets, e9], rfl⟩
def r_strict (n : Nat) (K : Nat → Nat) (mm kg nj : Nat) (Js : Nat → JD) (Ln : Nat → Nat) : Int32 := if mm = 0 then (-103) else fstI (strictTo (fun j => passN n K (Js j) (Ln (mm - 1)) kg) nj)
theorem p_strict (l : Launch) (G : GX) (ad : Nat → Nat) (ws : List CE) (n : Nat) (K : Nat → Nat) (kg mm : Nat) (Ln : Nat → Nat) (np : Nat) (pg : Nat → Nat) (nj : Nat) (Js : Nat → JD) (pn : Nat) (Pe : Nat → Nat) (hn : Nat) (U : Nat → Nat) (tr kk km kp kh rd : Nat) (hC : RC ws n K kg mm Ln np pg nj Js pn Pe hn U tr kk km kp kh rd) (hkP : ad kP = G.2.2.2) (hpn : ∀ j, j < nj → passN n K (Js j) (Ln (mm - 1)) kg < 2147483648) : Ct l G yX11_strict cX11_strict 1 (some .int) 7 0 0 ad ws [.ref 0] (pI ad (fun r ws2 => r = r_strict n K mm kg nj Js Ln ∧ RC ws2 n K kg mm Ln np pg nj Js pn Pe hn U tr kk km kp kh rd ∧ fr cen4 ws ws2)) := by
  refine Ct.of [some (.ref 0)] (by decide +kernel) (Nat.le_of_ble_eq_true rfl) rfl ?_
  intro p e s m args below meth c A X
  have hO := hC.obj
  have hC0 := hC
  obtain ⟨z0, hL, hM, hB, hCe, hSe, hSo, hRg, hRl, hRp, hRh, o1, o2, o3, o4, o5, o6, o7, o8, o9, o10, o11, o12, o13, o14⟩ := hC
  have h104 := pow_le4 o1
  refine V_aload_n0 X dX11_strict_0 ?_
  refine V_cV0I X dX11_strict_1 kX11_89 (t_hasLine l G ad ws kg mm Ln hO hRl) (by assumption) (by rfl) (Nat.le_of_ble_eq_true rfl) ⟨⟨Nat.le_of_ble_eq_true rfl, Nat.le_of_ble_eq_true rfl⟩, Nat.le_of_ble_eq_true rfl, Nat.le_of_ble_eq_true rfl⟩ (fun r ws2 hc => ?_)
  obtain ⟨rfl, hw9⟩ := hc
  obtain rfl := hw9.symm
  refine V_if_eq X 14 dX11_strict_4 (by decide) (fun h => ?_) (fun h => ?_)
  · have e9 : mm = 0 := by have := of_decide_eq_false (b_of0 h); omega
    refine V_bipushE X (-103) dX11_strict_14 (by decide +kernel) ?_
    exact V_iret X dX11_strict_16 ⟨by simp [r_strict, e9], hC0, fr.rfl⟩
  · have e9 : 0 < mm := of_decide_eq_true (b_of1 h)
    have hla := o3 (mm - 1) (by omega)
    refine V_aload_n0 X dX11_strict_7 ?_
    refine V_cV0I X dX11_strict_8 kX11_186 (t_strictest l G ad ws n nj K Js kg mm Ln hO hL hM hCe hRl hkP (by omega) e9 _ rfl (by omega) hpn) (by assumption) (by rfl) (Nat.le_of_ble_eq_true rfl) ⟨⟨Nat.le_of_ble_eq_true rfl, Nat.le_of_ble_eq_true rfl⟩, Nat.le_of_ble_eq_true rfl, Nat.le_of_ble_eq_true rfl⟩ (fun r ws2 hc => ?_)
    obtain ⟨rfl, hC5, hf5⟩ := hc
    refine V_goto X 16 dX11_strict_11 (by decide) ?_
    exact V_iret X dX11_strict_16 ⟨by simp [r_strict, show ¬ mm = 0 by omega], hC0.cen hf5 hC5, hf5⟩
def r_slips (n : Nat) (K : Nat → Nat) (mm kg nj : Nat) (Js : Nat → JD) (x z : Int32) : Int32 := if mm = 0 then (-103) else if inR (10 ^ n) x && inR (10 ^ n) z then slipsI n K nj Js kg (valI x) (valI z) else (-102)
theorem p_slips (l : Launch) (G : GX) (ad : Nat → Nat) (ws : List CE) (n : Nat) (K : Nat → Nat) (kg mm : Nat) (Ln : Nat → Nat) (np : Nat) (pg : Nat → Nat) (nj : Nat) (Js : Nat → JD) (pn : Nat) (Pe : Nat → Nat) (hn : Nat) (U : Nat → Nat) (tr kk km kp kh rd : Nat) (hC : RC ws n K kg mm Ln np pg nj Js pn Pe hn U tr kk km kp kh rd) (hkP : ad kP = G.2.2.2) (hrd : rd + 20 < 900000000) (x z : Int32) : Ct l G yX11_slips cX11_slips 3 (some .int) 9 0 0 ad ws [.ref 0, .int x, .int z] (pI ad (fun r ws2 => r = r_slips n K mm kg nj Js x z ∧ RC ws2 n K kg mm Ln np pg nj Js pn Pe hn U tr kk km kp kh (rd + 20) ∧ fr sea4 ws ws2)) := by
  refine Ct.of [some (.ref 0), some (.int x), some (.int z)] (by decide +kernel) (Nat.le_of_ble_eq_true rfl) rfl ?_
  intro p e s m args below meth c A X
  have hO := hC.obj
  have hC0 : RC ws n K kg mm Ln np pg nj Js pn Pe hn U tr kk km kp kh (rd + 20) := hC.sea fr.rfl (by obtain ⟨a, b, c, d, e, f, g, h1, h2⟩ := hC.2.2.2.2.2.1; exact ⟨a, b, c, d, e, f, g, by omega, h2⟩) hrd
  have hC1 := hC
  obtain ⟨z0, hL, hM, hB, hCe, hSe, hSo, hRg, hRl, hRp, hRh, o1, o2, o3, o4, o5, o6, o7, o8, o9, o10, o11, o12, o13, o14⟩ := hC
  have h104 := pow_le4 o1
  have z1 := hL.2.1
  obtain ⟨kr, ke, rd2, L2, ty, ft, fe, hr2, hSR⟩ := hSe
  have z13 := hSR.obj
  refine V_aload_n0 X dX11_slips_0 ?_
  refine V_cV0I X dX11_slips_1 kX11_89 (t_hasLine l G ad ws kg mm Ln hO hRl) (by assumption) (by rfl) (Nat.le_of_ble_eq_true rfl) ⟨⟨Nat.le_of_ble_eq_true rfl, Nat.le_of_ble_eq_true rfl⟩, Nat.le_of_ble_eq_true rfl, Nat.le_of_ble_eq_true rfl⟩ (fun r ws2 hc => ?_)
  obtain ⟨rfl, hw9⟩ := hc
  obtain rfl := hw9.symm
  refine V_if_ne X 10 dX11_slips_4 (by decide) (fun h => ?_) (fun h => ?_)
  · have e9 : ¬ mm = 0 := by have := of_decide_eq_true (b_of1 h); omega
    refine V_aload_n0 X dX11_slips_10 ?_
    refine V_getf X dX11_slips_11 fX11_12 (by assumption) (by rfl) ?_
    refine V_iload_n1 X dX11_slips_14 ?_
    refine V_cV1I X dX11_slips_15 kX11_128 (t_LisP l G ad ws n K hL hkP x) (by assumption) (by rfl) (Nat.le_of_ble_eq_true rfl) ⟨⟨Nat.le_of_ble_eq_true rfl, Nat.le_of_ble_eq_true rfl⟩, Nat.le_of_ble_eq_true rfl, Nat.le_of_ble_eq_true rfl⟩ (fun r ws2 hc => ?_)
    obtain ⟨rfl, hw9⟩ := hc
    obtain rfl := hw9.symm
    refine V_if_eq X 32 dX11_slips_18 (by decide) (fun h2 => ?_) (fun h2 => ?_)
    · have e8 := b_of0 h2
      refine V_bipushE X (-102) dX11_slips_32 (by decide +kernel) ?_
      exact V_iret X dX11_slips_34 ⟨by simp [r_slips, e9, e8], hC0, fr.rfl⟩
    · have e8 := b_of1 h2
      refine V_aload_n0 X dX11_slips_21 ?_
      refine V_getf X dX11_slips_22 fX11_12 (by assumption) (by rfl) ?_
      refine V_iload_n2 X dX11_slips_25 ?_
      refine V_cV1I X dX11_slips_26 kX11_128 (t_LisP l G ad ws n K hL hkP z) (by assumption) (by rfl) (Nat.le_of_ble_eq_true rfl) ⟨⟨Nat.le_of_ble_eq_true rfl, Nat.le_of_ble_eq_true rfl⟩, Nat.le_of_ble_eq_true rfl, Nat.le_of_ble_eq_true rfl⟩ (fun r ws2 hc => ?_)
      obtain ⟨rfl, hw9⟩ := hc
      obtain rfl := hw9.symm
      refine V_if_ne X 35 dX11_slips_29 (by decide) (fun h3 => ?_) (fun h3 => ?_)
      · have e7 := b_of1 h3
        obtain ⟨a, ha, rfl⟩ := inR_of (by omega) e8
        obtain ⟨b, hb, rfl⟩ := inR_of (by omega) e7
        refine V_aload_n0 X dX11_slips_35 ?_
        refine V_getf X dX11_slips_36 fX11_37 (by assumption) (by rfl) ?_
        refine V_iload_n1 X dX11_slips_39 ?_
        refine V_iload_n2 X dX11_slips_40 ?_
        refine V_aload_n0 X dX11_slips_41 ?_
        refine V_getf X dX11_slips_42 fX11_66 (by assumption) (by rfl) ?_
        refine V_cV3I X dX11_slips_45 kX11_189 (t_few l G ad ws n nj K Js kr ke rd2 L2 ty ft fe hL hM hB hSR (by omega) hkP a b kg ha hb (by omega)) (by assumption) (by rfl) (Nat.le_of_ble_eq_true rfl) ⟨⟨Nat.le_of_ble_eq_true rfl, Nat.le_of_ble_eq_true rfl⟩, Nat.le_of_ble_eq_true rfl, Nat.le_of_ble_eq_true rfl⟩ (fun r ws2 hc => ?_)
        obtain ⟨rfl, ⟨rd3, L3, hr3, hS3⟩, hf3⟩ := hc
        exact V_iret X dX11_slips_48 ⟨by simp [r_slips, e9, e8, e7, valI_nI (show a < 2147483648 by omega), valI_nI (show b < 2147483648 by omega)], hC1.sea hf3 ⟨kr, ke, rd3, L3, ty, ft, fe, by omega, hS3⟩ hrd, hf3⟩
      · have e7 := b_of0 h3
        refine V_bipushE X (-102) dX11_slips_32 (by decide +kernel) ?_
        exact V_iret X dX11_slips_34 ⟨by simp [r_slips, e9, e7], hC0, fr.rfl⟩
  · have e9 : mm = 0 := by have := of_decide_eq_false (b_of0 h); omega
    refine V_bipushE X (-103) dX11_slips_7 (by decide +kernel) ?_
    exact V_iret X dX11_slips_9 ⟨by simp [r_slips, e9], hC0, fr.rfl⟩
def r_back (n : Nat) (K : Nat → Nat) (mm : Nat) (Ln : Nat → Nat) (x : Int32) : Int32 := if mm = 0 then (-103) else if inR (10 ^ n) x then nI (stepP n K (valI x) (Ln (mm - 1))) else (-102)
theorem p_back (l : Launch) (G : GX) (ad : Nat → Nat) (ws : List CE) (n : Nat) (K : Nat → Nat) (kg mm : Nat) (Ln : Nat → Nat) (np : Nat) (pg : Nat → Nat) (nj : Nat) (Js : Nat → JD) (pn : Nat) (Pe : Nat → Nat) (hn : Nat) (U : Nat → Nat) (tr kk km kp kh rd : Nat) (hC : RC ws n K kg mm Ln np pg nj Js pn Pe hn U tr kk km kp kh rd) (hkP : ad kP = G.2.2.2) (x : Int32) : Ct l G yX11_back cX11_back 2 (some .int) 5 0 0 ad ws [.ref 0, .int x] (pI ad (fun r ws2 => r = r_back n K mm Ln x ∧ ws2 = ws)) := by
  refine Ct.of [some (.ref 0), some (.int x)] (by decide +kernel) (Nat.le_of_ble_eq_true rfl) rfl ?_
  intro p e s m args below meth c A X
  have hO := hC.obj
  obtain ⟨z0, hL, hM, hB, hCe, hSe, hSo, hRg, hRl, hRp, hRh, o1, o2, o3, o4, o5, o6, o7, o8, o9, o10, o11, o12, o13, o14⟩ := hC
  have h104 := pow_le4 o1
  have z1 := hL.2.1
  have hRl0 := hRl
  obtain ⟨fl, hR1, hR2⟩ := hRl
  have z23 := hR1.1
  refine V_aload_n0 X dX11_back_0 ?_
  refine V_cV0I X dX11_back_1 kX11_89 (t_hasLine l G ad ws kg mm Ln hO hRl0) (by assumption) (by rfl) (Nat.le_of_ble_eq_true rfl) ⟨⟨Nat.le_of_ble_eq_true rfl, Nat.le_of_ble_eq_true rfl⟩, Nat.le_of_ble_eq_true rfl, Nat.le_of_ble_eq_true rfl⟩ (fun r ws2 hc => ?_)
  obtain ⟨rfl, hw9⟩ := hc
  obtain rfl := hw9.symm
  refine V_if_ne X 10 dX11_back_4 (by decide) (fun h => ?_) (fun h => ?_)
  · have e9 : 0 < mm := of_decide_eq_true (b_of1 h)
    have hla := o3 (mm - 1) (by omega)
    refine V_aload_n0 X dX11_back_10 ?_
    refine V_getf X dX11_back_11 fX11_12 (by assumption) (by rfl) ?_
    refine V_iload_n1 X dX11_back_14 ?_
    refine V_cV1I X dX11_back_15 kX11_128 (t_LisP l G ad ws n K hL hkP x) (by assumption) (by rfl) (Nat.le_of_ble_eq_true rfl) ⟨⟨Nat.le_of_ble_eq_true rfl, Nat.le_of_ble_eq_true rfl⟩, Nat.le_of_ble_eq_true rfl, Nat.le_of_ble_eq_true rfl⟩ (fun r ws2 hc => ?_)
    obtain ⟨rfl, hw9⟩ := hc
    obtain rfl := hw9.symm
    refine V_if_ne X 24 dX11_back_18 (by decide) (fun h2 => ?_) (fun h2 => ?_)
    · have e8 := b_of1 h2
      obtain ⟨a, ha, rfl⟩ := inR_of (by omega) e8
      refine V_aload_n0 X dX11_back_24 ?_
      refine V_getf X dX11_back_25 fX11_12 (by assumption) (by rfl) ?_
      refine V_iload_n1 X dX11_back_28 ?_
      refine V_aload_n0 X dX11_back_29 ?_
      refine V_getf X dX11_back_30 fX11_57 (by assumption) (by rfl) ?_
      refine V_cV0I X dX11_back_33 kX11_138 (t_Rlast l G ad ws 23 24 60 mm fl hR1 e9) (by assumption) (by rfl) (Nat.le_of_ble_eq_true rfl) ⟨⟨Nat.le_of_ble_eq_true rfl, Nat.le_of_ble_eq_true rfl⟩, Nat.le_of_ble_eq_true rfl, Nat.le_of_ble_eq_true rfl⟩ (fun r ws2 hc => ?_)
      obtain ⟨rfl, hw9⟩ := hc
      obtain rfl := hw9.symm
      rw [hR2 _ (by omega)]
      refine V_cV2I X dX11_back_36 kX11_205 (t_Lsteps l G ad ws n K hL hkP a _ (by omega) (by omega)) (by assumption) (by rfl) (Nat.le_of_ble_eq_true rfl) ⟨⟨Nat.le_of_ble_eq_true rfl, Nat.le_of_ble_eq_true rfl⟩, Nat.le_of_ble_eq_true rfl, Nat.le_of_ble_eq_true rfl⟩ (fun r ws2 hc => ?_)
      obtain ⟨rfl, hw9⟩ := hc
      obtain rfl := hw9.symm
      exact V_iret X dX11_back_39 ⟨by simp [r_back, show ¬ mm = 0 by omega, e8, valI_nI (show a < 2147483648 by omega)], rfl⟩
    · have e8 := b_of0 h2
      refine V_bipushE X (-102) dX11_back_21 (by decide +kernel) ?_
      exact V_iret X dX11_back_23 ⟨by simp [r_back, show ¬ mm = 0 by omega, e8], rfl⟩
  · have e9 : mm = 0 := by have := of_decide_eq_false (b_of0 h); omega
    refine V_bipushE X (-103) dX11_back_7 (by decide +kernel) ?_
    exact V_iret X dX11_back_9 ⟨by simp [r_back, e9], rfl⟩
def r_span (n : Nat) (K : Nat → Nat) (mm : Nat) (Ln : Nat → Nat) (x : Int32) : Int32 := if mm = 0 then (-103) else if decide (¬ x < 0) && decide (x ≤ nI 3) then nI (withinN n K (Ln (mm - 1)) (valI x)) else (-102)
theorem p_span (l : Launch) (G : GX) (ad : Nat → Nat) (ws : List CE) (n : Nat) (K : Nat → Nat) (kg mm : Nat) (Ln : Nat → Nat) (np : Nat) (pg : Nat → Nat) (nj : Nat) (Js : Nat → JD) (pn : Nat) (Pe : Nat → Nat) (hn : Nat) (U : Nat → Nat) (tr kk km kp kh rd : Nat) (hC : RC ws n K kg mm Ln np pg nj Js pn Pe hn U tr kk km kp kh rd) (hkP : ad kP = G.2.2.2) (x : Int32) : Ct l G yX11_span cX11_span 2 (some .int) 6 0 0 ad ws [.ref 0, .int x] (pI ad (fun r ws2 => r = r_span n K mm Ln x ∧ RC ws2 n K kg mm Ln np pg nj Js pn Pe hn U tr kk km kp kh rd ∧ fr cen4 ws ws2)) := by
  refine Ct.of [some (.ref 0), some (.int x)] (by decide +kernel) (Nat.le_of_ble_eq_true rfl) rfl ?_
  intro p e s m args below meth c A X
  have hO := hC.obj
  have hC0 := hC
  obtain ⟨z0, hL, hM, hB, hCe, hSe, hSo, hRg, hRl, hRp, hRh, o1, o2, o3, o4, o5, o6, o7, o8, o9, o10, o11, o12, o13, o14⟩ := hC
  have h104 := pow_le4 o1
  refine V_aload_n0 X dX11_span_0 ?_
  refine V_cV0I X dX11_span_1 kX11_89 (t_hasLine l G ad ws kg mm Ln hO hRl) (by assumption) (by rfl) (Nat.le_of_ble_eq_true rfl) ⟨⟨Nat.le_of_ble_eq_true rfl, Nat.le_of_ble_eq_true rfl⟩, Nat.le_of_ble_eq_true rfl, Nat.le_of_ble_eq_true rfl⟩ (fun r ws2 hc => ?_)
  obtain ⟨rfl, hw9⟩ := hc
  obtain rfl := hw9.symm
  refine V_if_ne X 10 dX11_span_4 (by decide) (fun h => ?_) (fun h => ?_)
  · have e9 : 0 < mm := of_decide_eq_true (b_of1 h)
    have hla := o3 (mm - 1) (by omega)
    refine V_iload_n1 X dX11_span_10 ?_
    refine V_if_lt X 19 dX11_span_11 (by decide) (fun h2 => ?_) (fun h2 => ?_)
    · refine V_bipushE X (-102) dX11_span_19 (by decide +kernel) ?_
      exact V_iret X dX11_span_21 ⟨by simp [r_span, show ¬ mm = 0 by omega, h2], hC0, fr.rfl⟩
    · refine V_iload_n1 X dX11_span_14 ?_
      refine V_iconstE X (nI 3) dX11_span_15 (by decide +kernel) ?_
      refine V_icmp_le X 22 dX11_span_16 (by decide) (fun h3 => ?_) (fun h3 => ?_)
      · obtain ⟨y, hy, rfl⟩ := nI_of2 (M := nI 3) (n := 3) (by decide +kernel) h2 h3
        refine V_aload_n0 X dX11_span_22 ?_
        refine V_iload_n1 X dX11_span_23 ?_
        refine V_cV1I X dX11_span_24 kX11_208 (t_within l G ad ws n K kg mm Ln hO hL hCe hRl hkP e9 _ rfl (by omega) y (by omega)) (by assumption) (by rfl) (Nat.le_of_ble_eq_true rfl) ⟨⟨Nat.le_of_ble_eq_true rfl, Nat.le_of_ble_eq_true rfl⟩, Nat.le_of_ble_eq_true rfl, Nat.le_of_ble_eq_true rfl⟩ (fun r ws2 hc => ?_)
        obtain ⟨rfl, hC5, hf5⟩ := hc
        exact V_iret X dX11_span_27 ⟨by rw [r_span, if_neg (by omega), decide_eq_true h2, decide_eq_true h3, valI_nI (by omega)]; rfl, hC0.cen hf5 hC5, hf5⟩
      · refine V_bipushE X (-102) dX11_span_19 (by decide +kernel) ?_
        exact V_iret X dX11_span_21 ⟨by rw [r_span, if_neg (by omega), decide_eq_false h3, Bool.and_false]; rfl, hC0, fr.rfl⟩
  · have e9 : mm = 0 := by have := of_decide_eq_false (b_of0 h); omega
    refine V_bipushE X (-103) dX11_span_7 (by decide +kernel) ?_
    exact V_iret X dX11_span_9 ⟨by simp [r_span, e9], hC0, fr.rfl⟩
def r_gate (n : Nat) (K : Nat → Nat) (mm kg nj : Nat) (Js : Nat → JD) (Ln : Nat → Nat) (pn : Nat) (Pe : Nat → Nat) : Int32 := if mm = 0 then (-103) else g1I (gateTo nj (fun i => cnt (fun j => letsJ n K (Js j) (Ln (mm - 1)) (Pe i) kg) nj) (fun i => gapP n K (Ln (mm - 1)) (Pe i)) pn)
theorem p_gate (l : Launch) (G : GX) (ad : Nat → Nat) (ws : List CE) (n : Nat) (K : Nat → Nat) (kg mm : Nat) (Ln : Nat → Nat) (np : Nat) (pg : Nat → Nat) (nj : Nat) (Js : Nat → JD) (pn : Nat) (Pe : Nat → Nat) (hn : Nat) (U : Nat → Nat) (tr kk km kp kh rd : Nat) (hC : RC ws n K kg mm Ln np pg nj Js pn Pe hn U tr kk km kp kh rd) (hkP : ad kP = G.2.2.2) : Ct l G yX11_gate cX11_gate 1 (some .int) 7 0 0 ad ws [.ref 0] (pI ad (fun r ws2 => r = r_gate n K mm kg nj Js Ln pn Pe ∧ ws2 = ws)) := by
  refine Ct.of [some (.ref 0)] (by decide +kernel) (Nat.le_of_ble_eq_true rfl) rfl ?_
  intro p e s m args below meth c A X
  have hO := hC.obj
  obtain ⟨z0, hL, hM, hB, hCe, hSe, hSo, hRg, hRl, hRp, hRh, o1, o2, o3, o4, o5, o6, o7, o8, o9, o10, o11, o12, o13, o14⟩ := hC
  have h104 := pow_le4 o1
  refine V_aload_n0 X dX11_gate_0 ?_
  refine V_cV0I X dX11_gate_1 kX11_89 (t_hasLine l G ad ws kg mm Ln hO hRl) (by assumption) (by rfl) (Nat.le_of_ble_eq_true rfl) ⟨⟨Nat.le_of_ble_eq_true rfl, Nat.le_of_ble_eq_true rfl⟩, Nat.le_of_ble_eq_true rfl, Nat.le_of_ble_eq_true rfl⟩ (fun r ws2 hc => ?_)
  obtain ⟨rfl, hw9⟩ := hc
  obtain rfl := hw9.symm
  refine V_if_eq X 14 dX11_gate_4 (by decide) (fun h => ?_) (fun h => ?_)
  · have e9 : mm = 0 := by have := of_decide_eq_false (b_of0 h); omega
    refine V_bipushE X (-103) dX11_gate_14 (by decide +kernel) ?_
    exact V_iret X dX11_gate_16 ⟨by simp [r_gate, e9], rfl⟩
  · have e9 : 0 < mm := of_decide_eq_true (b_of1 h)
    have hla := o3 (mm - 1) (by omega)
    refine V_aload_n0 X dX11_gate_7 ?_
    refine V_cV0I X dX11_gate_8 kX11_215 (t_taken l G ad ws n nj K Js kg mm Ln pn Pe hO hL hM hB hRl hRp hkP (by omega) e9 _ rfl (by omega) (fun i hi => by have := o5 i hi; omega)) (by assumption) (by rfl) (Nat.le_of_ble_eq_true rfl) ⟨⟨Nat.le_of_ble_eq_true rfl, Nat.le_of_ble_eq_true rfl⟩, Nat.le_of_ble_eq_true rfl, Nat.le_of_ble_eq_true rfl⟩ (fun r ws2 hc => ?_)
    obtain ⟨rfl, hw9⟩ := hc
    obtain rfl := hw9.symm
    refine V_goto X 16 dX11_gate_11 (by decide) ?_
    exact V_iret X dX11_gate_16 ⟨by simp [r_gate, show ¬ mm = 0 by omega], rfl⟩
def bestT (n : Nat) (K : Nat → Nat) (hn : Nat) (U : Nat → Nat) : Nat × List Nat := tryP hn (gU n K U) hn [] 0 (217, [])
def r_order (n : Nat) (K : Nat → Nat) (mm hn : Nat) (U : Nat → Nat) (x : Int32) : Int32 := if mm = 0 then (-103) else if decide (x = 0) || (decide (¬ x < nI 10) && decide (x < nI 16)) then (if x = 0 then nI (bestT n K hn U).1 else placeI hn (bestT n K hn U).2 (x - nI 10)) else (-102)
theorem p_order (l : Launch) (G : GX) (ad : Nat → Nat) (ws : List CE) (n : Nat) (K : Nat → Nat) (kg mm : Nat) (Ln : Nat → Nat) (np : Nat) (pg : Nat → Nat) (nj : Nat) (Js : Nat → JD) (pn : Nat) (Pe : Nat → Nat) (hn : Nat) (U : Nat → Nat) (tr kk km kp kh rd : Nat) (hC : RC ws n K kg mm Ln np pg nj Js pn Pe hn U tr kk km kp kh rd) (hkP : ad kP = G.2.2.2) (hlen : (bestT n K hn U).2.length = hn) (x : Int32) : Ct l G yX11_order cX11_order 2 (some .int) 10 0 0 ad ws [.ref 0, .int x] (pI ad (fun r ws2 => r = r_order n K mm hn U x ∧ RC ws2 n K kg mm Ln np pg nj Js pn Pe hn U tr kk km kp kh rd ∧ fr srt4 ws ws2)) := by
  refine Ct.of [some (.ref 0), some (.int x)] (by decide +kernel) (Nat.le_of_ble_eq_true rfl) rfl ?_
  intro p e s m args below meth c A X
  have hO := hC.obj
  have hC0 := hC
  obtain ⟨z0, hL, hM, hB, hCe, hSe, hSo, hRg, hRl, hRp, hRh, o1, o2, o3, o4, o5, o6, o7, o8, o9, o10, o11, o12, o13, o14⟩ := hC
  have h104 := pow_le4 o1
  have z17 := hSo.choose_spec.choose_spec.choose_spec.choose_spec.choose_spec.1
  refine V_aload_n0 X dX11_order_0 ?_
  refine V_cV0I X dX11_order_1 kX11_89 (t_hasLine l G ad ws kg mm Ln hO hRl) (by assumption) (by rfl) (Nat.le_of_ble_eq_true rfl) ⟨⟨Nat.le_of_ble_eq_true rfl, Nat.le_of_ble_eq_true rfl⟩, Nat.le_of_ble_eq_true rfl, Nat.le_of_ble_eq_true rfl⟩ (fun r ws2 hc => ?_)
  obtain ⟨rfl, hw9⟩ := hc
  obtain rfl := hw9.symm
  refine V_if_ne X 10 dX11_order_4 (by decide) (fun h => ?_) (fun h => ?_)
  · have e9 : ¬ mm = 0 := by have := of_decide_eq_true (b_of1 h); omega
    have go : (decide (x = 0) || (decide (¬ x < nI 10) && decide (x < nI 16))) = true → V p l e (rmm 10 0 0) s m args below meth c 0 0 (MQ below (QQ G A (pI ad (fun r ws2 => r = r_order n K mm hn U x ∧ RC ws2 n K kg mm Ln np pg nj Js pn Pe hn U tr kk km kp kh rd ∧ fr srt4 ws ws2))) args s 0 0 A) G A 2 ad ws 29 [some (.ref 0), some (.int x)] [] := by
      intro hx
      refine V_aload_n0 X dX11_order_29 ?_
      refine V_getf X dX11_order_30 fX11_44 (by assumption) (by rfl) ?_
      refine V_aload_n0 X dX11_order_33 ?_
      refine V_getf X dX11_order_34 fX11_63 (by assumption) (by rfl) ?_
      refine V_cV1V X dX11_order_37 kX11_218 (t_sort l G ad ws n K hL hkP hSo hn U hRh o6) (by assumption) (by rfl) (Nat.le_of_ble_eq_true rfl) ⟨⟨Nat.le_of_ble_eq_true rfl, Nat.le_of_ble_eq_true rfl⟩, Nat.le_of_ble_eq_true rfl, Nat.le_of_ble_eq_true rfl⟩ (fun ws2 hc => ?_)
      obtain ⟨hS5, hf5⟩ := hc
      have y0 := hf5.get (by decide) z0
      have y17 := hS5.2.2.1
      refine V_iload_n1 X dX11_order_40 ?_
      refine V_if_ne X 54 dX11_order_41 (by decide) (fun h6 => ?_) (fun h6 => ?_)
      · refine V_aload_n0 X dX11_order_54 ?_
        refine V_getf X dX11_order_55 fX11_44 (by assumption) (by rfl) ?_
        refine V_iload_n1 X dX11_order_58 ?_
        refine V_bipushE X (nI 10) dX11_order_59 (by decide +kernel) ?_
        refine V_isub X dX11_order_61 ?_
        refine V_cV1I X dX11_order_62 kX11_225 (t_place l G ad ws2 hn _ _ _ hS5 hlen _) (by assumption) (by rfl) (Nat.le_of_ble_eq_true rfl) ⟨⟨Nat.le_of_ble_eq_true rfl, Nat.le_of_ble_eq_true rfl⟩, Nat.le_of_ble_eq_true rfl, Nat.le_of_ble_eq_true rfl⟩ (fun r ws2 hc => ?_)
        obtain ⟨rfl, hw9⟩ := hc
        obtain rfl := hw9.symm
        exact V_iret X dX11_order_65 ⟨by rw [r_order, if_neg e9, if_pos hx, if_neg h6]; rfl, hC0.srt hf5 hS5.toI, hf5⟩
      · refine V_aload_n0 X dX11_order_44 ?_
        refine V_getf X dX11_order_45 fX11_44 (by assumption) (by rfl) ?_
        refine V_cV0I X dX11_order_48 kX11_222 (t_cost l G ad ws2 hn _ _ _ hS5) (by assumption) (by rfl) (Nat.le_of_ble_eq_true rfl) ⟨⟨Nat.le_of_ble_eq_true rfl, Nat.le_of_ble_eq_true rfl⟩, Nat.le_of_ble_eq_true rfl, Nat.le_of_ble_eq_true rfl⟩ (fun r ws2 hc => ?_)
        obtain ⟨rfl, hw9⟩ := hc
        obtain rfl := hw9.symm
        refine V_goto X 65 dX11_order_51 (by decide) ?_
        exact V_iret X dX11_order_65 ⟨by rw [r_order, if_neg e9, if_pos hx, if_pos h6]; rfl, hC0.srt hf5 hS5.toI, hf5⟩
    refine V_iload_n1 X dX11_order_10 ?_
    refine V_if_eq X 29 dX11_order_11 (by decide) (fun h2 => ?_) (fun h2 => ?_)
    · exact go (by rw [decide_eq_true h2]; rfl)
    · refine V_iload_n1 X dX11_order_14 ?_
      refine V_bipushE X (nI 10) dX11_order_15 (by decide +kernel) ?_
      refine V_icmp_lt X 26 dX11_order_17 (by decide) (fun h3 => ?_) (fun h3 => ?_)
      · refine V_bipushE X (-102) dX11_order_26 (by decide +kernel) ?_
        exact V_iret X dX11_order_28 ⟨by rw [r_order, if_neg e9, decide_eq_false h2, decide_eq_false (fun q => q h3)]; rfl, hC0, fr.rfl⟩
      · refine V_iload_n1 X dX11_order_20 ?_
        refine V_bipushE X (nI 16) dX11_order_21 (by decide +kernel) ?_
        refine V_icmp_lt X 29 dX11_order_23 (by decide) (fun h4 => ?_) (fun h4 => ?_)
        · exact go (by rw [decide_eq_true h3, decide_eq_true h4]; simp)
        · refine V_bipushE X (-102) dX11_order_26 (by decide +kernel) ?_
          exact V_iret X dX11_order_28 ⟨by rw [r_order, if_neg e9, decide_eq_false h2, decide_eq_false h4, Bool.and_false]; rfl, hC0, fr.rfl⟩
  · have e9 : mm = 0 := by have := of_decide_eq_false (b_of0 h); omega
    refine V_bipushE X (-103) dX11_order_7 (by decide +kernel) ?_
    exact V_iret X dX11_order_9 ⟨by simp [r_order, e9], hC0, fr.rfl⟩
