/-! the reference: digest -/
theorem m_say (l : Launch) (G : GX) (ad : Nat → Nat) (ws : List CE) {n mm np : Nat} {rm sa : Int32} {nj tr : Nat} {sd : Int32} {pn hn : Nat} {kl kp kh : Int32} {hs : Int64} (hO : ws[29]? = some (MO n mm np rm sa nj tr sd pn hn kl kp kh hs)) (v : Int64) : Ct l G yX12_say cX12_say 3 none 0 0 0 ad ws [.ref 29, .long v] (pV ad (fun ws2 => ws2 = ws.set 29 (MO n mm np rm sa nj tr sd pn hn kl kp kh (31 * hs + v)))) := by
  refine Ct.of [some (.ref 29), some (.long v), none] (by decide +kernel) (Nat.le_of_ble_eq_true rfl) rfl ?_
  intro p e s m args below meth c A X
  refine V_aload_n0 X dX12_say_0 ?_
  refine V_ldc2 X dX12_say_1 w_1156 ?_
  refine V_aload_n0 X dX12_say_4 ?_
  refine V_getf X dX12_say_5 fX12_245 (by assumption) (by rfl) ?_
  refine V_lmul X dX12_say_8 ?_
  refine V_lload_n1 X dX12_say_9 ?_
  refine V_ladd X dX12_say_10 ?_
  refine V_putf X dX12_say_11 fX12_245 (by assumption) (Nat.le_of_ble_eq_true rfl) rfl rfl ?_
  exact V_vret X dX12_say_14 rfl
abbrev dig5 : List Nat := [29, 37, 38, 41, 42]
theorem RM_say {ws : List CE} {n : Nat} {K : Nat → Nat} {kg mm : Nat} {Ln : Nat → Nat} {np : Nat} {pg : Nat → Nat} {nj : Nat} {Js : Nat → JD} {pn : Nat} {Pe : Nat → Nat} {hn : Nat} {U : Nat → Nat} {tr kk km kp kh rd : Nat} {rm sa sd : Int32} {hs : Int64} (hM : RM ws n K kg mm Ln np pg nj Js pn Pe hn U tr kk km kp kh rd) (hO : ws[29]? = some (MO n mm np rm sa nj tr sd pn hn (keptI km) (nI kp) (nI kh) hs)) (h2 : Int64) : RM (ws.set 29 (MO n mm np rm sa nj tr sd pn hn (keptI km) (nI kp) (nI kh) h2)) n K kg mm Ln np pg nj Js pn Pe hn U tr kk km kp kh rd ∧ (ws.set 29 (MO n mm np rm sa nj tr sd pn hn (keptI km) (nI kp) (nI kh) h2))[29]? = some (MO n mm np rm sa nj tr sd pn hn (keptI km) (nI kp) (nI kh) h2) ∧ fr dig5 ws (ws.set 29 (MO n mm np rm sa nj tr sd pn hn (keptI km) (nI kp) (nI kh) h2)) := by
  obtain ⟨_, hJ, hsz, hl, hpg, hPe, hU, hkk, hkl, hkp, hkh, hscr⟩ := hM
  have hfb : fr [29] ws (ws.set 29 (MO n mm np rm sa nj tr sd pn hn (keptI km) (nI kp) (nI kh) h2)) := fr.rfl.set (by decide)
  exact ⟨⟨⟨rm, sa, sd, h2, gset hO⟩, hJ.fr hfb (by decide) (by decide) (by decide), hsz, hl.fr hfb (by decide), hpg.fr hfb (by decide), hPe.fr hfb (by decide), hU.fr hfb (by decide), hkk.fr hfb (by decide), hkl.fr hfb (by decide), hkp.fr hfb (by decide), hkh.fr hfb (by decide), hscr.fr hfb (by decide) (by decide) (by decide) (by decide) (by decide) (by decide)⟩, gset hO, hfb.mono (ks2 := dig5) (by decide)⟩
theorem RM_scr {ks : List Nat} {ws ws2 : List CE} {n : Nat} {K : Nat → Nat} {kg mm : Nat} {Ln : Nat → Nat} {np : Nat} {pg : Nat → Nat} {nj : Nat} {Js : Nat → JD} {pn : Nat} {Pe : Nat → Nat} {hn : Nat} {U : Nat → Nat} {tr kk km kp kh rd : Nat} (hM : RM ws n K kg mm Ln np pg nj Js pn Pe hn U tr kk km kp kh rd) (hf : fr ks ws ws2) (hk : ∀ k ∈ ks, k = 37 ∨ k = 38 ∨ k = 41 ∨ k = 42) (hs2 : scrM ws2) : RM ws2 n K kg mm Ln np pg nj Js pn Pe hn U tr kk km kp kh rd := by
  have nk : ∀ k, ¬ (k = 37 ∨ k = 38 ∨ k = 41 ∨ k = 42) → k ∉ ks := fun k q q2 => q (hk k q2)
  obtain ⟨⟨rm, sa, sd, hs, hO⟩, hJ, hsz, hl, hpg, hPe, hU, hkk, hkl, hkp, hkh, hscr⟩ := hM
  exact ⟨⟨rm, sa, sd, hs, hf.get (nk _ (by omega)) hO⟩, hJ.fr hf (nk _ (by omega)) (nk _ (by omega)) (nk _ (by omega)), hsz, hl.fr hf (nk _ (by omega)), hpg.fr hf (nk _ (by omega)), hPe.fr hf (nk _ (by omega)), hU.fr hf (nk _ (by omega)), hkk.fr hf (nk _ (by omega)), hkl.fr hf (nk _ (by omega)), hkp.fr hf (nk _ (by omega)), hkh.fr hf (nk _ (by omega)), hs2⟩
def R_find (n : Nat) (K : Nat → Nat) (kg mm : Nat) (Ln : Nat → Nat) (nj : Nat) (Js : Nat → JD) (pn : Nat) (Pe : Nat → Nat) (hn : Nat) (U : Nat → Nat) (h : Int64) : Int64 :=
  say (say (rowH (say (say (say h (R_strict n K mm kg nj Js Ln)) (r_gate n K mm kg nj Js Ln pn Pe)) (tellO n K hn U 0)) (fun i => tellO n K hn U (10 + i)) 6) (nI (cnt (fun a => decide (stepP n K a (Ln (mm - 1)) ≤ 2)) (10 ^ n)))) (bfsB n K nj Js kg kg 10001 0 [(0, Ln 0)])
set_option maxHeartbeats 2000000 in
theorem m_sayLine (l : Launch) (G : GX) (ad : Nat → Nat) (ws : List CE) (n : Nat) (K : Nat → Nat) (kg mm : Nat) (Ln : Nat → Nat) (np : Nat) (pg : Nat → Nat) (nj : Nat) (Js : Nat → JD) (pn : Nat) (Pe : Nat → Nat) (hn : Nat) (U : Nat → Nat) (tr kk km kp kh rd : Nat) (hM : RM ws n K kg mm Ln np pg nj Js pn Pe hn U tr kk km kp kh rd) (hK : OKs n K kg mm Ln np pg nj Js pn Pe hn U tr kk km kp kh rd) (rm sa sd : Int32) (hs : Int64) (hO : ws[29]? = some (MO n mm np rm sa nj tr sd pn hn (keptI km) (nI kp) (nI kh) hs)) (hm : 0 < mm) : Ct l G yX12_sayLine cX12_sayLine 2 none 9 0 0 ad ws [.ref 29] (pV ad (fun ws2 => ws2[29]? = some (MO n mm np rm sa nj tr sd pn hn (keptI km) (nI kp) (nI kh) (R_find n K kg mm Ln nj Js pn Pe hn U hs)) ∧ RM ws2 n K kg mm Ln np pg nj Js pn Pe hn U tr kk km kp kh rd ∧ fr dig5 ws ws2)) := by
  refine Ct.of [some (.ref 29), none] (by decide +kernel) (Nat.le_of_ble_eq_true rfl) rfl ?_
  intro p e s m args below meth c A X
  have hM0 := hM
  obtain ⟨o1, o2, o3, o4, o5, o6, o7, o8, o9, o10, o11, o12, o13, o14⟩ := hK
  have h104 := pow_le4 o1
  have e9 : ¬ mm = 0 := by omega
  have hL4 : ∀ i, i < mm → Ln i < 10000 := fun i hi => by have := o3 i hi; omega
  obtain ⟨_, hJ, ⟨h60, h10, hp6, hh6⟩, hl, hpg, hPe, hU, hkk, hkl, hkp, hkh, hscr⟩ := hM
  have e1 : fstI (strictTo (fun j => passC n K (Js j) (Ln (mm - 1)) kg) nj) = R_strict n K mm kg nj Js Ln := by rw [R_strict, if_neg e9]
  have e2 : g1I (gateTo nj (fun i => cnt (fun j => letsJ n K (Js j) (Ln (mm - 1)) (Pe i) kg) nj) (fun i => gapP n K (Ln (mm - 1)) (Pe i)) pn) = r_gate n K mm kg nj Js Ln pn Pe := by rw [r_gate, if_neg e9]
  refine V_aload_n0 X dX12_sayLine_0 ?_
  refine V_aload_n0 X dX12_sayLine_1 ?_
  refine V_cV0I X dX12_sayLine_2 kX12_167 (m_strictOf l G ad ws hO hm h60 Ln hl hL4 K kg Js hJ) (by assumption) (by rfl) (Nat.le_of_ble_eq_true rfl) ⟨⟨Nat.le_of_ble_eq_true rfl, Nat.le_of_ble_eq_true rfl⟩, Nat.le_of_ble_eq_true rfl, Nat.le_of_ble_eq_true rfl⟩ (fun r ws2 hc => ?_)
  obtain ⟨rfl, hw9⟩ := hc
  obtain rfl := hw9.symm
  rw [e1]
  refine V_i2l X dX12_sayLine_5 ?_
  refine V_cV1V X dX12_sayLine_6 kX12_249 (m_say l G ad ws hO _) (by assumption) (by rfl) (Nat.le_of_ble_eq_true rfl) ⟨⟨Nat.le_of_ble_eq_true rfl, Nat.le_of_ble_eq_true rfl⟩, Nat.le_of_ble_eq_true rfl, Nat.le_of_ble_eq_true rfl⟩ (fun ws2 hc => ?_)
  obtain rfl := hc
  obtain ⟨hM1, hO1, hf1⟩ := RM_say hM0 hO (say hs (R_strict n K mm kg nj Js Ln))
  refine V_eqW (ws2 := ws.set 29 (MO n mm np rm sa nj tr sd pn hn (keptI km) (nI kp) (nI kh) (say hs (R_strict n K mm kg nj Js Ln)))) rfl ?_
  generalize ws.set 29 (MO n mm np rm sa nj tr sd pn hn (keptI km) (nI kp) (nI kh) (say hs (R_strict n K mm kg nj Js Ln))) = w1 at hM1 hO1 hf1 ⊢
  refine V_aload_n0 X dX12_sayLine_9 ?_
  refine V_aload_n0 X dX12_sayLine_10 ?_
  refine V_cV0I X dX12_sayLine_11 kX12_211 (m_gateOf l G ad w1 hO1 hm h60 Ln (hl.fr hf1 (by decide)) hL4 K kg Js (hJ.fr hf1 (by decide) (by decide) (by decide)) hp6 Pe (hPe.fr hf1 (by decide)) (fun i hi => by have := o5 i hi; omega)) (by assumption) (by rfl) (Nat.le_of_ble_eq_true rfl) ⟨⟨Nat.le_of_ble_eq_true rfl, Nat.le_of_ble_eq_true rfl⟩, Nat.le_of_ble_eq_true rfl, Nat.le_of_ble_eq_true rfl⟩ (fun r ws2 hc => ?_)
  obtain ⟨rfl, hw9⟩ := hc
  obtain rfl := hw9.symm
  rw [e2]
  refine V_i2l X dX12_sayLine_14 ?_
  refine V_cV1V X dX12_sayLine_15 kX12_249 (m_say l G ad w1 hO1 _) (by assumption) (by rfl) (Nat.le_of_ble_eq_true rfl) ⟨⟨Nat.le_of_ble_eq_true rfl, Nat.le_of_ble_eq_true rfl⟩, Nat.le_of_ble_eq_true rfl, Nat.le_of_ble_eq_true rfl⟩ (fun ws2 hc => ?_)
  obtain rfl := hc
  obtain ⟨hM2, hO2, hf2⟩ := RM_say hM1 hO1 (say (say hs (R_strict n K mm kg nj Js Ln)) (r_gate n K mm kg nj Js Ln pn Pe))
  refine V_eqW (ws2 := w1.set 29 (MO n mm np rm sa nj tr sd pn hn (keptI km) (nI kp) (nI kh) (say (say hs (R_strict n K mm kg nj Js Ln)) (r_gate n K mm kg nj Js Ln pn Pe)))) rfl ?_
  generalize w1.set 29 (MO n mm np rm sa nj tr sd pn hn (keptI km) (nI kp) (nI kh) (say (say hs (R_strict n K mm kg nj Js Ln)) (r_gate n K mm kg nj Js Ln pn Pe))) = w2 at hM2 hO2 hf2 ⊢
  have hf12 := hf1.trans hf2
  generalize hq2 : say (say hs (R_strict n K mm kg nj Js Ln)) (r_gate n K mm kg nj Js Ln pn Pe) = H2 at hM2 hO2
  clear hM1 hO1 hf1 hf2
  obtain ⟨fa0, ha0⟩ := hM2.2.2.2.2.2.2.2.2.2.2.2.2.2.2.2.1
  obtain ⟨fb0, hb0⟩ := hM2.2.2.2.2.2.2.2.2.2.2.2.2.2.2.2.2
  refine V_aload_n0 X dX12_sayLine_18 ?_
  refine V_aload_n0 X dX12_sayLine_19 ?_
  refine V_iconstE X (nI 0) dX12_sayLine_20 (by decide +kernel) ?_
  refine V_cV1I X dX12_sayLine_21 kX12_227 (m_tellOrder l G ad w2 hO2 o1 K (hJ.fr hf12 (by decide) (by decide) (by decide)).2.2.2.2.1 hJ.2.2.1 hh6 U (hU.fr hf12 (by decide)) (fun i hi => by have := o6 i hi; omega) fa0 fb0 ha0 hb0 0 (Or.inl rfl)) (by assumption) (by rfl) (Nat.le_of_ble_eq_true rfl) ⟨⟨Nat.le_of_ble_eq_true rfl, Nat.le_of_ble_eq_true rfl⟩, Nat.le_of_ble_eq_true rfl, Nat.le_of_ble_eq_true rfl⟩ (fun r ws2 hc => ?_)
  obtain ⟨rfl, ha1, hb1, hf3⟩ := hc
  generalize ws2 = w3 at ha1 hb1 hf3 ⊢
  have hM3 := RM_scr hM2 hf3 (by decide) (scr_gen hM2.2.2.2.2.2.2.2.2.2.2.2 hf3 (Or.inl (by decide)) (Or.inl (by decide)) (Or.inl (by decide)) (Or.inl (by decide)) (Or.inr ha1) (Or.inr hb1))
  have hO3 := hf3.get (by decide) hO2
  have hf13 := hf12.trans (hf3.mono (ks2 := dig5) (by decide))
  refine V_i2l X dX12_sayLine_24 ?_
  refine V_cV1V X dX12_sayLine_25 kX12_249 (m_say l G ad w3 hO3 _) (by assumption) (by rfl) (Nat.le_of_ble_eq_true rfl) ⟨⟨Nat.le_of_ble_eq_true rfl, Nat.le_of_ble_eq_true rfl⟩, Nat.le_of_ble_eq_true rfl, Nat.le_of_ble_eq_true rfl⟩ (fun ws2 hc => ?_)
  obtain rfl := hc
  obtain ⟨hM4, hO4, hf4⟩ := RM_say hM3 hO3 (say H2 (tellO n K hn U 0))
  refine V_eqW (ws2 := w3.set 29 (MO n mm np rm sa nj tr sd pn hn (keptI km) (nI kp) (nI kh) (say H2 (tellO n K hn U 0)))) rfl ?_
  generalize w3.set 29 (MO n mm np rm sa nj tr sd pn hn (keptI km) (nI kp) (nI kh) (say H2 (tellO n K hn U 0))) = w4 at hM4 hO4 hf4 ⊢
  have hf14 := hf13.trans hf4
  generalize hq3 : say H2 (tellO n K hn U 0) = H3 at hM4 hO4
  clear hM2 hO2 hf12 ha0 hb0 hf3 hM3 hO3 hf13 hf4 ha1 hb1
  refine V_bipushE X (nI 10) dX12_sayLine_28 (by decide +kernel) ?_
  refine V_istore_n1 X dX12_sayLine_30 (Nat.le_of_ble_eq_true rfl) rfl ?_
  refine V_loop (fun k wk lv2 => ∃ i, i + k = 6 ∧ RM wk n K kg mm Ln np pg nj Js pn Pe hn U tr kk km kp kh rd ∧ wk[29]? = some (MO n mm np rm sa nj tr sd pn hn (keptI km) (nI kp) (nI kh) (rowH H3 (fun i => tellO n K hn U (10 + i)) i)) ∧ fr dig5 ws wk ∧ lv2 = [some (.ref 29), some (.int (nI (10 + i)))]) 6 ⟨0, by omega, hM4, hO4, hf14, rfl⟩ ?_
  clear hM4 hO4 hf14
  rintro k wk _ ⟨i, hi, hMk, hOk, hfk, rfl⟩ ih
  obtain ⟨fa0, ha0⟩ := hMk.2.2.2.2.2.2.2.2.2.2.2.2.2.2.2.1
  obtain ⟨fb0, hb0⟩ := hMk.2.2.2.2.2.2.2.2.2.2.2.2.2.2.2.2
  refine V_iload_n1 X dX12_sayLine_31 ?_
  refine V_bipushE X (nI 16) dX12_sayLine_32 (by decide +kernel) ?_
  refine V_icmp_ge X 53 dX12_sayLine_34 (by decide) (fun h => ?_) (fun h => ?_)
  · have e8 : i = 6 := by have := c_le h; omega
    subst e8
    clear ih
    refine V_aload_n0 X dX12_sayLine_53 ?_
    refine V_aload_n0 X dX12_sayLine_54 ?_
    refine V_iconstE X (nI 2) dX12_sayLine_55 (by decide +kernel) ?_
    refine V_cV1I X dX12_sayLine_56 kX12_205 (m_spanOf l G ad wk hOk o1 hm h60 Ln (hl.fr hfk (by decide)) hL4 K (hJ.fr hfk (by decide) (by decide) (by decide)).2.2.2.2.1 hJ.2.2.1 2 (by decide)) (by assumption) (by rfl) (Nat.le_of_ble_eq_true rfl) ⟨⟨Nat.le_of_ble_eq_true rfl, Nat.le_of_ble_eq_true rfl⟩, Nat.le_of_ble_eq_true rfl, Nat.le_of_ble_eq_true rfl⟩ (fun r ws2 hc => ?_)
    obtain ⟨rfl, hw9⟩ := hc
    obtain rfl := hw9.symm
    refine V_i2l X dX12_sayLine_59 ?_
    refine V_cV1V X dX12_sayLine_60 kX12_249 (m_say l G ad wk hOk _) (by assumption) (by rfl) (Nat.le_of_ble_eq_true rfl) ⟨⟨Nat.le_of_ble_eq_true rfl, Nat.le_of_ble_eq_true rfl⟩, Nat.le_of_ble_eq_true rfl, Nat.le_of_ble_eq_true rfl⟩ (fun ws2 hc => ?_)
    obtain rfl := hc
    obtain ⟨hM5, hO5, hf5⟩ := RM_say hMk hOk (say (rowH H3 (fun i => tellO n K hn U (10 + i)) 6) (nI (cnt (fun a => decide (stepP n K a (Ln (mm - 1)) ≤ 2)) (10 ^ n))))
    refine V_eqW (ws2 := wk.set 29 (MO n mm np rm sa nj tr sd pn hn (keptI km) (nI kp) (nI kh) (say (rowH H3 (fun i => tellO n K hn U (10 + i)) 6) (nI (cnt (fun a => decide (stepP n K a (Ln (mm - 1)) ≤ 2)) (10 ^ n)))))) rfl ?_
    generalize wk.set 29 (MO n mm np rm sa nj tr sd pn hn (keptI km) (nI kp) (nI kh) (say (rowH H3 (fun i => tellO n K hn U (10 + i)) 6) (nI (cnt (fun a => decide (stepP n K a (Ln (mm - 1)) ≤ 2)) (10 ^ n))))) = w5 at hM5 hO5 hf5 ⊢
    have hf15 := hfk.trans hf5
    generalize hq4 : say (rowH H3 (fun i => tellO n K hn U (10 + i)) 6) (nI (cnt (fun a => decide (stepP n K a (Ln (mm - 1)) ≤ 2)) (10 ^ n))) = H4 at hM5 hO5
    obtain ⟨fs0, hs0⟩ := hM5.2.2.2.2.2.2.2.2.2.2.2.2.2.1
    obtain ⟨fq0, hq0⟩ := hM5.2.2.2.2.2.2.2.2.2.2.2.2.2.2.1
    obtain ⟨fl, hl1, hl2⟩ := hl.fr hf15 (by decide)
    refine V_aload_n0 X dX12_sayLine_63 ?_
    refine V_aload_n0 X dX12_sayLine_64 ?_
    refine V_aload_n0 X dX12_sayLine_65 ?_
    refine V_getf X dX12_sayLine_66 fX12_16 (by assumption) (by rfl) ?_
    refine V_iconstE X (nI 0) dX12_sayLine_69 (by decide +kernel) ?_
    refine V_iald X 0 dX12_sayLine_70 (by assumption) rfl (by decide) (by omega) ?_
    rw [hl2 0 hm]
    refine V_aload_n0 X dX12_sayLine_71 ?_
    refine V_cV0I X dX12_sayLine_72 kX12_105 (m_king l G ad w5 hO5 o1 kg (hJ.fr hf15 (by decide) (by decide) (by decide)).2.2.2.2.2.1 o2) (by assumption) (by rfl) (Nat.le_of_ble_eq_true rfl) ⟨⟨Nat.le_of_ble_eq_true rfl, Nat.le_of_ble_eq_true rfl⟩, Nat.le_of_ble_eq_true rfl, Nat.le_of_ble_eq_true rfl⟩ (fun r ws2 hc => ?_)
    obtain ⟨rfl, hw9⟩ := hc
    obtain rfl := hw9.symm
    refine V_cV2I X dX12_sayLine_75 kX12_173 (m_slipsOf l G ad w5 hO5 K kg Js (hJ.fr hf15 (by decide) (by decide) (by decide)) fs0 fq0 hs0 hq0 (Ln 0) kg (o3 0 hm) o2) (by assumption) (by rfl) (Nat.le_of_ble_eq_true rfl) ⟨⟨Nat.le_of_ble_eq_true rfl, Nat.le_of_ble_eq_true rfl⟩, Nat.le_of_ble_eq_true rfl, Nat.le_of_ble_eq_true rfl⟩ (fun r ws2 hc => ?_)
    obtain ⟨rfl, ⟨fs1, fq1, hs1, hq1⟩, hf6⟩ := hc
    generalize ws2 = w6 at hs1 hq1 hf6 ⊢
    have hM6 := RM_scr hM5 hf6 (by decide) (scr_gen hM5.2.2.2.2.2.2.2.2.2.2.2 hf6 (Or.inl (by decide)) (Or.inl (by decide)) (Or.inr ⟨fs1, hs1⟩) (Or.inr ⟨fq1, hq1⟩) (Or.inl (by decide)) (Or.inl (by decide)))
    have hO6 := hf6.get (by decide) hO5
    have hf16 := hf15.trans (hf6.mono (ks2 := dig5) (by decide))
    refine V_i2l X dX12_sayLine_78 ?_
    refine V_cV1V X dX12_sayLine_79 kX12_249 (m_say l G ad w6 hO6 _) (by assumption) (by rfl) (Nat.le_of_ble_eq_true rfl) ⟨⟨Nat.le_of_ble_eq_true rfl, Nat.le_of_ble_eq_true rfl⟩, Nat.le_of_ble_eq_true rfl, Nat.le_of_ble_eq_true rfl⟩ (fun ws2 hc => ?_)
    obtain rfl := hc
    obtain ⟨hM7, hO7, hf7⟩ := RM_say hM6 hO6 (say H4 (bfsB n K nj Js kg kg 10001 0 [(0, Ln 0)]))
    exact V_vret X dX12_sayLine_82 ⟨by rw [R_find, hq2, hq3, hq4]; exact hO7, hM7, hf16.trans hf7⟩
  · have e8 := c_nle h
    refine V_aload_n0 X dX12_sayLine_37 ?_
    refine V_aload_n0 X dX12_sayLine_38 ?_
    refine V_iload_n1 X dX12_sayLine_39 ?_
    refine V_cV1I X dX12_sayLine_40 kX12_227 (m_tellOrder l G ad wk hOk o1 K (hJ.fr hfk (by decide) (by decide) (by decide)).2.2.2.2.1 hJ.2.2.1 hh6 U (hU.fr hfk (by decide)) (fun i hi => by have := o6 i hi; omega) fa0 fb0 ha0 hb0 (10 + i) (Or.inr ⟨by omega, by omega⟩)) (by assumption) (by rfl) (Nat.le_of_ble_eq_true rfl) ⟨⟨Nat.le_of_ble_eq_true rfl, Nat.le_of_ble_eq_true rfl⟩, Nat.le_of_ble_eq_true rfl, Nat.le_of_ble_eq_true rfl⟩ (fun r ws2 hc => ?_)
    obtain ⟨rfl, ha1, hb1, hf3⟩ := hc
    generalize ws2 = w3 at ha1 hb1 hf3 ⊢
    have hM3 := RM_scr hMk hf3 (by decide) (scr_gen hMk.2.2.2.2.2.2.2.2.2.2.2 hf3 (Or.inl (by decide)) (Or.inl (by decide)) (Or.inl (by decide)) (Or.inl (by decide)) (Or.inr ha1) (Or.inr hb1))
    have hO3 := hf3.get (by decide) hOk
    have hf13 := hfk.trans (hf3.mono (ks2 := dig5) (by decide))
    refine V_i2l X dX12_sayLine_43 ?_
    refine V_cV1V X dX12_sayLine_44 kX12_249 (m_say l G ad w3 hO3 _) (by assumption) (by rfl) (Nat.le_of_ble_eq_true rfl) ⟨⟨Nat.le_of_ble_eq_true rfl, Nat.le_of_ble_eq_true rfl⟩, Nat.le_of_ble_eq_true rfl, Nat.le_of_ble_eq_true rfl⟩ (fun ws2 hc => ?_)
    obtain rfl := hc
    obtain ⟨hM4, hO4, hf4⟩ := RM_say hM3 hO3 (rowH H3 (fun i => tellO n K hn U (10 + i)) (i + 1))
    refine V_iinc_1 X dX12_sayLine_47 (Nat.le_of_ble_eq_true rfl) rfl (inc1 _) ?_
    refine V_goto X 31 dX12_sayLine_50 (by decide) ?_
    exact ih (k - 1) _ _ (by omega) ⟨i + 1, by omega, hM4, hO4, hf13.trans hf4, rfl⟩
