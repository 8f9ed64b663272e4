/-! the reference: digest, the whole of it -/
def R_dig (n : Nat) (K : Nat → Nat) (kg mm : Nat) (Ln : Nat → Nat) (np : Nat) (pg : Nat → Nat) (nj : Nat) (Js : Nat → JD) (pn : Nat) (Pe : Nat → Nat) (hn : Nat) (U : Nat → Nat) (tr : Nat) : Int64 :=
  let h1 := rowH 619 (fun i => tellI K kg mm Ln (i / 3) (i % 3)) (3 * n)
  let h2 := rowH h1 (fun i => nI (Ln i)) mm
  let h3 := rowH h2 (fun i => markI n (Js (i / 6)) (i % 6)) (6 * nj)
  let h4 := if mm = 0 then h3 else R_find n K kg mm Ln nj Js pn Pe hn U h3
  let h5 := rowH h4 (fun i => nI (pg i)) np
  rowH h5 (fun w => howI n K kg mm Ln np nj pn hn tr w) 8
set_option maxHeartbeats 2000000 in
theorem q_digest (l : Launch) (G : GX) (ad : Nat → Nat) (ws : List CE) (n : Nat) (K : Nat → Nat) (kg mm : Nat) (Ln : Nat → Nat) (np : Nat) (pg : Nat → Nat) (nj : Nat) (Js : Nat → JD) (pn : Nat) (Pe : Nat → Nat) (hn : Nat) (U : Nat → Nat) (tr kk km kp kh rd : Nat) (hM : RM ws n K kg mm Ln np pg nj Js pn Pe hn U tr kk km kp kh rd) (hK : OKs n K kg mm Ln np pg nj Js pn Pe hn U tr kk km kp kh rd) : Ct l G yX12_digest cX12_digest 3 (some .long) 10 0 0 ad ws [.ref 29] (pL ad (fun r ws2 => r = R_dig n K kg mm Ln np pg nj Js pn Pe hn U tr ∧ RM ws2 n K kg mm Ln np pg nj Js pn Pe hn U tr kk km kp kh rd ∧ fr ref18 ws ws2)) := by
  refine Ct.of [some (.ref 29), none, none] (by decide +kernel) (Nat.le_of_ble_eq_true rfl) rfl ?_
  intro p e s m args below meth c A X
  have hM0 := hM
  have hK0 := hK
  obtain ⟨o1, o2, o3, o4, o5, o6, o7, o8, o9, o10, o11, o12, o13, o14⟩ := hK
  have h104 := pow_le4 o1
  have hL4 : ∀ i, i < mm → Ln i < 10000 := fun i hi => by have := o3 i hi; omega
  obtain ⟨⟨rm, sa, sd, hs, hO⟩, hJ, ⟨h60, h10, hp6, hh6⟩, hl, hpg, hPe, hU, hkk, hkl, hkp, hkh, hscr⟩ := hM
  have hnj5 := hJ.2.1
  generalize hR : R_dig n K kg mm Ln np pg nj Js pn Pe hn U tr = RR
  unfold R_dig at hR
  simp only at hR
  refine V_aload_n0 X dX12_digest_0 ?_
  refine V_ldc2 X dX12_digest_1 w_1151 ?_
  refine V_putf X dX12_digest_4 fX12_245 (by assumption) (Nat.le_of_ble_eq_true rfl) rfl rfl ?_
  refine V_iconstE X (nI 0) dX12_digest_7 (by decide +kernel) ?_
  refine V_istore_n1 X dX12_digest_8 (Nat.le_of_ble_eq_true rfl) rfl ?_
  obtain ⟨hM1, hO1, hf1⟩ := RM_say hM0 hO 619
  refine V_eqW (ws2 := ws.set 29 (MO n mm np rm sa nj tr sd pn hn (keptI km) (nI kp) (nI kh) 619)) rfl ?_
  generalize ws.set 29 (MO n mm np rm sa nj tr sd pn hn (keptI km) (nI kp) (nI kh) 619) = w1 at hM1 hO1 hf1 ⊢
  have fin6 : ∀ (wa : List CE) (H : Int64) (x1 x2 : Option Value), RM wa n K kg mm Ln np pg nj Js pn Pe hn U tr kk km kp kh rd → wa[29]? = some (MO n mm np rm sa nj tr sd pn hn (keptI km) (nI kp) (nI kh) H) → fr dig5 ws wa → rowH H (fun w => howI n K kg mm Ln np nj pn hn tr w) 8 = RR → V p l e (rmm (10) 0 0) s m args below meth c 0 0 (MQ below (QQ G A (pL ad (fun r ws2 => r = RR ∧ RM ws2 n K kg mm Ln np pg nj Js pn Pe hn U tr kk km kp kh rd ∧ fr ref18 ws ws2))) args s 0 0 A) G A 3 ad wa 142 [some (.ref 29), x1, x2] [] := by
    intro wa H x1 x2 hMa hOa hfa hres
    refine V_iconstE X (nI 0) dX12_digest_142 (by decide +kernel) ?_
    refine V_istore_n1 X dX12_digest_143 (Nat.le_of_ble_eq_true rfl) rfl ?_
    refine V_loop (fun k wk lv2 => ∃ i, i + k = 8 ∧ RM wk n K kg mm Ln np pg nj Js pn Pe hn U tr kk km kp kh rd ∧ wk[29]? = some (MO n mm np rm sa nj tr sd pn hn (keptI km) (nI kp) (nI kh) (rowH H (fun w => howI n K kg mm Ln np nj pn hn tr w) i)) ∧ fr dig5 ws wk ∧ lv2 = [some (.ref 29), some (.int (nI i)), x2]) 8 ⟨0, by omega, hMa, hOa, hfa, rfl⟩ ?_
    rintro k wk _ ⟨i, hi, hMk, hOk, hfk, rfl⟩ ih
    refine V_iload_n1 X dX12_digest_144 ?_
    refine V_bipushE X (nI 8) dX12_digest_145 (by decide +kernel) ?_
    refine V_icmp_ge X 166 dX12_digest_147 (by decide) (fun h => ?_) (fun h => ?_)
    · have e8 : i = 8 := by have := c_le h; omega
      subst e8
      refine V_aload_n0 X dX12_digest_166 ?_
      refine V_getf X dX12_digest_167 fX12_245 (by assumption) (by rfl) ?_
      exact V_lret X dX12_digest_170 ⟨hres, hMk, hfk.mono (ks2 := ref18) (by decide)⟩
    · have e8 := c_nle h
      refine V_aload_n0 X dX12_digest_150 ?_
      refine V_aload_n0 X dX12_digest_151 ?_
      refine V_iload_n1 X dX12_digest_152 ?_
      refine V_cV1I X dX12_digest_153 kX12_240 (m_countOf l G ad wk n K kg mm Ln np pg nj Js pn Pe hn U tr kk km kp kh rd hMk hK0 (nI i)) (by assumption) (by rfl) (Nat.le_of_ble_eq_true rfl) ⟨⟨Nat.le_of_ble_eq_true rfl, Nat.le_of_ble_eq_true rfl⟩, Nat.le_of_ble_eq_true rfl, Nat.le_of_ble_eq_true rfl⟩ (fun r ws2 hc => ?_)
      obtain ⟨rfl, hw9⟩ := hc
      obtain rfl := hw9.symm
      rw [r_count, inR_nI (by decide) (by omega), decide_eq_true e8, if_pos rfl, valI_nI (by omega)]
      refine V_i2l X dX12_digest_156 ?_
      refine V_cV1V X dX12_digest_157 kX12_249 (m_say l G ad wk hOk _) (by assumption) (by rfl) (Nat.le_of_ble_eq_true rfl) ⟨⟨Nat.le_of_ble_eq_true rfl, Nat.le_of_ble_eq_true rfl⟩, Nat.le_of_ble_eq_true rfl, Nat.le_of_ble_eq_true rfl⟩ (fun ws2 hc => ?_)
      obtain rfl := hc
      obtain ⟨hM4, hO4, hf4⟩ := RM_say hMk hOk (rowH H (fun w => howI n K kg mm Ln np nj pn hn tr w) (i + 1))
      refine V_iinc_1 X dX12_digest_160 (Nat.le_of_ble_eq_true rfl) rfl (inc1 _) ?_
      refine V_goto X 144 dX12_digest_163 (by decide) ?_
      exact ih (k - 1) _ _ (by omega) ⟨i + 1, by omega, hM4, hO4, hfk.trans hf4, rfl⟩
  have fin5 : ∀ (wa : List CE) (H : Int64) (x1 x2 : Option Value), RM wa n K kg mm Ln np pg nj Js pn Pe hn U tr kk km kp kh rd → wa[29]? = some (MO n mm np rm sa nj tr sd pn hn (keptI km) (nI kp) (nI kh) H) → fr dig5 ws wa → rowH (rowH H (fun i => nI (pg i)) np) (fun w => howI n K kg mm Ln np nj pn hn tr w) 8 = RR → V p l e (rmm (10) 0 0) s m args below meth c 0 0 (MQ below (QQ G A (pL ad (fun r ws2 => r = RR ∧ RM ws2 n K kg mm Ln np pg nj Js pn Pe hn U tr kk km kp kh rd ∧ fr ref18 ws ws2))) args s 0 0 A) G A 3 ad wa 115 [some (.ref 29), x1, x2] [] := by
    intro wa H x1 x2 hMa hOa hfa hres
    refine V_iconstE X (nI 0) dX12_digest_115 (by decide +kernel) ?_
    refine V_istore_n1 X dX12_digest_116 (Nat.le_of_ble_eq_true rfl) rfl ?_
    refine V_loop (fun k wk lv2 => ∃ i, i + k = np ∧ RM wk n K kg mm Ln np pg nj Js pn Pe hn U tr kk km kp kh rd ∧ wk[29]? = some (MO n mm np rm sa nj tr sd pn hn (keptI km) (nI kp) (nI kh) (rowH H (fun i => nI (pg i)) i)) ∧ fr dig5 ws wk ∧ lv2 = [some (.ref 29), some (.int (nI i)), x2]) np ⟨0, by omega, hMa, hOa, hfa, rfl⟩ ?_
    rintro k wk _ ⟨i, hi, hMk, hOk, hfk, rfl⟩ ih
    obtain ⟨fp, hp1, hp2⟩ := hpg.fr hfk (by decide)
    refine V_iload_n1 X dX12_digest_117 ?_
    refine V_aload_n0 X dX12_digest_118 ?_
    refine V_getf X dX12_digest_119 fX12_139 (by assumption) (by rfl) ?_
    refine V_icmp_ge X 142 dX12_digest_122 (by decide) (fun h => ?_) (fun h => ?_)
    · have e8 : i = np := by have := c_le h; omega
      subst e8
      exact fin6 wk _ _ _ hMk hOk hfk hres
    · have e8 := c_nle h
      refine V_aload_n0 X dX12_digest_125 ?_
      refine V_aload_n0 X dX12_digest_126 ?_
      refine V_getf X dX12_digest_127 fX12_22 (by assumption) (by rfl) ?_
      refine V_iload_n1 X dX12_digest_130 ?_
      refine V_iald X i dX12_digest_131 (by assumption) rfl (by omega) (by omega) ?_
      rw [hp2 i e8]
      refine V_i2l X dX12_digest_132 ?_
      refine V_cV1V X dX12_digest_133 kX12_249 (m_say l G ad wk hOk _) (by assumption) (by rfl) (Nat.le_of_ble_eq_true rfl) ⟨⟨Nat.le_of_ble_eq_true rfl, Nat.le_of_ble_eq_true rfl⟩, Nat.le_of_ble_eq_true rfl, Nat.le_of_ble_eq_true rfl⟩ (fun ws2 hc => ?_)
      obtain rfl := hc
      obtain ⟨hM4, hO4, hf4⟩ := RM_say hMk hOk (rowH H (fun i => nI (pg i)) (i + 1))
      refine V_iinc_1 X dX12_digest_136 (Nat.le_of_ble_eq_true rfl) rfl (inc1 _) ?_
      refine V_goto X 117 dX12_digest_139 (by decide) ?_
      exact ih (k - 1) _ _ (by omega) ⟨i + 1, by omega, hM4, hO4, hfk.trans hf4, rfl⟩
  have fin4 : ∀ (wa : List CE) (H : Int64) (x1 x2 : Option Value), RM wa n K kg mm Ln np pg nj Js pn Pe hn U tr kk km kp kh rd → wa[29]? = some (MO n mm np rm sa nj tr sd pn hn (keptI km) (nI kp) (nI kh) H) → fr dig5 ws wa → rowH (rowH (if mm = 0 then H else R_find n K kg mm Ln nj Js pn Pe hn U H) (fun i => nI (pg i)) np) (fun w => howI n K kg mm Ln np nj pn hn tr w) 8 = RR → V p l e (rmm (10) 0 0) s m args below meth c 0 0 (MQ below (QQ G A (pL ad (fun r ws2 => r = RR ∧ RM ws2 n K kg mm Ln np pg nj Js pn Pe hn U tr kk km kp kh rd ∧ fr ref18 ws ws2))) args s 0 0 A) G A 3 ad wa 104 [some (.ref 29), x1, x2] [] := by
    intro wa H x1 x2 hMa hOa hfa hres
    refine V_aload_n0 X dX12_digest_104 ?_
    refine V_cV0I X dX12_digest_105 kX12_79 (m_lacks l G ad wa hOa h60) (by assumption) (by rfl) (Nat.le_of_ble_eq_true rfl) ⟨⟨Nat.le_of_ble_eq_true rfl, Nat.le_of_ble_eq_true rfl⟩, Nat.le_of_ble_eq_true rfl, Nat.le_of_ble_eq_true rfl⟩ (fun r ws2 hc => ?_)
    obtain ⟨rfl, hw9⟩ := hc
    obtain rfl := hw9.symm
    refine V_if_ne X 115 dX12_digest_108 (by decide) (fun h => ?_) (fun h => ?_)
    · have e9 := of_decide_eq_true (b_of1 h)
      rw [if_pos e9] at hres
      exact fin5 wa _ _ _ hMa hOa hfa hres
    · have e9 := of_decide_eq_false (b_of0 h)
      rw [if_neg e9] at hres
      refine V_aload_n0 X dX12_digest_111 ?_
      refine V_cV0V X dX12_digest_112 kX12_255 (m_sayLine l G ad wa n K kg mm Ln np pg nj Js pn Pe hn U tr kk km kp kh rd hMa hK0 rm sa sd H hOa (by omega)) (by assumption) (by rfl) (Nat.le_of_ble_eq_true rfl) ⟨⟨Nat.le_of_ble_eq_true rfl, Nat.le_of_ble_eq_true rfl⟩, Nat.le_of_ble_eq_true rfl, Nat.le_of_ble_eq_true rfl⟩ (fun ws2 hc => ?_)
      obtain ⟨hO4, hM4, hf4⟩ := hc
      exact fin5 _ _ _ _ hM4 hO4 (hfa.trans hf4) hres
  have fin3 : ∀ (wa : List CE) (H : Int64) (x1 x2 : Option Value), RM wa n K kg mm Ln np pg nj Js pn Pe hn U tr kk km kp kh rd → wa[29]? = some (MO n mm np rm sa nj tr sd pn hn (keptI km) (nI kp) (nI kh) H) → fr dig5 ws wa → rowH (rowH (if mm = 0 then (rowH H (fun i => markI n (Js (i / 6)) (i % 6)) (6 * nj)) else R_find n K kg mm Ln nj Js pn Pe hn U (rowH H (fun i => markI n (Js (i / 6)) (i % 6)) (6 * nj))) (fun i => nI (pg i)) np) (fun w => howI n K kg mm Ln np nj pn hn tr w) 8 = RR → V p l e (rmm (10) 0 0) s m args below meth c 0 0 (MQ below (QQ G A (pL ad (fun r ws2 => r = RR ∧ RM ws2 n K kg mm Ln np pg nj Js pn Pe hn U tr kk km kp kh rd ∧ fr ref18 ws ws2))) args s 0 0 A) G A 3 ad wa 74 [some (.ref 29), x1, x2] [] := by
    intro wa H x1 x2 hMa hOa hfa hres
    refine V_iconstE X (nI 0) dX12_digest_74 (by decide +kernel) ?_
    refine V_istore_n1 X dX12_digest_75 (Nat.le_of_ble_eq_true rfl) rfl ?_
    refine V_loop (fun k wk lv2 => ∃ i, i + k = 6 * nj ∧ RM wk n K kg mm Ln np pg nj Js pn Pe hn U tr kk km kp kh rd ∧ wk[29]? = some (MO n mm np rm sa nj tr sd pn hn (keptI km) (nI kp) (nI kh) (rowH H (fun i => markI n (Js (i / 6)) (i % 6)) i)) ∧ fr dig5 ws wk ∧ lv2 = [some (.ref 29), some (.int (nI i)), x2]) (6 * nj) ⟨0, by omega, hMa, hOa, hfa, rfl⟩ ?_
    rintro k wk _ ⟨i, hi, hMk, hOk, hfk, rfl⟩ ih
    obtain ⟨fj, hj1, hj2⟩ := (hJ.fr hfk (by decide) (by decide) (by decide)).2.2.2.2.2.2
    refine V_iload_n1 X dX12_digest_76 ?_
    refine V_bipushE X (nI 6) dX12_digest_77 (by decide +kernel) ?_
    refine V_aload_n0 X dX12_digest_79 ?_
    refine V_getf X dX12_digest_80 fX12_154 (by assumption) (by rfl) ?_
    refine V_imul X dX12_digest_83 ?_
    rw [pk_mul]
    refine V_icmp_ge X 104 dX12_digest_84 (by decide) (fun h => ?_) (fun h => ?_)
    · have e8 : i = 6 * nj := by have := c_le h; omega
      rw [e8] at hOk
      exact fin4 wk _ _ _ hMk hOk hfk hres
    · have e8 := c_nle h
      have e7 := hj2 (i / 6) (by omega) (i % 6) (by omega)
      rw [show 6 * (i / 6) + i % 6 = i by omega] at e7
      refine V_aload_n0 X dX12_digest_87 ?_
      refine V_aload_n0 X dX12_digest_88 ?_
      refine V_getf X dX12_digest_89 fX12_28 (by assumption) (by rfl) ?_
      refine V_iload_n1 X dX12_digest_92 ?_
      refine V_iald X i dX12_digest_93 (by assumption) rfl (by omega) (by omega) ?_
      rw [e7]
      refine V_i2l X dX12_digest_94 ?_
      refine V_cV1V X dX12_digest_95 kX12_249 (m_say l G ad wk hOk _) (by assumption) (by rfl) (Nat.le_of_ble_eq_true rfl) ⟨⟨Nat.le_of_ble_eq_true rfl, Nat.le_of_ble_eq_true rfl⟩, Nat.le_of_ble_eq_true rfl, Nat.le_of_ble_eq_true rfl⟩ (fun ws2 hc => ?_)
      obtain rfl := hc
      obtain ⟨hM4, hO4, hf4⟩ := RM_say hMk hOk (rowH H (fun i => markI n (Js (i / 6)) (i % 6)) (i + 1))
      refine V_iinc_1 X dX12_digest_98 (Nat.le_of_ble_eq_true rfl) rfl (inc1 _) ?_
      refine V_goto X 76 dX12_digest_101 (by decide) ?_
      exact ih (k - 1) _ _ (by omega) ⟨i + 1, by omega, hM4, hO4, hfk.trans hf4, rfl⟩
  have fin2 : ∀ (wa : List CE) (H : Int64) (x1 x2 : Option Value), RM wa n K kg mm Ln np pg nj Js pn Pe hn U tr kk km kp kh rd → wa[29]? = some (MO n mm np rm sa nj tr sd pn hn (keptI km) (nI kp) (nI kh) H) → fr dig5 ws wa → rowH (rowH (if mm = 0 then (rowH (rowH H (fun i => nI (Ln i)) mm) (fun i => markI n (Js (i / 6)) (i % 6)) (6 * nj)) else R_find n K kg mm Ln nj Js pn Pe hn U (rowH (rowH H (fun i => nI (Ln i)) mm) (fun i => markI n (Js (i / 6)) (i % 6)) (6 * nj))) (fun i => nI (pg i)) np) (fun w => howI n K kg mm Ln np nj pn hn tr w) 8 = RR → V p l e (rmm (10) 0 0) s m args below meth c 0 0 (MQ below (QQ G A (pL ad (fun r ws2 => r = RR ∧ RM ws2 n K kg mm Ln np pg nj Js pn Pe hn U tr kk km kp kh rd ∧ fr ref18 ws ws2))) args s 0 0 A) G A 3 ad wa 47 [some (.ref 29), x1, x2] [] := by
    intro wa H x1 x2 hMa hOa hfa hres
    refine V_iconstE X (nI 0) dX12_digest_47 (by decide +kernel) ?_
    refine V_istore_n1 X dX12_digest_48 (Nat.le_of_ble_eq_true rfl) rfl ?_
    refine V_loop (fun k wk lv2 => ∃ i, i + k = mm ∧ RM wk n K kg mm Ln np pg nj Js pn Pe hn U tr kk km kp kh rd ∧ wk[29]? = some (MO n mm np rm sa nj tr sd pn hn (keptI km) (nI kp) (nI kh) (rowH H (fun i => nI (Ln i)) i)) ∧ fr dig5 ws wk ∧ lv2 = [some (.ref 29), some (.int (nI i)), x2]) mm ⟨0, by omega, hMa, hOa, hfa, rfl⟩ ?_
    rintro k wk _ ⟨i, hi, hMk, hOk, hfk, rfl⟩ ih
    obtain ⟨fp, hp1, hp2⟩ := hl.fr hfk (by decide)
    refine V_iload_n1 X dX12_digest_49 ?_
    refine V_aload_n0 X dX12_digest_50 ?_
    refine V_getf X dX12_digest_51 fX12_72 (by assumption) (by rfl) ?_
    refine V_icmp_ge X 74 dX12_digest_54 (by decide) (fun h => ?_) (fun h => ?_)
    · have e8 : i = mm := by have := c_le h; omega
      subst e8
      exact fin3 wk _ _ _ hMk hOk hfk hres
    · have e8 := c_nle h
      refine V_aload_n0 X dX12_digest_57 ?_
      refine V_aload_n0 X dX12_digest_58 ?_
      refine V_getf X dX12_digest_59 fX12_16 (by assumption) (by rfl) ?_
      refine V_iload_n1 X dX12_digest_62 ?_
      refine V_iald X i dX12_digest_63 (by assumption) rfl (by omega) (by omega) ?_
      rw [hp2 i e8]
      refine V_i2l X dX12_digest_64 ?_
      refine V_cV1V X dX12_digest_65 kX12_249 (m_say l G ad wk hOk _) (by assumption) (by rfl) (Nat.le_of_ble_eq_true rfl) ⟨⟨Nat.le_of_ble_eq_true rfl, Nat.le_of_ble_eq_true rfl⟩, Nat.le_of_ble_eq_true rfl, Nat.le_of_ble_eq_true rfl⟩ (fun ws2 hc => ?_)
      obtain rfl := hc
      obtain ⟨hM4, hO4, hf4⟩ := RM_say hMk hOk (rowH H (fun i => nI (Ln i)) (i + 1))
      refine V_iinc_1 X dX12_digest_68 (Nat.le_of_ble_eq_true rfl) rfl (inc1 _) ?_
      refine V_goto X 49 dX12_digest_71 (by decide) ?_
      exact ih (k - 1) _ _ (by omega) ⟨i + 1, by omega, hM4, hO4, hfk.trans hf4, rfl⟩
  refine V_loop (fun k wk lv2 => ∃ (f : Nat) (x2 : Option Value), f + k = n ∧ RM wk n K kg mm Ln np pg nj Js pn Pe hn U tr kk km kp kh rd ∧ wk[29]? = some (MO n mm np rm sa nj tr sd pn hn (keptI km) (nI kp) (nI kh) (rowH 619 (fun i => tellI K kg mm Ln (i / 3) (i % 3)) (3 * f))) ∧ fr dig5 ws wk ∧ lv2 = [some (.ref 29), some (.int (nI f)), x2]) n ⟨0, none, by omega, hM1, hO1, hf1, rfl⟩ ?_
  clear hM1 hO1 hf1
  rintro k wk _ ⟨f, x2, hf, hMk, hOk, hfk, rfl⟩ ih
  refine V_iload_n1 X dX12_digest_9 ?_
  refine V_aload_n0 X dX12_digest_10 ?_
  refine V_getf X dX12_digest_11 fX12_65 (by assumption) (by rfl) ?_
  refine V_icmp_ge X 47 dX12_digest_14 (by decide) (fun h => ?_) (fun h => ?_)
  · have e8 : f = n := by have := c_le h; omega
    rw [e8] at hOk
    exact fin2 wk _ _ _ hMk hOk hfk hR
  · have e8 := c_nle h
    refine V_iconstE X (nI 0) dX12_digest_17 (by decide +kernel) ?_
    refine V_istore_n2 X dX12_digest_18 (Nat.le_of_ble_eq_true rfl) rfl ?_
    refine V_loop (fun k2 wz lv2 => ∃ t, t + k2 = 3 ∧ RM wz n K kg mm Ln np pg nj Js pn Pe hn U tr kk km kp kh rd ∧ wz[29]? = some (MO n mm np rm sa nj tr sd pn hn (keptI km) (nI kp) (nI kh) (rowH 619 (fun i => tellI K kg mm Ln (i / 3) (i % 3)) (3 * f + t))) ∧ fr dig5 ws wz ∧ lv2 = [some (.ref 29), some (.int (nI f)), some (.int (nI t))]) 3 ⟨0, by omega, hMk, hOk, hfk, rfl⟩ ?_
    clear hMk hOk hfk
    rintro k2 wz _ ⟨t, ht, hMk, hOk, hfk, rfl⟩ ih2
    refine V_iload_n2 X dX12_digest_19 ?_
    refine V_iconstE X (nI 3) dX12_digest_20 (by decide +kernel) ?_
    refine V_icmp_ge X 41 dX12_digest_21 (by decide) (fun h2 => ?_) (fun h2 => ?_)
    · have e7 : t = 3 := by have := c_le h2; omega
      subst e7
      refine V_iinc_1 X dX12_digest_41 (Nat.le_of_ble_eq_true rfl) rfl (inc1 _) ?_
      refine V_goto X 9 dX12_digest_44 (by decide) ?_
      exact ih (k - 1) _ _ (by omega) ⟨f + 1, _, by omega, hMk, hOk, hfk, rfl⟩
    · have e7 := c_nle h2
      have hJ2 := hJ.fr hfk (by decide) (by decide) (by decide)
      refine V_aload_n0 X dX12_digest_24 ?_
      refine V_aload_n0 X dX12_digest_25 ?_
      refine V_iload_n1 X dX12_digest_26 ?_
      refine V_iload_n2 X dX12_digest_27 ?_
      refine V_cV2I X dX12_digest_28 kX12_102 (m_tell l G ad wz hOk K hJ2.2.2.2.2.1 kg hJ2.2.2.2.2.2.1 h60 Ln (hl.fr hfk (by decide)) hL4 f (by omega) (nI t)) (by assumption) (by rfl) (Nat.le_of_ble_eq_true rfl) ⟨⟨Nat.le_of_ble_eq_true rfl, Nat.le_of_ble_eq_true rfl⟩, Nat.le_of_ble_eq_true rfl, Nat.le_of_ble_eq_true rfl⟩ (fun r ws2 hc => ?_)
      obtain ⟨rfl, hw9⟩ := hc
      obtain rfl := hw9.symm
      rw [inR_nI (by decide) (by omega), decide_eq_true e7, if_pos rfl, valI_nI (by omega)]
      have e6 : tellI K kg mm Ln f t = tellI K kg mm Ln ((3 * f + t) / 3) ((3 * f + t) % 3) := by
        rw [show (3 * f + t) / 3 = f by omega, show (3 * f + t) % 3 = t by omega]
      rw [e6]
      refine V_i2l X dX12_digest_31 ?_
      refine V_cV1V X dX12_digest_32 kX12_249 (m_say l G ad wz hOk _) (by assumption) (by rfl) (Nat.le_of_ble_eq_true rfl) ⟨⟨Nat.le_of_ble_eq_true rfl, Nat.le_of_ble_eq_true rfl⟩, Nat.le_of_ble_eq_true rfl, Nat.le_of_ble_eq_true rfl⟩ (fun ws2 hc => ?_)
      obtain rfl := hc
      obtain ⟨hM4, hO4, hf4⟩ := RM_say hMk hOk (rowH 619 (fun i => tellI K kg mm Ln (i / 3) (i % 3)) (3 * f + t + 1))
      refine V_iinc_2 X dX12_digest_35 (Nat.le_of_ble_eq_true rfl) rfl (inc1 _) ?_
      refine V_goto X 19 dX12_digest_38 (by decide) ?_
      exact ih2 (k2 - 1) _ _ (by omega) ⟨t + 1, by omega, hM4, hO4, hfk.trans hf4, rfl⟩
