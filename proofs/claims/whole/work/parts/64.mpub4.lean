/-! the reference: texts, letters -/
theorem q_fault (l : Launch) (G : GX) (ad : Nat → Nat) (ws : List CE) (n : Nat) (K : Nat → Nat) (kg mm : Nat) (Ln : Nat → Nat) (np : Nat) (pg : Nat → Nat) (nj : Nat) (Js : Nat → JD) (pn : Nat) (Pe : Nat → Nat) (hn : Nat) (U : Nat → Nat) (tr kk km kp kh rd : Nat) (hM : RM ws n K kg mm Ln np pg nj Js pn Pe hn U tr kk km kp kh rd) (hK : OKs n K kg mm Ln np pg nj Js pn Pe hn U tr kk km kp kh rd) : Ct l G yX12_fault cX12_fault 1 (some .int) 3 0 0 ad ws [.ref 29] (pI ad (fun r ws2 => r = nI (faultM n np pg).1 ∧ RM ws2 n K kg mm Ln np pg nj Js pn Pe hn U tr kk km kp kh rd ∧ fr ref18 ws ws2)) := by
  refine Ct.of [some (.ref 29)] (by decide +kernel) (Nat.le_of_ble_eq_true rfl) rfl ?_
  intro p e s m args below meth c A X
  obtain ⟨⟨rm, sa, sd, hs, hO⟩, hJ, ⟨h60, h10, hp6, hh6⟩, hl, hpg, hPe, hU, hkk, hkl, hkp, hkh, hscr⟩ := hM
  obtain ⟨o1, o2, o3, o4, o5, o6, o7, o8, o9, o10, o11, o12, o13, o14⟩ := hK
  have h104 := pow_le4 o1
  have hkd := hJ.2.2.2.2.1
  have hkd5 := hJ.2.2.1
  have hkin := hJ.2.2.2.2.2.1
  obtain ⟨f35, h35⟩ := hscr.2.1
  refine V_aload_n0 X dX12_fault_0 ?_
  refine V_cV0I X dX12_fault_1 kX12_151 (m_faultOf l G ad ws hO o1 h10 pg hpg o4 f35 h35) (by assumption) (by rfl) (Nat.le_of_ble_eq_true rfl) ⟨⟨Nat.le_of_ble_eq_true rfl, Nat.le_of_ble_eq_true rfl⟩, Nat.le_of_ble_eq_true rfl, Nat.le_of_ble_eq_true rfl⟩ (fun r ws2 hc => ?_)
  obtain ⟨hr, hO1, ⟨fq, hq1, hq2⟩, hbd, hfb⟩ := hc
  exact V_iret X dX12_fault_4 ⟨hr, ⟨⟨_, _, sd, hs, hO1⟩, hJ.fr hfb (by decide) (by decide) (by decide), ⟨h60, h10, hp6, hh6⟩, hl.fr hfb (by decide), hpg.fr hfb (by decide), hPe.fr hfb (by decide), hU.fr hfb (by decide), hkk.fr hfb (by decide), hkl.fr hfb (by decide), hkp.fr hfb (by decide), hkh.fr hfb (by decide), scr_gen hscr hfb (Or.inl (by decide)) (Or.inr ⟨fq, hq1⟩) (Or.inl (by decide)) (Or.inl (by decide)) (Or.inl (by decide)) (Or.inl (by decide))⟩, hfb.mono (ks2 := ref18) (by decide)⟩
def okM (n np : Nat) (pg : Nat → Nat) : Bool := decide (np ≤ (faultM n np pg).1) && decide (n ≤ (faultM n np pg).2.1) && decide (¬ (faultM n np pg).2.2.1 = 1)
set_option maxHeartbeats 1000000 in
theorem q_judge (l : Launch) (G : GX) (ad : Nat → Nat) (ws : List CE) (n : Nat) (K : Nat → Nat) (kg mm : Nat) (Ln : Nat → Nat) (np : Nat) (pg : Nat → Nat) (nj : Nat) (Js : Nat → JD) (pn : Nat) (Pe : Nat → Nat) (hn : Nat) (U : Nat → Nat) (tr kk km kp kh rd : Nat) (hM : RM ws n K kg mm Ln np pg nj Js pn Pe hn U tr kk km kp kh rd) (hK : OKs n K kg mm Ln np pg nj Js pn Pe hn U tr kk km kp kh rd) (hjm : 0 < mm → okM n np pg = isJ n np pg ∧ (isJ n np pg = true → okJ n (judgeOf n np pg) ∧ ∀ w, w < 6 → (faultM n np pg).2.2.2 w = markI n (judgeOf n np pg) w)) : Ct l G yX12_judge cX12_judge 2 (some .int) 3 0 0 ad ws [.ref 29] (pI ad (fun r ws2 => r = r_judge n mm np pg nj ∧ (if okJudge n mm np pg = true ∧ nj < 5 then RM ws2 n K kg mm Ln 0 pg (nj + 1) (upJ Js nj (judgeOf n np pg)) pn Pe hn U tr kk km kp kh rd else RM ws2 n K kg mm Ln np pg nj Js pn Pe hn U tr kk km kp kh rd) ∧ fr ref18 ws ws2)) := by
  refine Ct.of [some (.ref 29), none] (by decide +kernel) (Nat.le_of_ble_eq_true rfl) rfl ?_
  intro p e s m args below meth c A X
  have hM0 := hM
  obtain ⟨⟨rm, sa, sd, hs, hO⟩, hJ, ⟨h60, h10, hp6, hh6⟩, hl, hpg, hPe, hU, hkk, hkl, hkp, hkh, hscr⟩ := hM
  obtain ⟨o1, o2, o3, o4, o5, o6, o7, o8, o9, o10, o11, o12, o13, o14⟩ := hK
  have h104 := pow_le4 o1
  have hkd := hJ.2.2.2.2.1
  have hkd5 := hJ.2.2.1
  have hkin := hJ.2.2.2.2.2.1
  obtain ⟨f35, h35⟩ := hscr.2.1
  refine V_aload_n0 X dX12_judge_0 ?_
  refine V_cV0I X dX12_judge_1 kX12_79 (m_lacks l G ad ws hO h60) (by assumption) (by rfl) (Nat.le_of_ble_eq_true rfl) ⟨⟨Nat.le_of_ble_eq_true rfl, Nat.le_of_ble_eq_true rfl⟩, Nat.le_of_ble_eq_true rfl, Nat.le_of_ble_eq_true rfl⟩ (fun r ws2 hc => ?_)
  obtain ⟨rfl, hw9⟩ := hc
  obtain rfl := hw9.symm
  refine V_if_ne X 37 dX12_judge_4 (by decide) (fun h => ?_) (fun h => ?_)
  · have e9 := of_decide_eq_true (b_of1 h)
    have hok : okJudge n mm np pg = false := by rw [okJudge, decide_eq_false (by omega)]; rfl
    refine V_bipushE X (-103) dX12_judge_37 (by decide +kernel) ?_
    exact V_iret X dX12_judge_39 ⟨by rw [r_judge, hok]; rfl, by rw [hok, if_neg (by simp)]; exact hM0, fr.rfl⟩
  · have e9 := of_decide_eq_false (b_of0 h)
    obtain ⟨hj1, hj2⟩ := hjm (by omega)
    have hok : okJudge n mm np pg = okM n np pg := by rw [okJudge, decide_eq_true (by omega), hj1]; rfl
    refine V_aload_n0 X dX12_judge_7 ?_
    refine V_cV0I X dX12_judge_8 kX12_151 (m_faultOf l G ad ws hO o1 h10 pg hpg o4 f35 h35) (by assumption) (by rfl) (Nat.le_of_ble_eq_true rfl) ⟨⟨Nat.le_of_ble_eq_true rfl, Nat.le_of_ble_eq_true rfl⟩, Nat.le_of_ble_eq_true rfl, Nat.le_of_ble_eq_true rfl⟩ (fun r ws2 hc => ?_)
    obtain ⟨rfl, hO1, hQ, ⟨b1, b2, b3⟩, hfb⟩ := hc
    generalize ws2 = w1 at hO1 hQ hfb ⊢
    obtain ⟨fq, hq1, hq2⟩ := hQ
    have hM1 : RM w1 n K kg mm Ln np pg nj Js pn Pe hn U tr kk km kp kh rd := ⟨⟨_, _, sd, hs, hO1⟩, hJ.fr hfb (by decide) (by decide) (by decide), ⟨h60, h10, hp6, hh6⟩, hl.fr hfb (by decide), hpg.fr hfb (by decide), hPe.fr hfb (by decide), hU.fr hfb (by decide), hkk.fr hfb (by decide), hkl.fr hfb (by decide), hkp.fr hfb (by decide), hkh.fr hfb (by decide), scr_gen hscr hfb (Or.inl (by decide)) (Or.inr ⟨fq, hq1⟩) (Or.inl (by decide)) (Or.inl (by decide)) (Or.inl (by decide)) (Or.inl (by decide))⟩
    have no : okM n np pg = false → V p l e (rmm 3 0 0) s m args below meth c 0 0 (MQ below (QQ G A (pI ad (fun r ws2 => r = r_judge n mm np pg nj ∧ (if okJudge n mm np pg = true ∧ nj < 5 then RM ws2 n K kg mm Ln 0 pg (nj + 1) (upJ Js nj (judgeOf n np pg)) pn Pe hn U tr kk km kp kh rd else RM ws2 n K kg mm Ln np pg nj Js pn Pe hn U tr kk km kp kh rd) ∧ fr ref18 ws ws2))) args s 0 0 A) G A 2 ad w1 37 [some (.ref 29), none] [] := by
      intro hno
      rw [hno] at hok
      refine V_bipushE X (-103) dX12_judge_37 (by decide +kernel) ?_
      exact V_iret X dX12_judge_39 ⟨by rw [r_judge, hok]; rfl, by rw [hok, if_neg (by simp)]; exact hM1, hfb.mono (ks2 := ref18) (by decide)⟩
    refine V_aload_n0 X dX12_judge_11 ?_
    refine V_getf X dX12_judge_12 fX12_139 (by assumption) (by rfl) ?_
    refine V_icmp_lt X 37 dX12_judge_15 (by decide) (fun h2 => ?_) (fun h2 => ?_)
    · have e8 := c_lt h2
      exact no (by rw [okM, decide_eq_false (by omega)]; rfl)
    · have e8 := c_nlt h2
      refine V_aload_n0 X dX12_judge_18 ?_
      refine V_getf X dX12_judge_19 fX12_145 (by assumption) (by rfl) ?_
      refine V_aload_n0 X dX12_judge_22 ?_
      refine V_getf X dX12_judge_23 fX12_65 (by assumption) (by rfl) ?_
      refine V_icmp_lt X 37 dX12_judge_26 (by decide) (fun h3 => ?_) (fun h3 => ?_)
      · have e7 := c_lt h3
        exact no (by rw [okM, decide_eq_true e8, decide_eq_false (by omega)]; rfl)
      · have e7 := c_nlt h3
        refine V_aload_n0 X dX12_judge_29 ?_
        refine V_getf X dX12_judge_30 fX12_142 (by assumption) (by rfl) ?_
        refine V_iconstE X (nI 1) dX12_judge_33 (by decide +kernel) ?_
        refine V_icmp_ne X 40 dX12_judge_34 (by decide) (fun h4 => ?_) (fun h4 => ?_)
        · have e6 := c_ne h4
          have hyes : okM n np pg = true := by rw [okM, decide_eq_true e8, decide_eq_true e7, decide_eq_true e6]; rfl
          rw [hyes] at hj1 hok
          obtain ⟨hjo, hjr⟩ := hj2 hj1.symm
          clear no
          have hnj5 := hJ.2.1
          refine V_aload_n0 X dX12_judge_40 ?_
          refine V_getf X dX12_judge_41 fX12_154 (by assumption) (by rfl) ?_
          refine V_iconstE X (nI 5) dX12_judge_44 (by decide +kernel) ?_
          refine V_icmp_ne X 51 dX12_judge_45 (by decide) (fun h5 => ?_) (fun h5 => ?_)
          · have e5 := c_ne h5
            have hnj : nj < 5 := by omega
            obtain ⟨fj0, hj3, hj4⟩ := (hJ.fr hfb (by decide) (by decide) (by decide)).2.2.2.2.2.2
            refine V_iconstE X (nI 0) dX12_judge_51 (by decide +kernel) ?_
            refine V_istore_n1 X dX12_judge_52 (Nat.le_of_ble_eq_true rfl) rfl ?_
            refine V_loop (fun k wk lv2 => ∃ f, f + k = 6 ∧ (∃ fj, wk[36]? = some (iA 30 fj) ∧ (∀ i, i < 6 * nj → fj i = fj0 i) ∧ ∀ i, i < f → fj (6 * nj + i) = fq i) ∧ fr [36] w1 wk ∧ lv2 = [some (.ref 29), some (.int (nI f))]) 6 ⟨0, by omega, ⟨fj0, hj3, fun i hi => rfl, fun i hi => by omega⟩, fr.rfl, rfl⟩ ?_
            rintro k wk _ ⟨f, hf, ⟨fj, hj5, hj6, hj7⟩, hfr, rfl⟩ ih
            have hO2 := hfr.get (by decide) hO1
            have hq3 := hfr.get (by decide) hq1
            refine V_iload_n1 X dX12_judge_53 ?_
            refine V_bipushE X (nI 6) dX12_judge_54 (by decide +kernel) ?_
            refine V_icmp_ge X 85 dX12_judge_56 (by decide) (fun h6 => ?_) (fun h6 => ?_)
            · have e4 : f = 6 := by have := c_le h6; omega
              subst e4
              refine V_aload_n0 X dX12_judge_85 ?_
              refine V_dup X dX12_judge_86 rfl ?_
              refine V_getf X dX12_judge_87 fX12_154 (by assumption) (by rfl) ?_
              refine V_iconstE X (nI 1) dX12_judge_90 (by decide +kernel) ?_
              refine V_iadd X dX12_judge_91 ?_
              refine V_putf X dX12_judge_92 fX12_154 (by assumption) (Nat.le_of_ble_eq_true rfl) rfl rfl ?_
              refine V_eqW (ws2 := wk.set 29 (MO n mm np (nI (faultM n np pg).2.1) (nI (faultM n np pg).2.2.1) (nj + 1) tr sd pn hn (keptI km) (nI kp) (nI kh) hs)) (by rw [nI_add]; rfl) ?_
              have hO3 := gset (e2 := (MO n mm np (nI (faultM n np pg).2.1) (nI (faultM n np pg).2.2.1) (nj + 1) tr sd pn hn (keptI km) (nI kp) (nI kh) hs)) hO2
              refine V_aload_n0 X dX12_judge_95 ?_
              refine V_iconstE X (nI 0) dX12_judge_96 (by decide +kernel) ?_
              refine V_putf X dX12_judge_97 fX12_139 (by assumption) (Nat.le_of_ble_eq_true rfl) rfl rfl ?_
              have hO4 := gset (e2 := (MO n mm 0 (nI (faultM n np pg).2.1) (nI (faultM n np pg).2.2.1) (nj + 1) tr sd pn hn (keptI km) (nI kp) (nI kh) hs)) hO3
              have hf9 : fr [29] wk ((wk.set 29 (MO n mm np (nI (faultM n np pg).2.1) (nI (faultM n np pg).2.2.1) (nj + 1) tr sd pn hn (keptI km) (nI kp) (nI kh) hs)).set 29 (MO n mm 0 (nI (faultM n np pg).2.1) (nI (faultM n np pg).2.2.1) (nj + 1) tr sd pn hn (keptI km) (nI kp) (nI kh) hs)) := (fr.rfl.set (by decide)).set (by decide)
              refine V_eqW (ws2 := (wk.set 29 (MO n mm np (nI (faultM n np pg).2.1) (nI (faultM n np pg).2.2.1) (nj + 1) tr sd pn hn (keptI km) (nI kp) (nI kh) hs)).set 29 (MO n mm 0 (nI (faultM n np pg).2.1) (nI (faultM n np pg).2.2.1) (nj + 1) tr sd pn hn (keptI km) (nI kp) (nI kh) hs)) rfl ?_
              generalize (wk.set 29 (MO n mm np (nI (faultM n np pg).2.1) (nI (faultM n np pg).2.2.1) (nj + 1) tr sd pn hn (keptI km) (nI kp) (nI kh) hs)).set 29 (MO n mm 0 (nI (faultM n np pg).2.1) (nI (faultM n np pg).2.2.1) (nj + 1) tr sd pn hn (keptI km) (nI kp) (nI kh) hs) = wz at hO4 hf9 ⊢
              have hfz : fr [29, 35, 36] ws wz := ((hfb.mono (ks2 := [29, 35, 36]) (by decide)).trans (hfr.mono (by decide))).trans (hf9.mono (by decide))
              obtain ⟨a1, a2, a3, a4, a5, a6, a7⟩ := hJ
              refine V_aload_n0 X dX12_judge_100 ?_
              refine V_getf X dX12_judge_101 fX12_154 (by assumption) (by rfl) ?_
              refine V_iconstE X (nI 1) dX12_judge_104 (by decide +kernel) ?_
              refine V_isub X dX12_judge_105 ?_
              refine V_iret X dX12_judge_106 ⟨?_, ?_, hfz.mono (ks2 := ref18) (by decide)⟩
              · rw [r_judge, hok, if_pos rfl, if_pos hnj]
                exact pk_sub (by omega)
              · rw [if_pos ⟨hok, hnj⟩]
                refine ⟨⟨_, _, sd, hs, hO4⟩, ⟨a1, by omega, a3, fun j hj => ?_, a5.fr hfz (by decide), a6.fr hfz (by decide), fj, hf9.get (by decide) hj5, fun j hj w hw => ?_⟩, ⟨h60, by omega, hp6, hh6⟩, hl.fr hfz (by decide), (hpg.cut (j := 0) (by omega)).fr hfz (by decide), hPe.fr hfz (by decide), hU.fr hfz (by decide), hkk.fr hfz (by decide), hkl.fr hfz (by decide), hkp.fr hfz (by decide), hkh.fr hfz (by decide), scr_gen hscr hfz (Or.inl (by decide)) (Or.inr ⟨fq, hf9.get (by decide) hq3⟩) (Or.inl (by decide)) (Or.inl (by decide)) (Or.inl (by decide)) (Or.inl (by decide))⟩
                · by_cases q : j = nj
                  · rw [q, upJ_eq]; exact hjo
                  · rw [upJ_lt (by omega)]; exact a4 j (by omega)
                · by_cases q : j = nj
                  · rw [q, upJ_eq, hj7 w hw, hq2 w hw, hjr w hw]
                  · rw [upJ_lt (by omega), hj6 _ (by omega)]; exact hj4 j (by omega) w hw
            · have e4 := c_nle h6
              refine V_aload_n0 X dX12_judge_59 ?_
              refine V_getf X dX12_judge_60 fX12_28 (by assumption) (by rfl) ?_
              refine V_bipushE X (nI 6) dX12_judge_63 (by decide +kernel) ?_
              refine V_aload_n0 X dX12_judge_65 ?_
              refine V_getf X dX12_judge_66 fX12_154 (by assumption) (by rfl) ?_
              refine V_imul X dX12_judge_69 ?_
              refine V_iload_n1 X dX12_judge_70 ?_
              refine V_iadd X dX12_judge_71 ?_
              refine V_aload_n0 X dX12_judge_72 ?_
              refine V_getf X dX12_judge_73 fX12_25 (by assumption) (by rfl) ?_
              refine V_iload_n1 X dX12_judge_76 ?_
              refine V_iald X f dX12_judge_77 (by assumption) rfl e4 (by omega) ?_
              refine V_iast X (6 * nj + f) dX12_judge_78 (by assumption) (by rw [pk_mul, nI_add]) (by omega) (by omega) ?_
              refine V_iinc_1 X dX12_judge_79 (Nat.le_of_ble_eq_true rfl) rfl (inc1 _) ?_
              refine V_goto X 53 dX12_judge_82 (by decide) ?_
              refine ih (k - 1) _ _ (by omega) ⟨f + 1, by omega, ⟨_, gset hj5, fun i hi => ?_, fun i hi => ?_⟩, hfr.set (by decide), rfl⟩
              · rw [pk_un (by omega)]; exact hj6 i hi
              · by_cases q : i = f
                · subst q; rw [pk_us]
                · rw [pk_un (by omega)]; exact hj7 i (by omega)
          · have e5 := c_eq h5
            refine V_bipushE X (-104) dX12_judge_48 (by decide +kernel) ?_
            exact V_iret X dX12_judge_50 ⟨by rw [r_judge, hok, if_pos rfl, if_neg (by omega)], by rw [if_neg (by omega)]; exact hM1, hfb.mono (ks2 := ref18) (by decide)⟩
        · have e6 := c_eq h4
          exact no (by rw [okM, decide_eq_false (show ¬ ¬ _ from fun q => q e6), Bool.and_false])
theorem l_and255 (m : Nat) : ((lN m) &&& (255 : Int64)).toInt32 = nI (m % 256) := by
  rw [show (255 : Int64) = lN 255 by decide +kernel, lN_and, lN_i, and255]
theorem letN_next (W k : Nat) : W / 2 ^ (8 * k) / 2 ^ 8 = W / 2 ^ (8 * (k + 1)) := by
  rw [Nat.div_div_eq_div_mul, ← Nat.pow_add]; rfl
def addK (np W : Nat) : Nat := match letTo (letN W) 8 with
  | none => 0
  | some q => if np + q ≤ 10 then q else 0
set_option maxHeartbeats 1000000 in
theorem q_letters (l : Launch) (G : GX) (ad : Nat → Nat) (ws : List CE) (n : Nat) (K : Nat → Nat) (kg mm : Nat) (Ln : Nat → Nat) (np : Nat) (pg : Nat → Nat) (nj : Nat) (Js : Nat → JD) (pn : Nat) (Pe : Nat → Nat) (hn : Nat) (U : Nat → Nat) (tr kk km kp kh rd : Nat) (hM : RM ws n K kg mm Ln np pg nj Js pn Pe hn U tr kk km kp kh rd) (hK : OKs n K kg mm Ln np pg nj Js pn Pe hn U tr kk km kp kh rd) (W : Nat) (hW : W < 2 ^ 64) : Ct l G yX12_letters cX12_letters 9 (some .int) 0 0 0 ad ws [.ref 29, .long (lN W)] (pI ad (fun r ws2 => r = r_letters np W ∧ RM ws2 n K kg mm Ln (np + addK np W) (addL pg np W (addK np W)) nj Js pn Pe hn U tr kk km kp kh rd ∧ fr ref18 ws ws2)) := by
  refine Ct.of [some (.ref 29), some (.long (lN W)), none, none, none, none, none, none, none] (by decide +kernel) (Nat.le_of_ble_eq_true rfl) rfl ?_
  intro p e s m args below meth c A X
  have hM0 := hM
  obtain ⟨⟨rm, sa, sd, hs, hO⟩, hJ, ⟨h60, h10, hp6, hh6⟩, hl, hpg, hPe, hU, hkk, hkl, hkp, hkh, hscr⟩ := hM
  obtain ⟨o1, o2, o3, o4, o5, o6, o7, o8, o9, o10, o11, o12, o13, o14⟩ := hK
  have h104 := pow_le4 o1
  have hkd := hJ.2.2.2.2.1
  have hkd5 := hJ.2.2.1
  have hkin := hJ.2.2.2.2.2.1
  have hz : addK np W = 0 → RM ws n K kg mm Ln (np + addK np W) (addL pg np W (addK np W)) nj Js pn Pe hn U tr kk km kp kh rd := by
    intro q
    rw [q, addL_0]; exact hM0
  refine V_iconstE X (nI 0) dX12_letters_0 (by decide +kernel) ?_
  refine V_istore_n3 X dX12_letters_1 (Nat.le_of_ble_eq_true rfl) rfl ?_
  refine V_iconstE X (nI 1) dX12_letters_2 (by decide +kernel) ?_
  refine V_istore_4 X dX12_letters_3 (Nat.le_of_ble_eq_true rfl) rfl ?_
  refine V_lload_n1 X dX12_letters_5 ?_
  refine V_lstore_5 X dX12_letters_6 (Nat.le_of_ble_eq_true rfl) rfl ?_
  refine V_iconstE X (nI 0) dX12_letters_8 (by decide +kernel) ?_
  refine V_istore_7 X dX12_letters_9 (Nat.le_of_ble_eq_true rfl) rfl ?_
  refine V_loopP (fun k lv2 => ∃ (i q : Nat) (g : Bool) (w8 : Option Value), i + k = 8 ∧ (g = true → letTo (letN W) i = some q) ∧ (g = false → letTo (letN W) i = none) ∧ q ≤ i ∧ lv2 = [some (.ref 29), some (.long (lN W)), none, some (.int (nI q)), some (.int (bI g)), some (.long (lN (W / 2 ^ (8 * i)))), none, some (.int (nI i)), w8]) 8 ⟨0, 0, true, none, by omega, fun _ => rfl, (fun q => by cases q), by omega, by rw [Nat.mul_zero, Nat.pow_zero, Nat.div_one]; rfl⟩ ?_
  rintro k _ ⟨i, q, g, w8, hi, hg1, hg2, hqi, rfl⟩ ih
  refine V_iload_7 X dX12_letters_11 ?_
  refine V_bipushE X (nI 8) dX12_letters_13 (by decide +kernel) ?_
  refine V_icmp_ge X 83 dX12_letters_15 (by decide) (fun h => ?_) (fun h => ?_)
  · have e9 : i = 8 := by have := c_le h; omega
    subst e9
    clear ih
    refine V_iload_4 X dX12_letters_83 ?_
    refine V_if_ne X 91 dX12_letters_85 (by decide) (fun h2 => ?_) (fun h2 => ?_)
    · have e8 := b_of1 h2
      have hq := hg1 e8
      refine V_aload_n0 X dX12_letters_91 ?_
      refine V_getf X dX12_letters_92 fX12_139 (by assumption) (by rfl) ?_
      refine V_iload_n3 X dX12_letters_95 ?_
      refine V_iadd X dX12_letters_96 ?_
      rw [nI_add]
      refine V_bipushE X (nI 10) dX12_letters_97 (by decide +kernel) ?_
      refine V_icmp_le X 105 dX12_letters_99 (by decide) (fun h3 => ?_) (fun h3 => ?_)
      · have e7 := c_le h3
        have hak : addK np W = q := by rw [addK, hq]; exact if_pos e7
        rw [hak]
        refine V_iconstE X (nI 0) dX12_letters_105 (by decide +kernel) ?_
        refine V_istore_7 X dX12_letters_106 (Nat.le_of_ble_eq_true rfl) rfl ?_
        refine V_loop (fun k2 wk lv2 => ∃ k : Nat, k + k2 = q ∧ lv2 = [some (.ref 29), some (.long (lN W)), none, some (.int (nI q)), some (.int (bI g)), some (.long (lN (W / 2 ^ (8 * 8)))), none, some (.int (nI k)), w8] ∧ fr [29, 34] ws wk ∧ wk[29]? = some (MO n mm (np + k) rm sa nj tr sd pn hn (keptI km) (nI kp) (nI kh) hs) ∧ AI wk 34 10 (np + k) (addL pg np W k)) q ⟨0, by omega, rfl, fr.rfl, hO, by rw [addL_0]; exact hpg⟩ ?_
        rintro k2 wk _ ⟨k3, hk3, rfl, hfb, hO2, hA⟩ ih
        refine V_iload_7 X dX12_letters_108 ?_
        refine V_iload_n3 X dX12_letters_110 ?_
        refine V_icmp_ge X 151 dX12_letters_111 (by decide) (fun h4 => ?_) (fun h4 => ?_)
        · have e6 : k3 = q := by have := c_le h4; omega
          subst e6
          refine V_aload_n0 X dX12_letters_151 ?_
          refine V_getf X dX12_letters_152 fX12_139 (by assumption) (by rfl) ?_
          exact V_iret X dX12_letters_155 ⟨by rw [r_letters, hq]; exact (if_pos e7).symm, ⟨⟨rm, sa, sd, hs, hO2⟩, hJ.fr hfb (by decide) (by decide) (by decide), ⟨h60, e7, hp6, hh6⟩, hl.fr hfb (by decide), hA, hPe.fr hfb (by decide), hU.fr hfb (by decide), hkk.fr hfb (by decide), hkl.fr hfb (by decide), hkp.fr hfb (by decide), hkh.fr hfb (by decide), hscr.fr hfb (by decide) (by decide) (by decide) (by decide) (by decide) (by decide)⟩, hfb.mono (ks2 := ref18) (by decide)⟩
        · have e6 := c_nle h4
          obtain ⟨fp, hp1, hp2⟩ := hA
          refine V_aload_n0 X dX12_letters_114 ?_
          refine V_getf X dX12_letters_115 fX12_22 (by assumption) (by rfl) ?_
          refine V_aload_n0 X dX12_letters_118 ?_
          refine V_getf X dX12_letters_119 fX12_139 (by assumption) (by rfl) ?_
          refine V_lload_n1 X dX12_letters_122 ?_
          refine V_bipushE X (nI 8) dX12_letters_123 (by decide +kernel) ?_
          refine V_iload_7 X dX12_letters_125 ?_
          refine V_imul X dX12_letters_127 ?_
          rw [pk_mul]
          refine V_lushr X dX12_letters_128 ?_
          rw [wb_shr hW (by omega)]
          refine V_ldc2 X dX12_letters_129 w_1001 ?_
          refine V_land X dX12_letters_132 ?_
          refine V_l2i X dX12_letters_133 ?_
          rw [l_and255]
          refine V_iast X (np + k3) dX12_letters_134 (by assumption) rfl (by omega) (by omega) ?_
          have hO3 := gne (k := 34) (e2 := iA 10 (upd fp (np + k3) (nI (W / 2 ^ (8 * k3) % 256)))) (by decide) hO2
          have hA2 := AI.put hp1 hp2 (letN W k3)
          rw [addL_step] at hA2
          refine V_aload_n0 X dX12_letters_135 ?_
          refine V_dup X dX12_letters_136 rfl ?_
          refine V_getf X dX12_letters_137 fX12_139 (by assumption) (by rfl) ?_
          refine V_iconstE X (nI 1) dX12_letters_140 (by decide +kernel) ?_
          refine V_iadd X dX12_letters_141 ?_
          refine V_putf X dX12_letters_142 fX12_139 (by assumption) (Nat.le_of_ble_eq_true rfl) rfl rfl ?_
          refine V_eqW (ws2 := (wk.set 34 (iA 10 (upd fp (np + k3) (nI (letN W k3))))).set 29 (MO n mm (np + (k3 + 1)) rm sa nj tr sd pn hn (keptI km) (nI kp) (nI kh) hs)) (by rw [nI_add]; rfl) ?_
          have hO4 := gset (e2 := (MO n mm (np + (k3 + 1)) rm sa nj tr sd pn hn (keptI km) (nI kp) (nI kh) hs)) hO3
          have hf4 : fr [29] (wk.set 34 (iA 10 (upd fp (np + k3) (nI (letN W k3))))) ((wk.set 34 (iA 10 (upd fp (np + k3) (nI (letN W k3))))).set 29 (MO n mm (np + (k3 + 1)) rm sa nj tr sd pn hn (keptI km) (nI kp) (nI kh) hs)) := fr.rfl.set (by decide)
          have hA3 := hA2.fr hf4 (by decide)
          refine V_iinc_7 X dX12_letters_145 (Nat.le_of_ble_eq_true rfl) rfl (inc1 _) ?_
          refine V_goto X 108 dX12_letters_148 (by decide) ?_
          exact ih (k2 - 1) _ _ (by omega) ⟨k3 + 1, by omega, rfl, (hfb.set (by decide)).set (by decide), hO4, hA3⟩
      · have e7 := c_nle h3
        have hak : addK np W = 0 := by rw [addK, hq]; exact if_neg (by omega)
        refine V_bipushE X (-104) dX12_letters_102 (by decide +kernel) ?_
        exact V_iret X dX12_letters_104 ⟨by rw [r_letters, hq]; exact (if_neg (by omega)).symm, hz hak, fr.rfl⟩
    · have e8 := b_of0 h2
      have hq := hg2 e8
      have hak : addK np W = 0 := by rw [addK, hq]
      refine V_bipushE X (-102) dX12_letters_88 (by decide +kernel) ?_
      exact V_iret X dX12_letters_90 ⟨by rw [r_letters, hq], hz hak, fr.rfl⟩
  · have e9 := c_nle h
    have hlt : letN W i < 256 := Nat.mod_lt _ (by decide)
    refine V_lload_5 X dX12_letters_18 ?_
    refine V_ldc2 X dX12_letters_20 w_1001 ?_
    refine V_land X dX12_letters_23 ?_
    refine V_l2i X dX12_letters_24 ?_
    rw [l_and255, show W / 2 ^ (8 * i) % 256 = letN W i from rfl]
    refine V_istore_8 X dX12_letters_25 (Nat.le_of_ble_eq_true rfl) rfl ?_
    refine V_lload_5 X dX12_letters_27 ?_
    refine V_bipushE X (nI 8) dX12_letters_29 (by decide +kernel) ?_
    refine V_lushr X dX12_letters_31 ?_
    rw [wb_shr (Nat.lt_of_le_of_lt (Nat.div_le_self _ _) hW) (by decide), letN_next]
    refine V_lstore_5 X dX12_letters_32 (Nat.le_of_ble_eq_true rfl) rfl ?_
    have fin : ∀ g2 : Bool, (g2 = true → letTo (letN W) (i + 1) = some (if letN W i = 0 then q else q + 1)) → (g2 = false → letTo (letN W) (i + 1) = none) → V p l e (rmm 0 0 0) s m args below meth c 0 0 (MQ below (QQ G A (pI ad (fun r ws2 => r = r_letters np W ∧ RM ws2 n K kg mm Ln (np + addK np W) (addL pg np W (addK np W)) nj Js pn Pe hn U tr kk km kp kh rd ∧ fr ref18 ws ws2))) args s 0 0 A) G A 9 ad ws 62 [some (.ref 29), some (.long (lN W)), none, some (.int (nI q)), some (.int (bI g)), some (.long (lN (W / 2 ^ (8 * (i + 1))))), none, some (.int (nI i)), some (.int (nI (letN W i)))] [.int (bI g2)] := by
      intro g2 p1 p2
      refine V_istore_4 X dX12_letters_62 (Nat.le_of_ble_eq_true rfl) rfl ?_
      refine V_iload_n3 X dX12_letters_64 ?_
      refine V_iload_8 X dX12_letters_65 ?_
      refine V_if_le X 74 dX12_letters_67 (by decide) (fun h6 => ?_) (fun h6 => ?_)
      · have e8 := c_le0 h6
        rw [if_pos e8] at p1
        refine V_iconstE X (nI 0) dX12_letters_74 (by decide +kernel) ?_
        refine V_iadd X dX12_letters_75 ?_
        rw [nI_add]
        refine V_istore_n3 X dX12_letters_76 (Nat.le_of_ble_eq_true rfl) rfl ?_
        refine V_iinc_7 X dX12_letters_77 (Nat.le_of_ble_eq_true rfl) rfl (inc1 _) ?_
        refine V_goto X 11 dX12_letters_80 (by decide) ?_
        exact ih (k - 1) _ (by omega) ⟨i + 1, q, g2, _, by omega, p1, p2, by omega, rfl⟩
      · have e8 := c_nle0 h6
        rw [if_neg (by omega)] at p1
        refine V_iconstE X (nI 1) dX12_letters_70 (by decide +kernel) ?_
        refine V_goto X 75 dX12_letters_71 (by decide) ?_
        refine V_iadd X dX12_letters_75 ?_
        rw [nI_add]
        refine V_istore_n3 X dX12_letters_76 (Nat.le_of_ble_eq_true rfl) rfl ?_
        refine V_iinc_7 X dX12_letters_77 (Nat.le_of_ble_eq_true rfl) rfl (inc1 _) ?_
        refine V_goto X 11 dX12_letters_80 (by decide) ?_
        exact ih (k - 1) _ (by omega) ⟨i + 1, q + 1, g2, _, by omega, p1, p2, by omega, rfl⟩
    have bad : (g = true → (126 < letN W i ∨ (letN W i ≠ 0 ∧ q < i))) → V p l e (rmm 0 0 0) s m args below meth c 0 0 (MQ below (QQ G A (pI ad (fun r ws2 => r = r_letters np W ∧ RM ws2 n K kg mm Ln (np + addK np W) (addL pg np W (addK np W)) nj Js pn Pe hn U tr kk km kp kh rd ∧ fr ref18 ws ws2))) args s 0 0 A) G A 9 ad ws 61 [some (.ref 29), some (.long (lN W)), none, some (.int (nI q)), some (.int (bI g)), some (.long (lN (W / 2 ^ (8 * (i + 1))))), none, some (.int (nI i)), some (.int (nI (letN W i)))] [] := by
      intro hb
      refine V_iconstE X (nI 0) dX12_letters_61 (by decide +kernel) ?_
      refine fin false (fun q9 => by cases q9) (fun _ => ?_)
      cases g with
      | false => rw [letTo, hg2 rfl]
      | true => rw [letTo, hg1 rfl]; simp only; rw [if_pos (hb rfl)]
    have good : g = true → ¬ (126 < letN W i ∨ (letN W i ≠ 0 ∧ q < i)) → V p l e (rmm 0 0 0) s m args below meth c 0 0 (MQ below (QQ G A (pI ad (fun r ws2 => r = r_letters np W ∧ RM ws2 n K kg mm Ln (np + addK np W) (addL pg np W (addK np W)) nj Js pn Pe hn U tr kk km kp kh rd ∧ fr ref18 ws ws2))) args s 0 0 A) G A 9 ad ws 57 [some (.ref 29), some (.long (lN W)), none, some (.int (nI q)), some (.int (bI g)), some (.long (lN (W / 2 ^ (8 * (i + 1))))), none, some (.int (nI i)), some (.int (nI (letN W i)))] [] := by
      intro hgt hb
      refine V_iconstE X (nI 1) dX12_letters_57 (by decide +kernel) ?_
      refine V_goto X 62 dX12_letters_58 (by decide) ?_
      refine fin true (fun _ => ?_) (fun q9 => by cases q9)
      rw [letTo, hg1 hgt]; simp only; rw [if_neg hb]
    refine V_iload_4 X dX12_letters_34 ?_
    refine V_if_eq X 61 dX12_letters_36 (by decide) (fun h2 => ?_) (fun h2 => ?_)
    · have e8 := b_of0 h2
      exact bad (fun q9 => by rw [e8] at q9; cases q9)
    · have e8 := b_of1 h2
      refine V_iload_8 X dX12_letters_39 ?_
      refine V_bipushE X (nI 126) dX12_letters_41 (by decide +kernel) ?_
      refine V_icmp_gt X 61 dX12_letters_43 (by decide) (fun h3 => ?_) (fun h3 => ?_)
      · have e7 := c_lt h3
        exact bad (fun _ => Or.inl e7)
      · have e7 := c_nlt h3
        refine V_iload_8 X dX12_letters_46 ?_
        refine V_if_eq X 57 dX12_letters_48 (by decide) (fun h4 => ?_) (fun h4 => ?_)
        · have e6 := c_eq0 h4
          exact good e8 (fun q9 => by omega)
        · have e6 := c_ne0 h4
          refine V_iload_n3 X dX12_letters_51 ?_
          refine V_iload_7 X dX12_letters_52 ?_
          refine V_icmp_ne X 61 dX12_letters_54 (by decide) (fun h5 => ?_) (fun h5 => ?_)
          · have e5 := c_ne h5
            exact bad (fun _ => Or.inr ⟨by omega, by omega⟩)
          · have e5 := c_eq h5
            exact good e8 (fun q9 => by omega)
