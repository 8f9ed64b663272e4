/-! the reference: years by a seed, true features -/
theorem slipK_ne {k a v : Nat} {up : Bool} (ha : a < 10) (h : slipK k a up = some v) : v ≠ a := by
  unfold slipK at h
  split at h
  · cases h
    cases up <;> simp <;> omega
  · split at h
    · split at h
      · cases h
      · cases h; omega
    · split at h
      · cases h
      · cases h; omega
theorem slipP_ne {K : Nat → Nat} {p0 f x : Nat} {up : Bool} (h : slipP K p0 f up = some x) : x ≠ p0 := by
  unfold slipP at h
  cases hs : slipK (K f) (dg p0 f) up with
  | none => rw [hs] at h; cases h
  | some v =>
    rw [hs] at h
    cases h
    intro q
    have h1 := slipK_ne (dg_lt _ _) hs
    have h2 := dg_withP_self (p := p0) (f := f) (slipK_lt (dg_lt _ _) hs)
    rw [q] at h2
    exact h1 h2.symm
theorem copStep_Q (n : Nat) (K : Nat → Nat) (nj : Nat) (Js : Nat → JD) (q : CS4) (z : Nat) (hz : z = slipQ K q.1 (nxN q.2.2.2 / 65536 % n) (decide (nxN (nxN q.2.2.2) / 65536 % 2 = 1))) : copStep n K nj Js q = if z ≠ q.1 ∧ agreeP n K nj Js q.1 z (agedP n K q.2.1) = true then (z, agedP n K q.2.1, q.2.2.1 + 1, nxN (nxN q.2.2.2)) else (q.1, agedP n K q.2.1, q.2.2.1, nxN (nxN q.2.2.2)) := by
  unfold copStep
  unfold slipQ at hz
  cases hs : slipP K q.1 (nxN q.2.2.2 / 65536 % n) (decide (nxN (nxN q.2.2.2) / 65536 % 2 = 1)) with
  | none =>
    rw [hs] at hz
    simp only
    rw [if_neg (fun w => w.1 hz)]
  | some x =>
    rw [hs] at hz
    have hz : z = x := hz
    subst hz
    simp only
    by_cases w : agreeP n K nj Js q.1 z (agedP n K q.2.1) = true
    · rw [if_pos w, if_pos ⟨slipP_ne hs, w⟩]
    · rw [if_neg w, if_neg (fun v => w v.2)]
theorem nI_b2 (m : Nat) : nI (m % 2) = bI (decide (m % 2 = 1)) := by
  rcases Nat.mod_two_eq_zero_or_one m with h | h
  · rw [h]; rfl
  · rw [h]; rfl
theorem inL_60 (x : Int32) {hi : Int64} (h2 : hi.toInt = 60) : inL x.toInt64 (lN 1) hi = (decide (¬ x < nI 1) && decide (¬ nI 60 < x)) := by
  rw [inL_int, Int32.toInt_toInt64, h2, pk_lT (by decide), Bool.eq_iff_iff]
  simp only [Bool.and_eq_true, decide_eq_true_eq, Int32.lt_iff_toInt_lt, nI_toInt (show 1 < 2 ^ 31 by decide), nI_toInt (show 60 < 2 ^ 31 by decide)]
  constructor <;> intro h <;> omega
theorem inL_3 (x : Int32) {hi : Int64} (h2 : hi.toInt = 3) : inL x.toInt64 (lN 0) hi = (decide (¬ x < 0) && decide (x ≤ nI 3)) := by
  rw [inL_int, Int32.toInt_toInt64, h2, pk_lT (by decide), Bool.eq_iff_iff]
  simp only [Bool.and_eq_true, decide_eq_true_eq, Int32.lt_iff_toInt_lt, Int32.le_iff_toInt_le, nI_toInt (show 3 < 2 ^ 31 by decide), show (0 : Int32).toInt = 0 from rfl]
  constructor <;> intro h <;> omega
set_option maxHeartbeats 2000000 in
theorem q_copies (l : Launch) (G : GX) (ad : Nat → Nat) (ws : List CE) (n : Nat) (K : Nat → Nat) (kg mm : Nat) (Ln : Nat → Nat) (np : Nat) (pg : Nat → Nat) (nj : Nat) (Js : Nat → JD) (pn : Nat) (Pe : Nat → Nat) (hn : Nat) (U : Nat → Nat) (tr kk km kp kh rd : Nat) (hM : RM ws n K kg mm Ln np pg nj Js pn Pe hn U tr kk km kp kh rd) (hK : OKs n K kg mm Ln np pg nj Js pn Pe hn U tr kk km kp kh rd) (x z w : Int32) : Ct l G yX12_copies cX12_copies 10 (some .int) 8 0 0 ad ws [.ref 29, .int x, .int z, .int w] (pI ad (fun r ws2 => r = r_copies n K mm kg nj Js Ln x z w ∧ RM ws2 n K kg mm Ln np pg nj Js pn Pe hn U tr kk km kp kh rd ∧ fr ref18 ws ws2)) := by
  refine Ct.of [some (.ref 29), some (.int x), some (.int z), some (.int w), none, none, none, none, none, none] (by decide +kernel) (Nat.le_of_ble_eq_true rfl) rfl ?_
  intro p e s m args below meth c A X
  have hM0 := hM
  obtain ⟨⟨rm, sa, sd, hs, hO⟩, hJ, ⟨h60, h10, hp6, hh6⟩, hl, hpg, hPe, hU, hkk, hkl, hkp, hkh, hscr⟩ := hM
  obtain ⟨o1, o2, o3, o4, o5, o6, o7, o8, o9, o10, o11, o12, o13, o14⟩ := hK
  have h104 := pow_le4 o1
  have hkd := hJ.2.2.2.2.1
  have hkd5 := hJ.2.2.1
  have hkin := hJ.2.2.2.2.2.1
  obtain ⟨ft, hft⟩ := hscr.1
  refine V_aload_n0 X dX12_copies_0 ?_
  refine V_cV0I X dX12_copies_1 kX12_79 (m_lacks l G ad ws hO h60) (by assumption) (by rfl) (Nat.le_of_ble_eq_true rfl) ⟨⟨Nat.le_of_ble_eq_true rfl, Nat.le_of_ble_eq_true rfl⟩, Nat.le_of_ble_eq_true rfl, Nat.le_of_ble_eq_true rfl⟩ (fun r ws2 hc => ?_)
  obtain ⟨rfl, hw9⟩ := hc
  obtain rfl := hw9.symm
  refine V_if_eq X 10 dX12_copies_4 (by decide) (fun h => ?_) (fun h => ?_)
  · have e9 := of_decide_eq_false (b_of0 h)
    have hn2 := o7 (by omega)
    have hla := o3 (mm - 1) (by omega)
    refine V_iload_n1 X dX12_copies_10 ?_
    refine V_i2l X dX12_copies_11 ?_
    refine V_lconstE X (lN 1) dX12_copies_12 (by decide +kernel) ?_
    refine V_ldc2 X dX12_copies_13 w_1068 ?_
    refine V_cS3I X dX12_copies_16 kX12_68 (m_in l G ad ws _ _ _) (Nat.le_of_ble_eq_true rfl) ⟨⟨Nat.le_of_ble_eq_true rfl, Nat.le_of_ble_eq_true rfl⟩, Nat.le_of_ble_eq_true rfl, Nat.le_of_ble_eq_true rfl⟩ (fun r ws2 hc => ?_)
    obtain ⟨rfl, hw9⟩ := hc
    obtain rfl := hw9.symm
    rw [inL_60 x (by decide +kernel)]
    refine V_if_eq X 38 dX12_copies_19 (by decide) (fun h1 => ?_) (fun h1 => ?_)
    · have e8 := b_of0 h1
      refine V_bipushE X (-102) dX12_copies_38 (by decide +kernel) ?_
      exact V_iret X dX12_copies_40 ⟨by rw [r_copies, if_neg e9, e8]; rfl, hM0, fr.rfl⟩
    · have e8 := b_of1 h1
      refine V_iload_n2 X dX12_copies_22 ?_
      refine V_if_lt X 38 dX12_copies_23 (by decide) (fun h2 => ?_) (fun h2 => ?_)
      · refine V_bipushE X (-102) dX12_copies_38 (by decide +kernel) ?_
        exact V_iret X dX12_copies_40 ⟨by rw [r_copies, if_neg e9, e8, decide_eq_false (show ¬ ¬ z < 0 from fun q => q h2)]; rfl, hM0, fr.rfl⟩
      · refine V_iload_n3 X dX12_copies_26 ?_
        refine V_i2l X dX12_copies_27 ?_
        refine V_lconstE X (lN 0) dX12_copies_28 (by decide +kernel) ?_
        refine V_ldc2 X dX12_copies_29 w_1069 ?_
        refine V_cS3I X dX12_copies_32 kX12_68 (m_in l G ad ws _ _ _) (Nat.le_of_ble_eq_true rfl) ⟨⟨Nat.le_of_ble_eq_true rfl, Nat.le_of_ble_eq_true rfl⟩, Nat.le_of_ble_eq_true rfl, Nat.le_of_ble_eq_true rfl⟩ (fun r ws2 hc => ?_)
        obtain ⟨rfl, hw9⟩ := hc
        obtain rfl := hw9.symm
        rw [inL_3 w (by decide +kernel)]
        refine V_if_ne X 41 dX12_copies_35 (by decide) (fun h3 => ?_) (fun h3 => ?_)
        · have e7 := b_of1 h3
          have hcond : (decide (¬ x < nI 1) && decide (¬ nI 60 < x) && decide (¬ z < 0) && decide (¬ w < 0) && decide (w ≤ nI 3)) = true := by
            rw [e8, decide_eq_true h2, Bool.true_and, Bool.true_and]; exact e7
          have hr : r_copies n K mm kg nj Js Ln x z w = copI n K (copTo n K nj Js (Ln (mm - 1), kg, 0, valI z) (valI x)) (valI w) := by
            rw [r_copies, if_neg e9, if_pos hcond]
          rw [hr]
          simp only [Bool.and_eq_true, decide_eq_true_eq] at e8 e7
          have hx0 : ¬ x < 0 := fun q => e8.1 (Int32.lt_trans q (by decide +kernel))
          obtain ⟨y0, hy0, rfl⟩ := nI_of2 (M := nI 60) (n := 60) (by decide +kernel) hx0 (Int32.not_lt.mp e8.2)
          obtain ⟨s9, hs9, rfl⟩ := nI_of h2
          obtain ⟨wh, hwh, rfl⟩ := nI_of2 (M := nI 3) (n := 3) (by decide +kernel) e7.1 e7.2
          rw [valI_nI (by omega), valI_nI (by omega), valI_nI (by omega)]
          clear hr hcond h1 h2 h3 e8 e7 hx0
          refine V_aload_n0 X dX12_copies_41 ?_
          refine V_cV0V X dX12_copies_42 kX12_124 (m_keepKing l G ad ws hO kg hkin ft hft) (by assumption) (by rfl) (Nat.le_of_ble_eq_true rfl) ⟨⟨Nat.le_of_ble_eq_true rfl, Nat.le_of_ble_eq_true rfl⟩, Nat.le_of_ble_eq_true rfl, Nat.le_of_ble_eq_true rfl⟩ (fun ws2 hc => ?_)
          obtain ⟨hk33, hf1⟩ := hc
          generalize ws2 = w1 at hk33 hf1 ⊢
          have hO1 := hf1.get (by decide) hO
          refine V_aload_n0 X dX12_copies_45 ?_
          refine V_iload_n2 X dX12_copies_46 ?_
          refine V_putf X dX12_copies_47 fX12_187 (by assumption) (Nat.le_of_ble_eq_true rfl) rfl rfl ?_
          have hO2 := gset (e2 := (MO n mm np rm sa nj tr (nI s9) pn hn (keptI km) (nI kp) (nI kh) hs)) hO1
          have hf2 : fr [29, 31, 33] ws (w1.set 29 (MO n mm np rm sa nj tr (nI s9) pn hn (keptI km) (nI kp) (nI kh) hs)) := (hf1.mono (ks2 := [29, 31, 33]) (by decide)).set (by decide)
          have hk34 : AI (w1.set 29 (MO n mm np rm sa nj tr (nI s9) pn hn (keptI km) (nI kp) (nI kh) hs)) 33 4 4 (dg kg) := hk33.fr (ks := [29]) (fr.rfl.set (by decide)) (by decide)
          have hg2 : AI (w1.set 29 (MO n mm np rm sa nj tr (nI s9) pn hn (keptI km) (nI kp) (nI kh) hs)) 31 4 4 (dg kg) := (hkin.fr hf1 (by decide)).fr (ks := [29]) (fr.rfl.set (by decide)) (by decide)
          refine V_eqW (ws2 := w1.set 29 (MO n mm np rm sa nj tr (nI s9) pn hn (keptI km) (nI kp) (nI kh) hs)) rfl ?_
          generalize w1.set 29 (MO n mm np rm sa nj tr (nI s9) pn hn (keptI km) (nI kp) (nI kh) hs) = w2 at hO2 hf2 hk34 hg2 ⊢
          clear hk33 hf1 hO1
          refine V_aload_n0 X dX12_copies_50 ?_
          refine V_cV0I X dX12_copies_51 kX12_91 (m_last l G ad w2 hO2 (by omega) h60 Ln (hl.fr hf2 (by decide))) (by assumption) (by rfl) (Nat.le_of_ble_eq_true rfl) ⟨⟨Nat.le_of_ble_eq_true rfl, Nat.le_of_ble_eq_true rfl⟩, Nat.le_of_ble_eq_true rfl, Nat.le_of_ble_eq_true rfl⟩ (fun r ws2 hc => ?_)
          obtain ⟨rfl, hw9⟩ := hc
          obtain rfl := hw9.symm
          refine V_istore_4 X dX12_copies_54 (Nat.le_of_ble_eq_true rfl) rfl ?_
          refine V_iconstE X (nI 0) dX12_copies_56 (by decide +kernel) ?_
          refine V_istore_5 X dX12_copies_57 (Nat.le_of_ble_eq_true rfl) rfl ?_
          refine V_iconstE X (nI 0) dX12_copies_59 (by decide +kernel) ?_
          refine V_istore_6 X dX12_copies_60 (Nat.le_of_ble_eq_true rfl) rfl ?_
          refine V_loop (fun k wk lv2 => ∃ (y : Nat) (w7 w8 w9 : Option Value) (q : CS4), y + k = y0 ∧ q = copTo n K nj Js (Ln (mm - 1), kg, 0, s9) y ∧ q.1 < 10 ^ n ∧ q.2.1 < 10 ^ n ∧ q.2.2.1 ≤ y ∧ q.2.2.2 < 2147483648 ∧ wk[29]? = some (MO n mm np rm sa nj tr (nI q.2.2.2) pn hn (keptI km) (nI kp) (nI kh) hs) ∧ AI wk 31 4 4 (dg q.2.1) ∧ AI wk 33 4 4 (dg kg) ∧ fr [29, 31, 33] ws wk ∧ lv2 = [some (.ref 29), some (.int (nI y0)), some (.int (nI s9)), some (.int (nI wh)), some (.int (nI q.1)), some (.int (nI q.2.2.1)), some (.int (nI y)), w7, w8, w9]) y0 ⟨0, none, none, none, (Ln (mm - 1), kg, 0, s9), by omega, rfl, hla, o2, Nat.le_refl 0, by show s9 < 2147483648; omega, hO2, hg2, hk34, hf2, rfl⟩ ?_
          clear hO2 hg2 hk34 hf2
          rintro k wk _ ⟨y, w7, w8, w9, ⟨qa, qk, qm, qs⟩, hy, hq, hq1, hq2, hq3, hq4, hO2, hg2, hk34, hf2, rfl⟩ ih
          have hq1 : qa < 10 ^ n := hq1
          have hq2 : qk < 10 ^ n := hq2
          have hq3 : qm ≤ y := hq3
          have hq4 : qs < 2147483648 := hq4
          have hJ2 := MJ_king hJ hf2 (by decide) hg2 (by decide)
          refine V_iload_6 X dX12_copies_62 ?_
          refine V_iload_n1 X dX12_copies_64 ?_
          refine V_icmp_ge X 132 dX12_copies_65 (by decide) (fun g => ?_) (fun g => ?_)
          · have e8 : y = y0 := by have := c_le g; omega
            subst e8
            clear ih
            rw [← hq]
            refine V_aload_n0 X dX12_copies_132 ?_
            refine V_aload_n0 X dX12_copies_133 ?_
            refine V_cV0I X dX12_copies_134 kX12_105 (m_king l G ad wk hO2 o1 qk hg2 hq2) (by assumption) (by rfl) (Nat.le_of_ble_eq_true rfl) ⟨⟨Nat.le_of_ble_eq_true rfl, Nat.le_of_ble_eq_true rfl⟩, Nat.le_of_ble_eq_true rfl, Nat.le_of_ble_eq_true rfl⟩ (fun r ws2 hc => ?_)
            obtain ⟨rfl, hw9⟩ := hc
            obtain rfl := hw9.symm
            refine V_iload_4 X dX12_copies_137 ?_
            refine V_cV2I X dX12_copies_139 kX12_121 (m_apartOf l G ad wk hO2 o1 K hJ2.2.2.2.2.1 hkd5 qk qa (by omega) (by omega)) (by assumption) (by rfl) (Nat.le_of_ble_eq_true rfl) ⟨⟨Nat.le_of_ble_eq_true rfl, Nat.le_of_ble_eq_true rfl⟩, Nat.le_of_ble_eq_true rfl, Nat.le_of_ble_eq_true rfl⟩ (fun r ws2 hc => ?_)
            obtain ⟨rfl, hw9⟩ := hc
            obtain rfl := hw9.symm
            refine V_istore_6 X dX12_copies_142 (Nat.le_of_ble_eq_true rfl) rfl ?_
            refine V_aload_n0 X dX12_copies_144 ?_
            obtain ⟨fg3, hg3⟩ := hg2.ex
            refine V_cV0V X dX12_copies_145 kX12_134 (m_putBack l G ad wk hO2 kg hk34 fg3 hg3) (by assumption) (by rfl) (Nat.le_of_ble_eq_true rfl) ⟨⟨Nat.le_of_ble_eq_true rfl, Nat.le_of_ble_eq_true rfl⟩, Nat.le_of_ble_eq_true rfl, Nat.le_of_ble_eq_true rfl⟩ (fun ws2 hc => ?_)
            obtain ⟨hg4, hf3⟩ := hc
            generalize ws2 = w3 at hg4 hf3 ⊢
            have hO3 := hf3.get (by decide) hO2
            have hfz : fr [29, 31, 33] ws w3 := hf2.trans (hf3.mono (by decide))
            have hMz : RM w3 n K kg mm Ln np pg nj Js pn Pe hn U tr kk km kp kh rd := ⟨⟨rm, sa, _, hs, hO3⟩, MJ_king hJ hfz (by decide) hg4 (by decide), ⟨h60, h10, hp6, hh6⟩, hl.fr hfz (by decide), hpg.fr hfz (by decide), hPe.fr hfz (by decide), hU.fr hfz (by decide), hkk.fr hfz (by decide), hkl.fr hfz (by decide), hkp.fr hfz (by decide), hkh.fr hfz (by decide), scr_gen hscr hfz (Or.inr (hk34.fr hf3 (by decide)).ex) (Or.inl (by decide)) (Or.inl (by decide)) (Or.inl (by decide)) (Or.inl (by decide)) (Or.inl (by decide))⟩
            have hfr9 : fr ref18 ws w3 := hfz.mono (ks2 := ref18) (by decide)
            refine V_iload_n3 X dX12_copies_148 ?_
            refine V_if_ne X 157 dX12_copies_149 (by decide) (fun g2 => ?_) (fun g2 => ?_)
            · have e7 := c_ne0 g2
              refine V_iload_n3 X dX12_copies_157 ?_
              refine V_iconstE X (nI 1) dX12_copies_158 (by decide +kernel) ?_
              refine V_icmp_ne X 167 dX12_copies_159 (by decide) (fun g3 => ?_) (fun g3 => ?_)
              · have e6 := c_ne g3
                refine V_iload_n3 X dX12_copies_167 ?_
                refine V_iconstE X (nI 2) dX12_copies_168 (by decide +kernel) ?_
                refine V_icmp_ne X 177 dX12_copies_169 (by decide) (fun g4 => ?_) (fun g4 => ?_)
                · have e5 := c_ne g4
                  refine V_aload_n0 X dX12_copies_177 ?_
                  refine V_getf X dX12_copies_178 fX12_187 (by assumption) (by rfl) ?_
                  exact V_iret X dX12_copies_181 ⟨by rw [copI, if_neg (by omega), if_neg e6, if_neg e5], hMz, hfr9⟩
                · have e5 := c_eq g4
                  refine V_iload_5 X dX12_copies_172 ?_
                  refine V_goto X 181 dX12_copies_174 (by decide) ?_
                  exact V_iret X dX12_copies_181 ⟨by rw [copI, if_neg (by omega), if_neg e6, if_pos e5], hMz, hfr9⟩
              · have e6 := c_eq g3
                refine V_iload_6 X dX12_copies_162 ?_
                refine V_goto X 181 dX12_copies_164 (by decide) ?_
                exact V_iret X dX12_copies_181 ⟨by rw [copI, if_neg (by omega), if_pos e6]; exact congrArg nI (gapP_comm _ _ _ _), hMz, hfr9⟩
            · have e7 := c_eq0 g2
              refine V_iload_4 X dX12_copies_152 ?_
              refine V_goto X 181 dX12_copies_154 (by decide) ?_
              exact V_iret X dX12_copies_181 ⟨by rw [copI, if_pos e7], hMz, hfr9⟩
          · have e8 := c_nle g
            have hag := agedP_lt (K := K) hq2
            refine V_aload_n0 X dX12_copies_68 ?_
            refine V_cV0V X dX12_copies_69 kX12_127 (m_age l G ad wk hO2 o1 K hJ2.2.2.2.2.1 hkd5 qk hg2) (by assumption) (by rfl) (Nat.le_of_ble_eq_true rfl) ⟨⟨Nat.le_of_ble_eq_true rfl, Nat.le_of_ble_eq_true rfl⟩, Nat.le_of_ble_eq_true rfl, Nat.le_of_ble_eq_true rfl⟩ (fun ws2 hc => ?_)
            obtain ⟨hg4, hf3⟩ := hc
            generalize ws2 = w3 at hg4 hf3 ⊢
            have hO3 := hf3.get (by decide) hO2
            have hk35 := hk34.fr hf3 (by decide)
            have hf4 : fr [29, 31, 33] ws w3 := hf2.trans (hf3.mono (by decide))
            clear hO2 hg2 hk34 hJ2 hf3 hf2
            refine V_aload_n0 X dX12_copies_72 ?_
            refine V_aload_n0 X dX12_copies_73 ?_
            refine V_getf X dX12_copies_74 fX12_65 (by assumption) (by rfl) ?_
            refine V_cV1I X dX12_copies_77 kX12_199 (m_draw l G ad w3 hO3 qs n rfl hq4 (by omega) (by omega)) (by assumption) (by rfl) (Nat.le_of_ble_eq_true rfl) ⟨⟨Nat.le_of_ble_eq_true rfl, Nat.le_of_ble_eq_true rfl⟩, Nat.le_of_ble_eq_true rfl, Nat.le_of_ble_eq_true rfl⟩ (fun r ws2 hc => ?_)
            obtain ⟨rfl, rfl⟩ := hc
            have hO4 := gset (e2 := (MO n mm np rm sa nj tr (nI (nxN qs)) pn hn (keptI km) (nI kp) (nI kh) hs)) hO3
            have n1 := nxN_lt qs
            refine V_istore_7 X dX12_copies_80 (Nat.le_of_ble_eq_true rfl) rfl ?_
            refine V_aload_n0 X dX12_copies_82 ?_
            refine V_iconstE X (nI 2) dX12_copies_83 (by decide +kernel) ?_
            refine V_cV1I X dX12_copies_84 kX12_199 (m_draw l G ad _ hO4 (nxN qs) 2 rfl n1 (by decide) (by decide)) (by assumption) (by rfl) (Nat.le_of_ble_eq_true rfl) ⟨⟨Nat.le_of_ble_eq_true rfl, Nat.le_of_ble_eq_true rfl⟩, Nat.le_of_ble_eq_true rfl, Nat.le_of_ble_eq_true rfl⟩ (fun r ws2 hc => ?_)
            obtain ⟨rfl, rfl⟩ := hc
            have hO5 := gset (e2 := (MO n mm np rm sa nj tr (nI (nxN (nxN qs))) pn hn (keptI km) (nI kp) (nI kh) hs)) hO4
            have hf5 : fr [29] w3 ((w3.set 29 (MO n mm np rm sa nj tr (nI (nxN qs)) pn hn (keptI km) (nI kp) (nI kh) hs)).set 29 (MO n mm np rm sa nj tr (nI (nxN (nxN qs))) pn hn (keptI km) (nI kp) (nI kh) hs)) := (fr.rfl.set (by decide)).set (by decide)
            generalize (w3.set 29 (MO n mm np rm sa nj tr (nI (nxN qs)) pn hn (keptI km) (nI kp) (nI kh) hs)).set 29 (MO n mm np rm sa nj tr (nI (nxN (nxN qs))) pn hn (keptI km) (nI kp) (nI kh) hs) = w4 at hO5 hf5 ⊢
            have hf6 : fr [29, 31, 33] ws w4 := hf4.trans (hf5.mono (by decide))
            have hg5 := hg4.fr hf5 (by decide)
            have hk36 := hk35.fr hf5 (by decide)
            have hJ4 := MJ_king hJ hf6 (by decide) hg5 (by decide)
            clear hO4 hO3 hf5 hf4 hg4 hk35
            have n2 := nxN_lt (nxN qs)
            have hfn : nxN qs / 65536 % n < n := Nat.mod_lt _ (by omega)
            rw [nI_b2]
            refine V_istore_8 X dX12_copies_87 (Nat.le_of_ble_eq_true rfl) rfl ?_
            refine V_aload_n0 X dX12_copies_89 ?_
            refine V_iload_4 X dX12_copies_90 ?_
            refine V_iload_7 X dX12_copies_92 ?_
            refine V_iload_8 X dX12_copies_94 ?_
            refine V_cV3I X dX12_copies_96 kX12_170 (m_slipOf l G ad w4 hO5 K hJ4.2.2.2.2.1 hkd5 qa _ _ (by omega) (by omega)) (by assumption) (by rfl) (Nat.le_of_ble_eq_true rfl) ⟨⟨Nat.le_of_ble_eq_true rfl, Nat.le_of_ble_eq_true rfl⟩, Nat.le_of_ble_eq_true rfl, Nat.le_of_ble_eq_true rfl⟩ (fun r ws2 hc => ?_)
            obtain ⟨rfl, hw9⟩ := hc
            obtain rfl := hw9.symm
            have hst := copStep_Q n K nj Js (qa, qk, qm, qs) _ rfl
            have hsl := slipQ_lt (K := K) (up := decide (nxN (nxN qs) / 65536 % 2 = 1)) hq1 hfn
            have hcs : copTo n K nj Js (Ln (mm - 1), kg, 0, s9) (y + 1) = copStep n K nj Js (qa, qk, qm, qs) := by rw [copTo, ← hq]
            simp only at hst
            generalize slipQ K qa (nxN qs / 65536 % n) (decide (nxN (nxN qs) / 65536 % 2 = 1)) = zz at hst hsl ⊢
            refine V_istore_9 X dX12_copies_99 (Nat.le_of_ble_eq_true rfl) rfl ?_
            refine V_iload_9 X dX12_copies_101 ?_
            refine V_iload_4 X dX12_copies_103 ?_
            have stay : ¬ (zz ≠ qa ∧ agreeP n K nj Js qa zz (agedP n K qk) = true) → V p l e (rmm (8) 0 0) s m args below meth c 0 0 (MQ below (QQ G A (pI ad (fun r ws2 => r = copI n K (copTo n K nj Js (Ln (mm - 1), kg, 0, s9) y0) wh ∧ RM ws2 n K kg mm Ln np pg nj Js pn Pe hn U tr kk km kp kh rd ∧ fr ref18 ws ws2))) args s 0 0 A) G A 10 ad w4 126 [some (.ref 29), some (.int (nI y0)), some (.int (nI s9)), some (.int (nI wh)), some (.int (nI qa)), some (.int (nI qm)), some (.int (nI y)), some (.int (nI (nxN qs / 65536 % n))), some (.int (bI (decide (nxN (nxN qs) / 65536 % 2 = 1)))), some (.int (nI zz))] [] := by
              intro hno
              rw [if_neg hno] at hst
              refine V_iinc_6 X dX12_copies_126 (Nat.le_of_ble_eq_true rfl) rfl (inc1 _) ?_
              refine V_goto X 62 dX12_copies_129 (by decide) ?_
              exact ih (k - 1) _ _ (by omega) ⟨y + 1, _, _, _, (qa, agedP n K qk, qm, nxN (nxN qs)), by omega, by rw [hcs, hst], hq1, hag, by show qm ≤ y + 1; omega, n2, hO5, hg5, hk36, hf6, rfl⟩
            refine V_icmp_eq X 126 dX12_copies_105 (by decide) (fun g2 => ?_) (fun g2 => ?_)
            · have e7 := c_eq g2
              exact stay (fun v => v.1 e7)
            · have e7 := c_ne g2
              refine V_aload_n0 X dX12_copies_108 ?_
              refine V_iload_4 X dX12_copies_109 ?_
              refine V_iload_9 X dX12_copies_111 ?_
              refine V_cV2I X dX12_copies_113 kX12_130 (m_isLet l G ad w4 hO5 K _ Js hJ4 qa zz (by omega) (by omega)) (by assumption) (by rfl) (Nat.le_of_ble_eq_true rfl) ⟨⟨Nat.le_of_ble_eq_true rfl, Nat.le_of_ble_eq_true rfl⟩, Nat.le_of_ble_eq_true rfl, Nat.le_of_ble_eq_true rfl⟩ (fun r ws2 hc => ?_)
              obtain ⟨rfl, hw9⟩ := hc
              obtain rfl := hw9.symm
              refine V_if_eq X 126 dX12_copies_116 (by decide) (fun g3 => ?_) (fun g3 => ?_)
              · have e6 := b_of0 g3
                exact stay (fun v => by rw [e6] at v; exact absurd v.2 (by decide))
              · have e6 := b_of1 g3
                clear stay
                rw [if_pos ⟨e7, e6⟩] at hst
                refine V_iload_9 X dX12_copies_119 ?_
                refine V_istore_4 X dX12_copies_121 (Nat.le_of_ble_eq_true rfl) rfl ?_
                refine V_iinc_5 X dX12_copies_123 (Nat.le_of_ble_eq_true rfl) rfl (inc1 _) ?_
                refine V_iinc_6 X dX12_copies_126 (Nat.le_of_ble_eq_true rfl) rfl (inc1 _) ?_
                refine V_goto X 62 dX12_copies_129 (by decide) ?_
                exact ih (k - 1) _ _ (by omega) ⟨y + 1, _, _, _, (zz, agedP n K qk, qm + 1, nxN (nxN qs)), by omega, by rw [hcs, hst], hsl, hag, by show qm + 1 ≤ y + 1; omega, n2, hO5, hg5, hk36, hf6, rfl⟩
        · have e7 := b_of0 h3
          refine V_bipushE X (-102) dX12_copies_38 (by decide +kernel) ?_
          exact V_iret X dX12_copies_40 ⟨by rw [r_copies, if_neg e9, e8, decide_eq_true h2, Bool.and_assoc, e7]; rfl, hM0, fr.rfl⟩
  · have e9 := of_decide_eq_true (b_of1 h)
    refine V_bipushE X (-103) dX12_copies_7 (by decide +kernel) ?_
    exact V_iret X dX12_copies_9 ⟨by rw [r_copies, if_pos e9], hM0, fr.rfl⟩
