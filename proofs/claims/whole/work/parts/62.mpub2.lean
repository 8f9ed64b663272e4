/-! the reference: the calls that change it -/
theorem AI.ex {ws : List CE} {k N m : Nat} {U : Nat → Nat} (h : AI ws k N m U) : ∃ f, ws[k]? = some (iA N f) := h.elim (fun f q => ⟨f, q.1⟩)
theorem AI.cut {ws : List CE} {k N m j : Nat} {U : Nat → Nat} (h : AI ws k N m U) (hj : j ≤ m) : AI ws k N j U := by
  obtain ⟨f, h1, h2⟩ := h
  exact ⟨f, h1, fun i hi => h2 i (by omega)⟩
theorem AI.up {ws : List CE} {k N m j v : Nat} {U : Nat → Nat} (h : AI ws k N m U) (hj : m ≤ j) : AI ws k N m (updN U j v) := by
  obtain ⟨f, h1, h2⟩ := h
  exact ⟨f, h1, fun i hi => by rw [updN_ne (by omega)]; exact h2 i hi⟩
theorem AI.put {ws : List CE} {k N m : Nat} {U : Nat → Nat} {f : Nat → Int32} (h1 : ws[k]? = some (iA N f)) (h2 : ∀ i, i < m → f i = nI (U i)) (v : Nat) : AI (ws.set k (iA N (upd f m (nI v)))) k N (m + 1) (updN U m v) := by
  refine ⟨_, gset h1, fun i hi => ?_⟩
  by_cases e : i = m
  · subst e; rw [pk_us, updN_eq]
  · rw [pk_un e, updN_ne e]; exact h2 i (by omega)
theorem scr_gen {ks : List Nat} {ws ws2 : List CE} (h : scrM ws) (hf : fr ks ws ws2) (h1 : 33 ∉ ks ∨ ∃ f, ws2[33]? = some (iA 4 f)) (h2 : 35 ∉ ks ∨ ∃ f, ws2[35]? = some (iA 6 f)) (h3 : 37 ∉ ks ∨ ∃ f, ws2[37]? = some (iA 10000 f)) (h4 : 38 ∉ ks ∨ ∃ f, ws2[38]? = some (iA 10000 f)) (h5 : 41 ∉ ks ∨ ∃ f, ws2[41]? = some (iA 6 f)) (h6 : 42 ∉ ks ∨ ∃ f, ws2[42]? = some (iA 6 f)) : scrM ws2 := by
  obtain ⟨⟨a, ha⟩, ⟨b, hb⟩, ⟨c, hc⟩, ⟨d, hd⟩, ⟨e, he⟩, ⟨f, hf2⟩⟩ := h
  exact ⟨h1.elim (fun q => ⟨a, hf.get q ha⟩) id, h2.elim (fun q => ⟨b, hf.get q hb⟩) id, h3.elim (fun q => ⟨c, hf.get q hc⟩) id, h4.elim (fun q => ⟨d, hf.get q hd⟩) id, h5.elim (fun q => ⟨e, hf.get q he⟩) id, h6.elim (fun q => ⟨f, hf.get q hf2⟩) id⟩
theorem q_begin (l : Launch) (G : GX) (ad : Nat → Nat) (ws : List CE) (n : Nat) (K : Nat → Nat) (kg mm : Nat) (Ln : Nat → Nat) (np : Nat) (pg : Nat → Nat) (nj : Nat) (Js : Nat → JD) (pn : Nat) (Pe : Nat → Nat) (hn : Nat) (U : Nat → Nat) (tr kk km kp kh rd : Nat) (hM : RM ws n K kg mm Ln np pg nj Js pn Pe hn U tr kk km kp kh rd) (hK : OKs n K kg mm Ln np pg nj Js pn Pe hn U tr kk km kp kh rd) : Ct l G yX12_begin cX12_begin 1 (some .int) 2 0 0 ad ws [.ref 29] (pI ad (fun r ws2 => r = r_begin n mm kg ∧ (if mm = 0 ∧ 2 ≤ n then RM ws2 n K kg 1 (updN Ln 0 kg) np pg nj Js pn Pe hn U tr kk km kp kh rd else RM ws2 n K kg mm Ln np pg nj Js pn Pe hn U tr kk km kp kh rd) ∧ fr ref18 ws ws2)) := by
  refine Ct.of [some (.ref 29)] (by decide +kernel) (Nat.le_of_ble_eq_true rfl) rfl ?_
  intro p e s m args below meth c A X
  have hM0 := hM
  obtain ⟨⟨rm, sa, sd, hs, hO⟩, hJ, ⟨h60, h10, hp6, hh6⟩, hl, hpg, hPe, hU, hkk, hkl, hkp, hkh, hscr⟩ := hM
  obtain ⟨o1, o2, o3, o4, o5, o6, o7, o8, o9, o10, o11, o12, o13, o14⟩ := hK
  have h104 := pow_le4 o1
  have hkd := hJ.2.2.2.2.1
  have hkd5 := hJ.2.2.1
  have hkin := hJ.2.2.2.2.2.1
  obtain ⟨fl, hl1, hl2⟩ := hl
  refine V_aload_n0 X dX12_begin_0 ?_
  refine V_cV0I X dX12_begin_1 kX12_79 (m_lacks l G ad ws hO h60) (by assumption) (by rfl) (Nat.le_of_ble_eq_true rfl) ⟨⟨Nat.le_of_ble_eq_true rfl, Nat.le_of_ble_eq_true rfl⟩, Nat.le_of_ble_eq_true rfl, Nat.le_of_ble_eq_true rfl⟩ (fun r ws2 hc => ?_)
  obtain ⟨rfl, hw9⟩ := hc
  obtain rfl := hw9.symm
  refine V_if_eq X 15 dX12_begin_4 (by decide) (fun h => ?_) (fun h => ?_)
  · have e9 := of_decide_eq_false (b_of0 h)
    refine V_bipushE X (-103) dX12_begin_15 (by decide +kernel) ?_
    exact V_iret X dX12_begin_17 ⟨by rw [r_begin, if_neg (by omega)], by rw [if_neg (by omega)]; exact hM0, fr.rfl⟩
  · have e9 := of_decide_eq_true (b_of1 h)
    refine V_aload_n0 X dX12_begin_7 ?_
    refine V_getf X dX12_begin_8 fX12_65 (by assumption) (by rfl) ?_
    refine V_iconstE X (nI 2) dX12_begin_11 (by decide +kernel) ?_
    refine V_icmp_ge X 18 dX12_begin_12 (by decide) (fun h2 => ?_) (fun h2 => ?_)
    · have e8 := c_le h2
      refine V_aload_n0 X dX12_begin_18 ?_
      refine V_getf X dX12_begin_19 fX12_16 (by assumption) (by rfl) ?_
      refine V_iconstE X (nI 0) dX12_begin_22 (by decide +kernel) ?_
      refine V_aload_n0 X dX12_begin_23 ?_
      refine V_cV0I X dX12_begin_24 kX12_105 (m_king l G ad ws hO o1 kg hkin o2) (by assumption) (by rfl) (Nat.le_of_ble_eq_true rfl) ⟨⟨Nat.le_of_ble_eq_true rfl, Nat.le_of_ble_eq_true rfl⟩, Nat.le_of_ble_eq_true rfl, Nat.le_of_ble_eq_true rfl⟩ (fun r ws2 hc => ?_)
      obtain ⟨rfl, hw9⟩ := hc
      obtain rfl := hw9.symm
      refine V_iast X 0 dX12_begin_27 (by assumption) rfl (by decide) (by omega) ?_
      have hO2 := gne (k := 32) (e2 := iA 60 (upd fl 0 (nI kg))) (by decide) hO
      refine V_aload_n0 X dX12_begin_28 ?_
      refine V_iconstE X (nI 1) dX12_begin_29 (by decide +kernel) ?_
      refine V_putf X dX12_begin_30 fX12_72 (by assumption) (Nat.le_of_ble_eq_true rfl) rfl rfl ?_
      have hO3 := gset (e2 := (MO n 1 np rm sa nj tr sd pn hn (keptI km) (nI kp) (nI kh) hs)) hO2
      have hl3 : ((ws.set 32 (iA 60 (upd fl 0 (nI kg)))).set 29 (MO n 1 np rm sa nj tr sd pn hn (keptI km) (nI kp) (nI kh) hs))[32]? = some (iA 60 (upd fl 0 (nI kg))) := gne (by decide) (gset hl1)
      have hfb : fr [29, 32] ws ((ws.set 32 (iA 60 (upd fl 0 (nI kg)))).set 29 (MO n 1 np rm sa nj tr sd pn hn (keptI km) (nI kp) (nI kh) hs)) := (fr.rfl.set (by decide)).set (by decide)
      refine V_aload_n0 X dX12_begin_33 ?_
      refine V_getf X dX12_begin_34 fX12_16 (by assumption) (by rfl) ?_
      refine V_iconstE X (nI 0) dX12_begin_37 (by decide +kernel) ?_
      refine V_iald X 0 dX12_begin_38 (by assumption) rfl (by decide) (by omega) ?_
      refine V_iret X dX12_begin_39 ⟨by rw [pk_us, r_begin, if_pos ⟨e9, e8⟩], ?_, hfb.mono (ks2 := ref18) (by decide)⟩
      rw [if_pos ⟨e9, e8⟩]
      have hl4 : AI ((ws.set 32 (iA 60 (upd fl 0 (nI kg)))).set 29 (MO n 1 np rm sa nj tr sd pn hn (keptI km) (nI kp) (nI kh) hs)) 32 60 1 (updN Ln 0 kg) := by
        refine ⟨_, hl3, fun i hi => ?_⟩
        obtain rfl : i = 0 := by omega
        rw [pk_us, updN_eq]
      have hkm := (o8 e9).2.2.2
      exact ⟨⟨rm, sa, sd, hs, hO3⟩, hJ.fr hfb (by decide) (by decide) (by decide), ⟨by omega, h10, hp6, hh6⟩, hl4, hpg.fr hfb (by decide), hPe.fr hfb (by decide), hU.fr hfb (by decide), hkk.fr hfb (by decide), (hkl.fr hfb (by decide)).up (by omega), hkp.fr hfb (by decide), hkh.fr hfb (by decide), hscr.fr hfb (by decide) (by decide) (by decide) (by decide) (by decide) (by decide)⟩
    · have e8 := c_nle h2
      refine V_bipushE X (-103) dX12_begin_15 (by decide +kernel) ?_
      exact V_iret X dX12_begin_17 ⟨by rw [r_begin, if_neg (by omega)], by rw [if_neg (by omega)]; exact hM0, fr.rfl⟩
set_option maxHeartbeats 1000000 in
theorem q_paint (l : Launch) (G : GX) (ad : Nat → Nat) (ws : List CE) (n : Nat) (K : Nat → Nat) (kg mm : Nat) (Ln : Nat → Nat) (np : Nat) (pg : Nat → Nat) (nj : Nat) (Js : Nat → JD) (pn : Nat) (Pe : Nat → Nat) (hn : Nat) (U : Nat → Nat) (tr kk km kp kh rd : Nat) (hM : RM ws n K kg mm Ln np pg nj Js pn Pe hn U tr kk km kp kh rd) (hK : OKs n K kg mm Ln np pg nj Js pn Pe hn U tr kk km kp kh rd) (x : Int32) : Ct l G yX12_paint cX12_paint 3 (some .int) 8 0 0 ad ws [.ref 29, .int x] (pI ad (fun r ws2 => r = r_paint n K mm kg nj Js Ln x ∧ (if okPaint n K mm kg nj Js Ln x = true ∧ mm < 60 then RM ws2 n K (agedP n K kg) (mm + 1) (updN Ln mm (valI x)) np pg nj Js pn Pe hn U tr kk km kp kh rd else RM ws2 n K kg mm Ln np pg nj Js pn Pe hn U tr kk km kp kh rd) ∧ fr ref18 ws ws2)) := by
  refine Ct.of [some (.ref 29), some (.int x), none] (by decide +kernel) (Nat.le_of_ble_eq_true rfl) rfl ?_
  intro p e s m args below meth c A X
  have hM0 := hM
  obtain ⟨⟨rm, sa, sd, hs, hO⟩, hJ, ⟨h60, h10, hp6, hh6⟩, hl, hpg, hPe, hU, hkk, hkl, hkp, hkh, hscr⟩ := hM
  obtain ⟨o1, o2, o3, o4, o5, o6, o7, o8, o9, o10, o11, o12, o13, o14⟩ := hK
  have h104 := pow_le4 o1
  have hkd := hJ.2.2.2.2.1
  have hkd5 := hJ.2.2.1
  have hkin := hJ.2.2.2.2.2.1
  obtain ⟨ft, hft⟩ := hscr.1
  refine V_aload_n0 X dX12_paint_0 ?_
  refine V_cV0I X dX12_paint_1 kX12_79 (m_lacks l G ad ws hO h60) (by assumption) (by rfl) (Nat.le_of_ble_eq_true rfl) ⟨⟨Nat.le_of_ble_eq_true rfl, Nat.le_of_ble_eq_true rfl⟩, Nat.le_of_ble_eq_true rfl, Nat.le_of_ble_eq_true rfl⟩ (fun r ws2 hc => ?_)
  obtain ⟨rfl, hw9⟩ := hc
  obtain rfl := hw9.symm
  refine V_if_eq X 10 dX12_paint_4 (by decide) (fun h => ?_) (fun h => ?_)
  · have e9 := of_decide_eq_false (b_of0 h)
    have e5 := o3 (mm - 1) (by omega)
    refine V_aload_n0 X dX12_paint_10 ?_
    refine V_iload_n1 X dX12_paint_11 ?_
    refine V_cV1I X dX12_paint_12 kX12_118 (m_isPortrait l G ad ws hO o1 x) (by assumption) (by rfl) (Nat.le_of_ble_eq_true rfl) ⟨⟨Nat.le_of_ble_eq_true rfl, Nat.le_of_ble_eq_true rfl⟩, Nat.le_of_ble_eq_true rfl, Nat.le_of_ble_eq_true rfl⟩ (fun r ws2 hc => ?_)
    obtain ⟨rfl, hw9⟩ := hc
    obtain rfl := hw9.symm
    refine V_if_ne X 21 dX12_paint_15 (by decide) (fun h2 => ?_) (fun h2 => ?_)
    · have e8 := b_of1 h2
      obtain ⟨b, hb, rfl⟩ := inR_of (by omega) e8
      have hv : valI (nI b) = b := valI_nI (by omega)
      have hokP : okPaint n K mm kg nj Js Ln (nI b) = agreeP n K nj Js (Ln (mm - 1)) b (agedP n K kg) := by
        rw [okPaint, e8, hv, decide_eq_true (by omega)]; rfl
      have hrP : r_paint n K mm kg nj Js Ln (nI b) = (if agreeP n K nj Js (Ln (mm - 1)) b (agedP n K kg) then (if 60 ≤ mm then (-104) else nI (gapP n K (agedP n K kg) b)) else (-103)) := by
        rw [r_paint, if_neg e9, e8, if_pos rfl, hv]
      rw [hokP, hrP, hv]
      refine V_aload_n0 X dX12_paint_21 ?_
      refine V_cV0V X dX12_paint_22 kX12_124 (m_keepKing l G ad ws hO kg hkin ft hft) (by assumption) (by rfl) (Nat.le_of_ble_eq_true rfl) ⟨⟨Nat.le_of_ble_eq_true rfl, Nat.le_of_ble_eq_true rfl⟩, Nat.le_of_ble_eq_true rfl, Nat.le_of_ble_eq_true rfl⟩ (fun ws2 hc => ?_)
      obtain ⟨hk33, hf1⟩ := hc
      generalize ws2 = w1 at hk33 hf1 ⊢
      have hO1 := hf1.get (by decide) hO
      refine V_aload_n0 X dX12_paint_25 ?_
      refine V_cV0V X dX12_paint_26 kX12_127 (m_age l G ad w1 hO1 o1 K (hkd.fr hf1 (by decide)) hkd5 kg (hkin.fr hf1 (by decide))) (by assumption) (by rfl) (Nat.le_of_ble_eq_true rfl) ⟨⟨Nat.le_of_ble_eq_true rfl, Nat.le_of_ble_eq_true rfl⟩, Nat.le_of_ble_eq_true rfl, Nat.le_of_ble_eq_true rfl⟩ (fun ws2 hc => ?_)
      obtain ⟨hg2, hf2⟩ := hc
      generalize ws2 = w2 at hg2 hf2 ⊢
      have hO2 := hf2.get (by decide) hO1
      have hl2 := (hl.fr hf1 (by decide)).fr hf2 (by decide)
      have hJ2 := MJ_king (hJ.fr hf1 (by decide) (by decide) (by decide)) hf2 (by decide) hg2 (by decide)
      have hf12 : fr [31, 33] ws w2 := (hf1.mono (ks2 := [31, 33]) (by decide)).trans (hf2.mono (by decide))
      have hk2 := hk33.fr hf2 (by decide)
      refine V_aload_n0 X dX12_paint_29 ?_
      refine V_aload_n0 X dX12_paint_30 ?_
      refine V_cV0I X dX12_paint_31 kX12_91 (m_last l G ad w2 hO2 (by omega) h60 Ln hl2) (by assumption) (by rfl) (Nat.le_of_ble_eq_true rfl) ⟨⟨Nat.le_of_ble_eq_true rfl, Nat.le_of_ble_eq_true rfl⟩, Nat.le_of_ble_eq_true rfl, Nat.le_of_ble_eq_true rfl⟩ (fun r ws2 hc => ?_)
      obtain ⟨rfl, hw9⟩ := hc
      obtain rfl := hw9.symm
      refine V_iload_n1 X dX12_paint_34 ?_
      refine V_cV2I X dX12_paint_35 kX12_130 (m_isLet l G ad w2 hO2 K _ Js hJ2 _ b (by omega) (by omega)) (by assumption) (by rfl) (Nat.le_of_ble_eq_true rfl) ⟨⟨Nat.le_of_ble_eq_true rfl, Nat.le_of_ble_eq_true rfl⟩, Nat.le_of_ble_eq_true rfl, Nat.le_of_ble_eq_true rfl⟩ (fun r ws2 hc => ?_)
      obtain ⟨rfl, hw9⟩ := hc
      obtain rfl := hw9.symm
      have hag := agedP_lt (K := K) o2
      generalize hA : agreeP n K nj Js (Ln (mm - 1)) b (agedP n K kg) = ag
      have back : ¬ (ag = true ∧ mm < 60) → V p l e (rmm 8 0 0) s m args below meth c 0 0 (MQ below (QQ G A (pI ad (fun r ws2 => r = (if ag then (if 60 ≤ mm then (-104) else nI (gapP n K (agedP n K kg) b)) else (-103)) ∧ (if ag = true ∧ mm < 60 then RM ws2 n K (agedP n K kg) (mm + 1) (updN Ln mm b) np pg nj Js pn Pe hn U tr kk km kp kh rd else RM ws2 n K kg mm Ln np pg nj Js pn Pe hn U tr kk km kp kh rd) ∧ fr ref18 ws ws2))) args s 0 0 A) G A 3 ad w2 52 [some (.ref 29), some (.int (nI b)), some (.int (bI ag))] [] := by
        intro hno
        obtain ⟨fg, hg3⟩ := hg2.ex
        refine V_aload_n0 X dX12_paint_52 ?_
        refine V_cV0V X dX12_paint_53 kX12_134 (m_putBack l G ad w2 hO2 kg hk2 fg hg3) (by assumption) (by rfl) (Nat.le_of_ble_eq_true rfl) ⟨⟨Nat.le_of_ble_eq_true rfl, Nat.le_of_ble_eq_true rfl⟩, Nat.le_of_ble_eq_true rfl, Nat.le_of_ble_eq_true rfl⟩ (fun ws2 hc => ?_)
        obtain ⟨hg4, hf3⟩ := hc
        generalize ws2 = w3 at hg4 hf3 ⊢
        have hf13 : fr [31, 33] ws w3 := hf12.trans (hf3.mono (by decide))
        have fin : RM w3 n K kg mm Ln np pg nj Js pn Pe hn U tr kk km kp kh rd := ⟨⟨rm, sa, sd, hs, hf13.get (by decide) hO⟩, MJ_king hJ hf13 (by decide) hg4 (by decide), ⟨h60, h10, hp6, hh6⟩, hl.fr hf13 (by decide), hpg.fr hf13 (by decide), hPe.fr hf13 (by decide), hU.fr hf13 (by decide), hkk.fr hf13 (by decide), hkl.fr hf13 (by decide), hkp.fr hf13 (by decide), hkh.fr hf13 (by decide), scr_gen hscr hf13 (Or.inr (hk2.fr hf3 (by decide)).ex) (Or.inl (by decide)) (Or.inl (by decide)) (Or.inl (by decide)) (Or.inl (by decide)) (Or.inl (by decide))⟩
        have hO5 := hf13.get (by decide) hO
        refine V_iload_n2 X dX12_paint_56 ?_
        refine V_if_eq X 65 dX12_paint_57 (by decide) (fun g => ?_) (fun g => ?_)
        · have e7 := b_of0 g
          refine V_bipushE X (-103) dX12_paint_65 (by decide +kernel) ?_
          exact V_iret X dX12_paint_67 ⟨by rw [e7]; rfl, by rw [if_neg hno]; exact fin, hf13.mono (ks2 := ref18) (by decide)⟩
        · have e7 := b_of1 g
          refine V_bipushE X (-104) dX12_paint_60 (by decide +kernel) ?_
          refine V_goto X 67 dX12_paint_62 (by decide) ?_
          exact V_iret X dX12_paint_67 ⟨by rw [e7, if_pos rfl, if_pos (by rcases Nat.lt_or_ge mm 60 with q | q; exact absurd ⟨e7, q⟩ hno; exact q)], by rw [if_neg hno]; exact fin, hf13.mono (ks2 := ref18) (by decide)⟩
      refine V_istore_n2 X dX12_paint_38 (Nat.le_of_ble_eq_true rfl) rfl ?_
      refine V_iload_n2 X dX12_paint_39 ?_
      refine V_if_eq X 52 dX12_paint_40 (by decide) (fun g1 => ?_) (fun g1 => ?_)
      · have e7 := b_of0 g1
        exact back (fun q => by rw [e7] at q; exact absurd q.1 (by decide))
      · have e7 := b_of1 g1
        refine V_aload_n0 X dX12_paint_43 ?_
        refine V_getf X dX12_paint_44 fX12_72 (by assumption) (by rfl) ?_
        refine V_bipushE X (nI 60) dX12_paint_47 (by decide +kernel) ?_
        refine V_icmp_ne X 68 dX12_paint_49 (by decide) (fun g2 => ?_) (fun g2 => ?_)
        · have e6 := c_ne g2
          clear back
          obtain ⟨fl, hl3, hl4⟩ := hl2
          refine V_aload_n0 X dX12_paint_68 ?_
          refine V_getf X dX12_paint_69 fX12_16 (by assumption) (by rfl) ?_
          refine V_aload_n0 X dX12_paint_72 ?_
          refine V_getf X dX12_paint_73 fX12_72 (by assumption) (by rfl) ?_
          refine V_iload_n1 X dX12_paint_76 ?_
          refine V_iast X mm dX12_paint_77 (by assumption) rfl (by omega) (by omega) ?_
          have hO3 := gne (k := 32) (e2 := iA 60 (upd fl mm (nI b))) (by decide) hO2
          have hl5 := AI.put hl3 hl4 b
          refine V_aload_n0 X dX12_paint_78 ?_
          refine V_dup X dX12_paint_79 rfl ?_
          refine V_getf X dX12_paint_80 fX12_72 (by assumption) (by rfl) ?_
          refine V_iconstE X (nI 1) dX12_paint_83 (by decide +kernel) ?_
          refine V_iadd X dX12_paint_84 ?_
          refine V_putf X dX12_paint_85 fX12_72 (by assumption) (Nat.le_of_ble_eq_true rfl) rfl rfl ?_
          refine V_eqW (ws2 := (w2.set 32 (iA 60 (upd fl mm (nI b)))).set 29 (MO n (mm + 1) np rm sa nj tr sd pn hn (keptI km) (nI kp) (nI kh) hs)) (by rw [nI_add]; rfl) ?_
          have hO4 := gset (e2 := (MO n (mm + 1) np rm sa nj tr sd pn hn (keptI km) (nI kp) (nI kh) hs)) hO3
          have hf4 : fr [29] (w2.set 32 (iA 60 (upd fl mm (nI b)))) ((w2.set 32 (iA 60 (upd fl mm (nI b)))).set 29 (MO n (mm + 1) np rm sa nj tr sd pn hn (keptI km) (nI kp) (nI kh) hs)) := fr.rfl.set (by decide)
          have hl6 := hl5.fr hf4 (by decide)
          have hf3 : fr [29, 32] w2 ((w2.set 32 (iA 60 (upd fl mm (nI b)))).set 29 (MO n (mm + 1) np rm sa nj tr sd pn hn (keptI km) (nI kp) (nI kh) hs)) := (fr.rfl.set (by decide)).set (by decide)
          clear hf4
          generalize (w2.set 32 (iA 60 (upd fl mm (nI b)))).set 29 (MO n (mm + 1) np rm sa nj tr sd pn hn (keptI km) (nI kp) (nI kh) hs) = w3 at hO4 hl6 hf3 ⊢
          have hJ3 := hJ2.fr hf3 (by decide) (by decide) (by decide)
          have hf13 : fr [29, 31, 32, 33] ws w3 := (hf12.mono (ks2 := [29, 31, 32, 33]) (by decide)).trans (hf3.mono (by decide))
          refine V_aload_n0 X dX12_paint_88 ?_
          refine V_aload_n0 X dX12_paint_89 ?_
          refine V_cV0I X dX12_paint_90 kX12_105 (m_king l G ad w3 hO4 o1 (agedP n K kg) (hg2.fr hf3 (by decide)) hag) (by assumption) (by rfl) (Nat.le_of_ble_eq_true rfl) ⟨⟨Nat.le_of_ble_eq_true rfl, Nat.le_of_ble_eq_true rfl⟩, Nat.le_of_ble_eq_true rfl, Nat.le_of_ble_eq_true rfl⟩ (fun r ws2 hc => ?_)
          obtain ⟨rfl, hw9⟩ := hc
          obtain rfl := hw9.symm
          refine V_iload_n1 X dX12_paint_93 ?_
          refine V_cV2I X dX12_paint_94 kX12_121 (m_apartOf l G ad w3 hO4 o1 K hJ3.2.2.2.2.1 hkd5 (agedP n K kg) b (by omega) (by omega)) (by assumption) (by rfl) (Nat.le_of_ble_eq_true rfl) ⟨⟨Nat.le_of_ble_eq_true rfl, Nat.le_of_ble_eq_true rfl⟩, Nat.le_of_ble_eq_true rfl, Nat.le_of_ble_eq_true rfl⟩ (fun r ws2 hc => ?_)
          obtain ⟨rfl, hw9⟩ := hc
          obtain rfl := hw9.symm
          exact V_iret X dX12_paint_97 ⟨by rw [e7, if_pos rfl, if_neg (by omega)], by rw [if_pos ⟨e7, show mm < 60 by omega⟩]; exact ⟨⟨rm, sa, sd, hs, hO4⟩, hJ3, ⟨by omega, h10, hp6, hh6⟩, hl6, hpg.fr hf13 (by decide), hPe.fr hf13 (by decide), hU.fr hf13 (by decide), hkk.fr hf13 (by decide), (hkl.fr hf13 (by decide)).up o10, hkp.fr hf13 (by decide), hkh.fr hf13 (by decide), scr_gen hscr hf13 (Or.inr (hk2.fr hf3 (by decide)).ex) (Or.inl (by decide)) (Or.inl (by decide)) (Or.inl (by decide)) (Or.inl (by decide)) (Or.inl (by decide))⟩, hf13.mono (ks2 := ref18) (by decide)⟩
        · have e6 := c_eq g2
          exact back (fun q => by have := q.2; omega)
    · have e8 := b_of0 h2
      have hokP : okPaint n K mm kg nj Js Ln x = false := by rw [okPaint, e8]; simp
      refine V_bipushE X (-102) dX12_paint_18 (by decide +kernel) ?_
      exact V_iret X dX12_paint_20 ⟨by rw [r_paint, if_neg e9, e8]; rfl, by rw [hokP, if_neg (by simp)]; exact hM0, fr.rfl⟩
  · have e9 := of_decide_eq_true (b_of1 h)
    have hokP : okPaint n K mm kg nj Js Ln x = false := by rw [okPaint, e9]; simp
    refine V_bipushE X (-103) dX12_paint_7 (by decide +kernel) ?_
    exact V_iret X dX12_paint_9 ⟨by rw [r_paint, if_pos e9], by rw [hokP, if_neg (by simp)]; exact hM0, fr.rfl⟩
theorem q_blank (l : Launch) (G : GX) (ad : Nat → Nat) (ws : List CE) (n : Nat) (K : Nat → Nat) (kg mm : Nat) (Ln : Nat → Nat) (np : Nat) (pg : Nat → Nat) (nj : Nat) (Js : Nat → JD) (pn : Nat) (Pe : Nat → Nat) (hn : Nat) (U : Nat → Nat) (tr kk km kp kh rd : Nat) (hM : RM ws n K kg mm Ln np pg nj Js pn Pe hn U tr kk km kp kh rd) (hK : OKs n K kg mm Ln np pg nj Js pn Pe hn U tr kk km kp kh rd) : Ct l G yX12_blank cX12_blank 2 (some .int) 0 0 0 ad ws [.ref 29] (pI ad (fun r ws2 => r = nI np ∧ RM ws2 n K kg mm Ln 0 pg nj Js pn Pe hn U tr kk km kp kh rd ∧ fr ref18 ws ws2)) := by
  refine Ct.of [some (.ref 29), none] (by decide +kernel) (Nat.le_of_ble_eq_true rfl) rfl ?_
  intro p e s m args below meth c A X
  obtain ⟨⟨rm, sa, sd, hs, hO⟩, hJ, ⟨h60, h10, hp6, hh6⟩, hl, hpg, hPe, hU, hkk, hkl, hkp, hkh, hscr⟩ := hM
  obtain ⟨o1, o2, o3, o4, o5, o6, o7, o8, o9, o10, o11, o12, o13, o14⟩ := hK
  have h104 := pow_le4 o1
  have hkd := hJ.2.2.2.2.1
  have hkd5 := hJ.2.2.1
  have hkin := hJ.2.2.2.2.2.1
  refine V_aload_n0 X dX12_blank_0 ?_
  refine V_getf X dX12_blank_1 fX12_139 (by assumption) (by rfl) ?_
  refine V_istore_n1 X dX12_blank_4 (Nat.le_of_ble_eq_true rfl) rfl ?_
  refine V_aload_n0 X dX12_blank_5 ?_
  refine V_iconstE X (nI 0) dX12_blank_6 (by decide +kernel) ?_
  refine V_putf X dX12_blank_7 fX12_139 (by assumption) (Nat.le_of_ble_eq_true rfl) rfl rfl ?_
  have hO2 := gset (e2 := (MO n mm 0 rm sa nj tr sd pn hn (keptI km) (nI kp) (nI kh) hs)) hO
  have hfb : fr [29] ws (ws.set 29 (MO n mm 0 rm sa nj tr sd pn hn (keptI km) (nI kp) (nI kh) hs)) := fr.rfl.set (by decide)
  refine V_iload_n1 X dX12_blank_10 ?_
  exact V_iret X dX12_blank_11 ⟨rfl, ⟨⟨rm, sa, sd, hs, hO2⟩, hJ.fr hfb (by decide) (by decide) (by decide), ⟨h60, by omega, hp6, hh6⟩, hl.fr hfb (by decide), (hpg.cut (j := 0) (by omega)).fr hfb (by decide), hPe.fr hfb (by decide), hU.fr hfb (by decide), hkk.fr hfb (by decide), hkl.fr hfb (by decide), hkp.fr hfb (by decide), hkh.fr hfb (by decide), hscr.fr hfb (by decide) (by decide) (by decide) (by decide) (by decide) (by decide)⟩, hfb.mono (ks2 := ref18) (by decide)⟩
set_option maxHeartbeats 1000000 in
theorem q_person (l : Launch) (G : GX) (ad : Nat → Nat) (ws : List CE) (n : Nat) (K : Nat → Nat) (kg mm : Nat) (Ln : Nat → Nat) (np : Nat) (pg : Nat → Nat) (nj : Nat) (Js : Nat → JD) (pn : Nat) (Pe : Nat → Nat) (hn : Nat) (U : Nat → Nat) (tr kk km kp kh rd : Nat) (hM : RM ws n K kg mm Ln np pg nj Js pn Pe hn U tr kk km kp kh rd) (hK : OKs n K kg mm Ln np pg nj Js pn Pe hn U tr kk km kp kh rd) (x : Int32) : Ct l G yX12_person cX12_person 2 (some .int) 2 0 0 ad ws [.ref 29, .int x] (pI ad (fun r ws2 => r = r_person n mm pn x ∧ (if okAdd n mm 6 pn x = true then RM ws2 n K kg mm Ln np pg nj Js (pn + 1) (updN Pe pn (valI x)) hn U tr kk km kp kh rd else RM ws2 n K kg mm Ln np pg nj Js pn Pe hn U tr kk km kp kh rd) ∧ fr ref18 ws ws2)) := by
  refine Ct.of [some (.ref 29), some (.int x)] (by decide +kernel) (Nat.le_of_ble_eq_true rfl) rfl ?_
  intro p e s m args below meth c A X
  have hM0 := hM
  obtain ⟨⟨rm, sa, sd, hs, hO⟩, hJ, ⟨h60, h10, hp6, hh6⟩, hl, hpg, hPe, hU, hkk, hkl, hkp, hkh, hscr⟩ := hM
  obtain ⟨o1, o2, o3, o4, o5, o6, o7, o8, o9, o10, o11, o12, o13, o14⟩ := hK
  have h104 := pow_le4 o1
  have hkd := hJ.2.2.2.2.1
  have hkd5 := hJ.2.2.1
  have hkin := hJ.2.2.2.2.2.1
  obtain ⟨fl, hl1, hl2⟩ := hPe
  refine V_aload_n0 X dX12_person_0 ?_
  refine V_cV0I X dX12_person_1 kX12_79 (m_lacks l G ad ws hO h60) (by assumption) (by rfl) (Nat.le_of_ble_eq_true rfl) ⟨⟨Nat.le_of_ble_eq_true rfl, Nat.le_of_ble_eq_true rfl⟩, Nat.le_of_ble_eq_true rfl, Nat.le_of_ble_eq_true rfl⟩ (fun r ws2 hc => ?_)
  obtain ⟨rfl, hw9⟩ := hc
  obtain rfl := hw9.symm
  refine V_if_eq X 10 dX12_person_4 (by decide) (fun h => ?_) (fun h => ?_)
  · have e9 := of_decide_eq_false (b_of0 h)
    refine V_aload_n0 X dX12_person_10 ?_
    refine V_iload_n1 X dX12_person_11 ?_
    refine V_cV1I X dX12_person_12 kX12_118 (m_isPortrait l G ad ws hO o1 x) (by assumption) (by rfl) (Nat.le_of_ble_eq_true rfl) ⟨⟨Nat.le_of_ble_eq_true rfl, Nat.le_of_ble_eq_true rfl⟩, Nat.le_of_ble_eq_true rfl, Nat.le_of_ble_eq_true rfl⟩ (fun r ws2 hc => ?_)
    obtain ⟨rfl, hw9⟩ := hc
    obtain rfl := hw9.symm
    refine V_if_ne X 21 dX12_person_15 (by decide) (fun h2 => ?_) (fun h2 => ?_)
    · have e8 := b_of1 h2
      obtain ⟨b, hb, rfl⟩ := inR_of (by omega) e8
      have hv : valI (nI b) = b := valI_nI (by omega)
      rw [hv]
      refine V_aload_n0 X dX12_person_21 ?_
      refine V_getf X dX12_person_22 fX12_208 (by assumption) (by rfl) ?_
      refine V_bipushE X (nI 6) dX12_person_25 (by decide +kernel) ?_
      refine V_icmp_ne X 33 dX12_person_27 (by decide) (fun h3 => ?_) (fun h3 => ?_)
      · have e7 := c_ne h3
        have hok : okAdd n mm 6 pn (nI b) = true := by rw [okAdd, e8, decide_eq_true (by omega), decide_eq_true (by omega)]; rfl
        refine V_aload_n0 X dX12_person_33 ?_
        refine V_getf X dX12_person_34 fX12_37 (by assumption) (by rfl) ?_
        refine V_aload_n0 X dX12_person_37 ?_
        refine V_getf X dX12_person_38 fX12_208 (by assumption) (by rfl) ?_
        refine V_iload_n1 X dX12_person_41 ?_
        refine V_iast X pn dX12_person_42 (by assumption) rfl (by omega) (by omega) ?_
        have hO3 := gne (k := 39) (e2 := iA 6 (upd fl pn (nI b))) (by decide) hO
        have hl5 := AI.put hl1 hl2 b
        refine V_aload_n0 X dX12_person_43 ?_
        refine V_dup X dX12_person_44 rfl ?_
        refine V_getf X dX12_person_45 fX12_208 (by assumption) (by rfl) ?_
        refine V_iconstE X (nI 1) dX12_person_48 (by decide +kernel) ?_
        refine V_iadd X dX12_person_49 ?_
        refine V_putf X dX12_person_50 fX12_208 (by assumption) (Nat.le_of_ble_eq_true rfl) rfl rfl ?_
        refine V_eqW (ws2 := (ws.set 39 (iA 6 (upd fl pn (nI b)))).set 29 (MO n mm np rm sa nj tr sd (pn + 1) hn (keptI km) (nI kp) (nI kh) hs)) (by rw [nI_add]; rfl) ?_
        have hO4 := gset (e2 := (MO n mm np rm sa nj tr sd (pn + 1) hn (keptI km) (nI kp) (nI kh) hs)) hO3
        have hf4 : fr [29] (ws.set 39 (iA 6 (upd fl pn (nI b)))) ((ws.set 39 (iA 6 (upd fl pn (nI b)))).set 29 (MO n mm np rm sa nj tr sd (pn + 1) hn (keptI km) (nI kp) (nI kh) hs)) := fr.rfl.set (by decide)
        have hl6 := hl5.fr hf4 (by decide)
        have hfb : fr [29, 39] ws ((ws.set 39 (iA 6 (upd fl pn (nI b)))).set 29 (MO n mm np rm sa nj tr sd (pn + 1) hn (keptI km) (nI kp) (nI kh) hs)) := (fr.rfl.set (by decide)).set (by decide)
        refine V_aload_n0 X dX12_person_53 ?_
        refine V_getf X dX12_person_54 fX12_208 (by assumption) (by rfl) ?_
        refine V_iconstE X (nI 1) dX12_person_57 (by decide +kernel) ?_
        refine V_isub X dX12_person_58 ?_
        exact V_iret X dX12_person_59 ⟨by rw [r_person, hok, if_pos rfl]; exact pk_sub (by omega), by rw [hok, if_pos rfl]; exact ⟨⟨rm, sa, sd, hs, hO4⟩, hJ.fr hfb (by decide) (by decide) (by decide), ⟨h60, h10, by omega, hh6⟩, hl.fr hfb (by decide), hpg.fr hfb (by decide), hl6, hU.fr hfb (by decide), hkk.fr hfb (by decide), hkl.fr hfb (by decide), (hkp.fr hfb (by decide)).up o11, hkh.fr hfb (by decide), hscr.fr hfb (by decide) (by decide) (by decide) (by decide) (by decide) (by decide)⟩, hfb.mono (ks2 := ref18) (by decide)⟩
      · have e7 := c_eq h3
        have hok : okAdd n mm 6 pn (nI b) = false := by rw [okAdd, decide_eq_false (show ¬ pn < 6 by omega)]; simp
        refine V_bipushE X (-104) dX12_person_30 (by decide +kernel) ?_
        exact V_iret X dX12_person_32 ⟨by rw [r_person, hok]; simp [refI, e8, e9, e7], by rw [hok]; exact hM0, fr.rfl⟩
    · have e8 := b_of0 h2
      have hok : okAdd n mm 6 pn x = false := by rw [okAdd, e8]; simp
      refine V_bipushE X (-102) dX12_person_18 (by decide +kernel) ?_
      exact V_iret X dX12_person_20 ⟨by rw [r_person, hok]; simp [refI, e8, e9], by rw [hok]; exact hM0, fr.rfl⟩
  · have e9 := of_decide_eq_true (b_of1 h)
    have hok : okAdd n mm 6 pn x = false := by rw [okAdd, e9]; simp
    refine V_bipushE X (-103) dX12_person_7 (by decide +kernel) ?_
    exact V_iret X dX12_person_9 ⟨by rw [r_person, hok]; simp [refI, e9], by rw [hok]; exact hM0, fr.rfl⟩
set_option maxHeartbeats 1000000 in
theorem q_heap (l : Launch) (G : GX) (ad : Nat → Nat) (ws : List CE) (n : Nat) (K : Nat → Nat) (kg mm : Nat) (Ln : Nat → Nat) (np : Nat) (pg : Nat → Nat) (nj : Nat) (Js : Nat → JD) (pn : Nat) (Pe : Nat → Nat) (hn : Nat) (U : Nat → Nat) (tr kk km kp kh rd : Nat) (hM : RM ws n K kg mm Ln np pg nj Js pn Pe hn U tr kk km kp kh rd) (hK : OKs n K kg mm Ln np pg nj Js pn Pe hn U tr kk km kp kh rd) (x : Int32) : Ct l G yX12_heap cX12_heap 2 (some .int) 2 0 0 ad ws [.ref 29, .int x] (pI ad (fun r ws2 => r = r_heap n mm hn x ∧ (if okAdd n mm 6 hn x = true then RM ws2 n K kg mm Ln np pg nj Js pn Pe (hn + 1) (updN U hn (valI x)) tr kk km kp kh rd else RM ws2 n K kg mm Ln np pg nj Js pn Pe hn U tr kk km kp kh rd) ∧ fr ref18 ws ws2)) := by
  refine Ct.of [some (.ref 29), some (.int x)] (by decide +kernel) (Nat.le_of_ble_eq_true rfl) rfl ?_
  intro p e s m args below meth c A X
  have hM0 := hM
  obtain ⟨⟨rm, sa, sd, hs, hO⟩, hJ, ⟨h60, h10, hp6, hh6⟩, hl, hpg, hPe, hU, hkk, hkl, hkp, hkh, hscr⟩ := hM
  obtain ⟨o1, o2, o3, o4, o5, o6, o7, o8, o9, o10, o11, o12, o13, o14⟩ := hK
  have h104 := pow_le4 o1
  have hkd := hJ.2.2.2.2.1
  have hkd5 := hJ.2.2.1
  have hkin := hJ.2.2.2.2.2.1
  obtain ⟨fl, hl1, hl2⟩ := hU
  refine V_aload_n0 X dX12_heap_0 ?_
  refine V_cV0I X dX12_heap_1 kX12_79 (m_lacks l G ad ws hO h60) (by assumption) (by rfl) (Nat.le_of_ble_eq_true rfl) ⟨⟨Nat.le_of_ble_eq_true rfl, Nat.le_of_ble_eq_true rfl⟩, Nat.le_of_ble_eq_true rfl, Nat.le_of_ble_eq_true rfl⟩ (fun r ws2 hc => ?_)
  obtain ⟨rfl, hw9⟩ := hc
  obtain rfl := hw9.symm
  refine V_if_eq X 10 dX12_heap_4 (by decide) (fun h => ?_) (fun h => ?_)
  · have e9 := of_decide_eq_false (b_of0 h)
    refine V_aload_n0 X dX12_heap_10 ?_
    refine V_iload_n1 X dX12_heap_11 ?_
    refine V_cV1I X dX12_heap_12 kX12_118 (m_isPortrait l G ad ws hO o1 x) (by assumption) (by rfl) (Nat.le_of_ble_eq_true rfl) ⟨⟨Nat.le_of_ble_eq_true rfl, Nat.le_of_ble_eq_true rfl⟩, Nat.le_of_ble_eq_true rfl, Nat.le_of_ble_eq_true rfl⟩ (fun r ws2 hc => ?_)
    obtain ⟨rfl, hw9⟩ := hc
    obtain rfl := hw9.symm
    refine V_if_ne X 21 dX12_heap_15 (by decide) (fun h2 => ?_) (fun h2 => ?_)
    · have e8 := b_of1 h2
      obtain ⟨b, hb, rfl⟩ := inR_of (by omega) e8
      have hv : valI (nI b) = b := valI_nI (by omega)
      rw [hv]
      refine V_aload_n0 X dX12_heap_21 ?_
      refine V_getf X dX12_heap_22 fX12_214 (by assumption) (by rfl) ?_
      refine V_bipushE X (nI 6) dX12_heap_25 (by decide +kernel) ?_
      refine V_icmp_ne X 33 dX12_heap_27 (by decide) (fun h3 => ?_) (fun h3 => ?_)
      · have e7 := c_ne h3
        have hok : okAdd n mm 6 hn (nI b) = true := by rw [okAdd, e8, decide_eq_true (by omega), decide_eq_true (by omega)]; rfl
        refine V_aload_n0 X dX12_heap_33 ?_
        refine V_getf X dX12_heap_34 fX12_40 (by assumption) (by rfl) ?_
        refine V_aload_n0 X dX12_heap_37 ?_
        refine V_getf X dX12_heap_38 fX12_214 (by assumption) (by rfl) ?_
        refine V_iload_n1 X dX12_heap_41 ?_
        refine V_iast X hn dX12_heap_42 (by assumption) rfl (by omega) (by omega) ?_
        have hO3 := gne (k := 40) (e2 := iA 6 (upd fl hn (nI b))) (by decide) hO
        have hl5 := AI.put hl1 hl2 b
        refine V_aload_n0 X dX12_heap_43 ?_
        refine V_dup X dX12_heap_44 rfl ?_
        refine V_getf X dX12_heap_45 fX12_214 (by assumption) (by rfl) ?_
        refine V_iconstE X (nI 1) dX12_heap_48 (by decide +kernel) ?_
        refine V_iadd X dX12_heap_49 ?_
        refine V_putf X dX12_heap_50 fX12_214 (by assumption) (Nat.le_of_ble_eq_true rfl) rfl rfl ?_
        refine V_eqW (ws2 := (ws.set 40 (iA 6 (upd fl hn (nI b)))).set 29 (MO n mm np rm sa nj tr sd pn (hn + 1) (keptI km) (nI kp) (nI kh) hs)) (by rw [nI_add]; rfl) ?_
        have hO4 := gset (e2 := (MO n mm np rm sa nj tr sd pn (hn + 1) (keptI km) (nI kp) (nI kh) hs)) hO3
        have hf4 : fr [29] (ws.set 40 (iA 6 (upd fl hn (nI b)))) ((ws.set 40 (iA 6 (upd fl hn (nI b)))).set 29 (MO n mm np rm sa nj tr sd pn (hn + 1) (keptI km) (nI kp) (nI kh) hs)) := fr.rfl.set (by decide)
        have hl6 := hl5.fr hf4 (by decide)
        have hfb : fr [29, 40] ws ((ws.set 40 (iA 6 (upd fl hn (nI b)))).set 29 (MO n mm np rm sa nj tr sd pn (hn + 1) (keptI km) (nI kp) (nI kh) hs)) := (fr.rfl.set (by decide)).set (by decide)
        refine V_aload_n0 X dX12_heap_53 ?_
        refine V_getf X dX12_heap_54 fX12_214 (by assumption) (by rfl) ?_
        exact V_iret X dX12_heap_57 ⟨by rw [r_heap, hok, if_pos rfl], by rw [hok, if_pos rfl]; exact ⟨⟨rm, sa, sd, hs, hO4⟩, hJ.fr hfb (by decide) (by decide) (by decide), ⟨h60, h10, hp6, by omega⟩, hl.fr hfb (by decide), hpg.fr hfb (by decide), hPe.fr hfb (by decide), hl6, hkk.fr hfb (by decide), hkl.fr hfb (by decide), hkp.fr hfb (by decide), (hkh.fr hfb (by decide)).up o12, hscr.fr hfb (by decide) (by decide) (by decide) (by decide) (by decide) (by decide)⟩, hfb.mono (ks2 := ref18) (by decide)⟩
      · have e7 := c_eq h3
        have hok : okAdd n mm 6 hn (nI b) = false := by rw [okAdd, decide_eq_false (show ¬ hn < 6 by omega)]; simp
        refine V_bipushE X (-104) dX12_heap_30 (by decide +kernel) ?_
        exact V_iret X dX12_heap_32 ⟨by rw [r_heap, hok]; simp [refI, e8, e9, e7], by rw [hok]; exact hM0, fr.rfl⟩
    · have e8 := b_of0 h2
      have hok : okAdd n mm 6 hn x = false := by rw [okAdd, e8]; simp
      refine V_bipushE X (-102) dX12_heap_18 (by decide +kernel) ?_
      exact V_iret X dX12_heap_20 ⟨by rw [r_heap, hok]; simp [refI, e8, e9], by rw [hok]; exact hM0, fr.rfl⟩
  · have e9 := of_decide_eq_true (b_of1 h)
    have hok : okAdd n mm 6 hn x = false := by rw [okAdd, e9]; simp
    refine V_bipushE X (-103) dX12_heap_7 (by decide +kernel) ?_
    exact V_iret X dX12_heap_9 ⟨by rw [r_heap, hok]; simp [refI, e9], by rw [hok]; exact hM0, fr.rfl⟩
