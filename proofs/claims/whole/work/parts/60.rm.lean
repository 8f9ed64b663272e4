/-! the reference: the judge's text read, its whole state -/
theorem goS_ok {n : Nat} (h4 : n ≤ 4) {s : GS} (h1 : s.1 ≤ 4) (h2 : s.2.1 ≤ 3) (c : Nat) : (goS n s c).2.1 ≤ 4 ∧ (goS n s c).2.2.1 ≤ 3 := by
  unfold goS
  split
  · exact ⟨by show s.1 + 1 ≤ 4; omega, h2⟩
  · split
    · exact ⟨h1, by show 2 ≤ 3; omega⟩
    · refine ⟨h1, ?_⟩
      show (if c = 43 then 1 else 3) ≤ 3
      split <;> omega
theorem m_faultOf (l : Launch) (G : GX) (ad : Nat → Nat) (ws : List CE) {n mm np : Nat} {rm sa : Int32} {nj tr : Nat} {sd : Int32} {pn hn : Nat} {kl kp kh : Int32} {hs : Int64} (hO : ws[29]? = some (MO n mm np rm sa nj tr sd pn hn kl kp kh hs)) (h4 : n ≤ 4) (h10 : np ≤ 10) (pg : Nat → Nat) (hp : AI ws 34 10 np pg) (hp2 : ∀ i, i < np → pg i < 256) (f0 : Nat → Int32) (hq0 : ws[35]? = some (iA 6 f0)) : Ct l G yX12_faultOf cX12_faultOf 2 (some .int) 2 0 0 ad ws [.ref 29] (pI ad (fun r ws2 => r = nI (faultM n np pg).1 ∧ ws2[29]? = some (MO n mm np (nI (faultM n np pg).2.1) (nI (faultM n np pg).2.2.1) nj tr sd pn hn kl kp kh hs) ∧ QI ws2 (faultM n np pg).2.2.2 ∧ ((faultM n np pg).1 ≤ 10 ∧ (faultM n np pg).2.1 ≤ 4 ∧ (faultM n np pg).2.2.1 ≤ 3) ∧ fr [29, 35] ws ws2)) := by
  refine Ct.of [some (.ref 29), none] (by decide +kernel) (Nat.le_of_ble_eq_true rfl) rfl ?_
  intro p e s m args below meth c A X
  obtain ⟨fp, hp1, hp3⟩ := hp
  refine V_aload_n0 X dX12_faultOf_0 ?_
  refine V_iconstE X (nI 0) dX12_faultOf_1 (by decide +kernel) ?_
  refine V_putf X dX12_faultOf_2 fX12_145 (by assumption) (Nat.le_of_ble_eq_true rfl) rfl rfl ?_
  have hO1 := gset (e2 := (MO n mm np (nI 0) sa nj tr sd pn hn kl kp kh hs)) hO
  refine V_aload_n0 X dX12_faultOf_5 ?_
  refine V_iconstE X (nI 0) dX12_faultOf_6 (by decide +kernel) ?_
  refine V_putf X dX12_faultOf_7 fX12_142 (by assumption) (Nat.le_of_ble_eq_true rfl) rfl rfl ?_
  refine V_iconstE X (nI 0) dX12_faultOf_10 (by decide +kernel) ?_
  refine V_istore_n1 X dX12_faultOf_11 (Nat.le_of_ble_eq_true rfl) rfl ?_
  refine V_loop (fun k wk lv2 => ∃ f, f + k = 6 ∧ (∃ ff, wk[35]? = some (iA 6 ff) ∧ ∀ i, i < f → ff i = rr0 i) ∧ wk[29]? = some (MO n mm np (nI 0) (nI 0) nj tr sd pn hn kl kp kh hs) ∧ fr [29, 35] ws wk ∧ lv2 = [some (.ref 29), some (.int (nI f))]) 6 ⟨0, by omega, ⟨f0, gne (by decide) (gne (by decide) hq0), fun i hi => by omega⟩, gset hO1, (fr.rfl.set (by decide)).set (by decide), rfl⟩ ?_
  rintro k wk _ ⟨f, hf, ⟨ff, hf1, hf2⟩, hO2, hfr, rfl⟩ ih
  refine V_iload_n1 X dX12_faultOf_12 ?_
  refine V_bipushE X (nI 6) dX12_faultOf_13 (by decide +kernel) ?_
  refine V_icmp_ge X 40 dX12_faultOf_15 (by decide) (fun h => ?_) (fun h => ?_)
  · have e9 : f = 6 := by have := c_le h; omega
    subst e9
    clear ih
    refine V_iconstE X (nI 0) dX12_faultOf_40 (by decide +kernel) ?_
    refine V_istore_n1 X dX12_faultOf_41 (Nat.le_of_ble_eq_true rfl) rfl ?_
    refine V_loop (fun k wz lv2 => ∃ g r1 st1 rr, g + k = 10 ∧ g ≤ np ∧ r1 ≤ 4 ∧ st1 ≤ 3 ∧ faultM n np pg = runG n np pg (11 - g) g (r1, st1, rr) ∧ QI wz rr ∧ wz[29]? = some (MO n mm np (nI r1) (nI st1) nj tr sd pn hn kl kp kh hs) ∧ fr [29, 35] ws wz ∧ lv2 = [some (.ref 29), some (.int (nI g))]) 10 ⟨0, 0, 0, rr0, by omega, by omega, by omega, by omega, rfl, ⟨ff, hf1, hf2⟩, hO2, hfr, rfl⟩ ?_
    rintro k2 wz _ ⟨g, r1, st1, rr, hg, hgn, hr1, hst1, hF, hQ, hO3, hfr3, rfl⟩ ih
    have hp4 := hfr3.get (by decide) hp1
    obtain ⟨k3, hk3⟩ : ∃ k3, 11 - g = k3 + 1 := ⟨10 - g, by omega⟩
    rw [hk3, runG] at hF
    refine V_iload_n1 X dX12_faultOf_42 ?_
    refine V_aload_n0 X dX12_faultOf_43 ?_
    refine V_getf X dX12_faultOf_44 fX12_139 (by assumption) (by rfl) ?_
    refine V_icmp_ge X 69 dX12_faultOf_47 (by decide) (fun h2 => ?_) (fun h2 => ?_)
    · have e8 := c_le h2
      rw [if_neg (by omega)] at hF
      refine V_iload_n1 X dX12_faultOf_69 ?_
      rw [hF]
      exact V_iret X dX12_faultOf_70 ⟨rfl, hO3, hQ, ⟨by show g ≤ 10; omega, hr1, hst1⟩, hfr3⟩
    · have e8 := c_nle h2
      rw [if_pos e8] at hF
      refine V_aload_n0 X dX12_faultOf_50 ?_
      refine V_aload_n0 X dX12_faultOf_51 ?_
      refine V_getf X dX12_faultOf_52 fX12_22 (by assumption) (by rfl) ?_
      refine V_iload_n1 X dX12_faultOf_55 ?_
      refine V_iald X g dX12_faultOf_56 (by assumption) rfl (by omega) (by omega) ?_
      rw [hp3 g e8]
      have hok := goS_ok h4 (s := (r1, st1, rr)) hr1 hst1 (pg g)
      refine V_cV1I X dX12_faultOf_57 kX12_148 (m_go l G ad wz hO3 h4 r1 st1 rr rfl rfl hr1 hst1 hQ (pg g) (hp2 g e8)) (by assumption) (by rfl) (Nat.le_of_ble_eq_true rfl) ⟨⟨Nat.le_of_ble_eq_true rfl, Nat.le_of_ble_eq_true rfl⟩, Nat.le_of_ble_eq_true rfl, Nat.le_of_ble_eq_true rfl⟩ (fun r ws2 hc => ?_)
      obtain ⟨rfl, hO4, hQ4, hfr4⟩ := hc
      have hfr5 := hfr3.trans hfr4
      refine V_if_eq X 69 dX12_faultOf_60 (by decide) (fun h3 => ?_) (fun h3 => ?_)
      · have e7 := b_of0 h3
        rw [if_neg (by rw [e7]; decide)] at hF
        refine V_iload_n1 X dX12_faultOf_69 ?_
        rw [hF]
        exact V_iret X dX12_faultOf_70 ⟨rfl, hO4, hQ4, ⟨by show g ≤ 10; omega, hok.1, hok.2⟩, hfr5⟩
      · have e7 := b_of1 h3
        rw [if_pos e7] at hF
        refine V_iinc_1 X dX12_faultOf_63 (Nat.le_of_ble_eq_true rfl) rfl (inc1 _) ?_
        refine V_goto X 42 dX12_faultOf_66 (by decide) ?_
        exact ih (k2 - 1) _ _ (by omega) ⟨g + 1, _, _, _, by omega, by omega, hok.1, hok.2, by rw [hF]; congr 1; omega, hQ4, hO4, hfr5, rfl⟩
  · have e9 := c_nle h
    refine V_aload_n0 X dX12_faultOf_18 ?_
    refine V_getf X dX12_faultOf_19 fX12_25 (by assumption) (by rfl) ?_
    refine V_iload_n1 X dX12_faultOf_22 ?_
    refine V_iload_n1 X dX12_faultOf_23 ?_
    refine V_iconstE X (nI 5) dX12_faultOf_24 (by decide +kernel) ?_
    have step : ∀ x : Int32, x = rr0 f → V p l e (rmm 2 0 0) s m args below meth c 0 0 (MQ below (QQ G A (pI ad (fun r ws2 => r = nI (faultM n np pg).1 ∧ ws2[29]? = some (MO n mm np (nI (faultM n np pg).2.1) (nI (faultM n np pg).2.2.1) nj tr sd pn hn kl kp kh hs) ∧ QI ws2 (faultM n np pg).2.2.2 ∧ ((faultM n np pg).1 ≤ 10 ∧ (faultM n np pg).2.1 ≤ 4 ∧ (faultM n np pg).2.2.1 ≤ 3) ∧ fr [29, 35] ws ws2))) args s 0 0 A) G A 2 ad wk 33 [some (.ref 29), some (.int (nI f))] [.int x, .int (nI f), .ref 35] := by
      intro x hx
      refine V_iast X f dX12_faultOf_33 (by assumption) rfl (by omega) (by omega) ?_
      refine V_iinc_1 X dX12_faultOf_34 (Nat.le_of_ble_eq_true rfl) rfl (inc1 _) ?_
      refine V_goto X 12 dX12_faultOf_37 (by decide) ?_
      refine ih (k - 1) _ _ (by omega) ⟨f + 1, by omega, ⟨_, gset hf1, fun i hi => ?_⟩, gne (by decide) hO2, hfr.set (by decide), rfl⟩
      by_cases e : i = f
      · subst e; rw [pk_us]; exact hx
      · rw [pk_un e]; exact hf2 i (by omega)
    refine V_icmp_ge X 32 dX12_faultOf_25 (by decide) (fun h2 => ?_) (fun h2 => ?_)
    · have e8 := c_le h2
      refine V_iconstE X (nI 0) dX12_faultOf_32 (by decide +kernel) ?_
      exact step _ (by rw [rr0, if_neg (by omega)])
    · have e8 := c_nle h2
      refine V_iconstE X (-1) dX12_faultOf_28 (by decide +kernel) ?_
      refine V_goto X 33 dX12_faultOf_29 (by decide) ?_
      exact step _ (by rw [rr0, if_pos (by omega)])
def keptI (km : Nat) : Int32 := if km = 0 then (-1) else nI km
def scrM (ws : List CE) : Prop := (∃ f, ws[33]? = some (iA 4 f)) ∧ (∃ f, ws[35]? = some (iA 6 f)) ∧ (∃ f, ws[37]? = some (iA 10000 f)) ∧ (∃ f, ws[38]? = some (iA 10000 f)) ∧ (∃ f, ws[41]? = some (iA 6 f)) ∧ ∃ f, ws[42]? = some (iA 6 f)
def RM (ws : List CE) (n : Nat) (K : Nat → Nat) (kg mm : Nat) (Ln : Nat → Nat) (np : Nat) (pg : Nat → Nat) (nj : Nat) (Js : Nat → JD) (pn : Nat) (Pe : Nat → Nat) (hn : Nat) (U : Nat → Nat) (tr kk km kp kh rd : Nat) : Prop := (∃ rm sa sd hs, ws[29]? = some (MO n mm np rm sa nj tr sd pn hn (keptI km) (nI kp) (nI kh) hs)) ∧ MJ ws n K kg nj Js ∧ (mm ≤ 60 ∧ np ≤ 10 ∧ pn ≤ 6 ∧ hn ≤ 6) ∧ AI ws 32 60 mm Ln ∧ AI ws 34 10 np pg ∧ AI ws 39 6 pn Pe ∧ AI ws 40 6 hn U ∧ AI ws 43 4 4 (dg kk) ∧ AI ws 44 60 km Ln ∧ AI ws 45 6 kp Pe ∧ AI ws 46 6 kh U ∧ scrM ws
abbrev ref18 : List Nat := [29, 30, 31, 32, 33, 34, 35, 36, 37, 38, 39, 40, 41, 42, 43, 44, 45, 46]
theorem scrM.fr {ks : List Nat} {ws ws2 : List CE} (h : scrM ws) (hf : fr ks ws ws2) (h1 : 33 ∉ ks) (h2 : 35 ∉ ks) (h3 : 37 ∉ ks) (h4 : 38 ∉ ks) (h5 : 41 ∉ ks) (h6 : 42 ∉ ks) : scrM ws2 := by
  obtain ⟨⟨a, ha⟩, ⟨b, hb⟩, ⟨c, hc⟩, ⟨d, hd⟩, ⟨e, he⟩, ⟨f, hf2⟩⟩ := h
  exact ⟨⟨a, hf.get h1 ha⟩, ⟨b, hf.get h2 hb⟩, ⟨c, hf.get h3 hc⟩, ⟨d, hf.get h4 hd⟩, ⟨e, hf.get h5 he⟩, ⟨f, hf.get h6 hf2⟩⟩
theorem RM.near {ks : List Nat} {ws ws2 : List CE} {n : Nat} {K : Nat → Nat} {kg mm : Nat} {Ln : Nat → Nat} {np : Nat} {pg : Nat → Nat} {nj : Nat} {Js : Nat → JD} {pn : Nat} {Pe : Nat → Nat} {hn : Nat} {U : Nat → Nat} {tr kk km kp kh rd : Nat} (hM : RM ws n K kg mm Ln np pg nj Js pn Pe hn U tr kk km kp kh rd) (hf : fr ks ws ws2) (hk : ∀ k ∈ ks, k < 29 ∨ 47 ≤ k) : RM ws2 n K kg mm Ln np pg nj Js pn Pe hn U tr kk km kp kh rd := by
  have nk : ∀ k, ¬ (k < 29 ∨ 47 ≤ k) → k ∉ ks := fun k q q2 => q (hk k q2)
  obtain ⟨⟨a1, a2, a3, a4, a⟩, b, c, d, e, f, g, h, i, j, k, q⟩ := hM
  exact ⟨⟨a1, a2, a3, a4, hf.get (nk _ (by omega)) a⟩, b.fr hf (nk _ (by omega)) (nk _ (by omega)) (nk _ (by omega)), c, d.fr hf (nk _ (by omega)), e.fr hf (nk _ (by omega)), f.fr hf (nk _ (by omega)), g.fr hf (nk _ (by omega)), h.fr hf (nk _ (by omega)), i.fr hf (nk _ (by omega)), j.fr hf (nk _ (by omega)), k.fr hf (nk _ (by omega)), q.fr hf (nk _ (by omega)) (nk _ (by omega)) (nk _ (by omega)) (nk _ (by omega)) (nk _ (by omega)) (nk _ (by omega))⟩
theorem AI.app {w w2 : List CE} {k N m : Nat} {U : Nat → Nat} (h : AI w k N m U) : AI (w ++ w2) k N m U := by
  obtain ⟨f, h1, h2⟩ := h
  exact ⟨f, gapp h1, h2⟩
theorem RM.app {ws w2 : List CE} {n : Nat} {K : Nat → Nat} {kg mm : Nat} {Ln : Nat → Nat} {np : Nat} {pg : Nat → Nat} {nj : Nat} {Js : Nat → JD} {pn : Nat} {Pe : Nat → Nat} {hn : Nat} {U : Nat → Nat} {tr kk km kp kh rd : Nat} (hM : RM ws n K kg mm Ln np pg nj Js pn Pe hn U tr kk km kp kh rd) : RM (ws++w2) n K kg mm Ln np pg nj Js pn Pe hn U tr kk km kp kh rd := by
  obtain ⟨⟨a1, a2, a3, a4, a⟩, ⟨b1, b2, b3, b4, b5, b6, b7, b8, b9⟩, c, d, e, f, g, h, i, j, k, ⟨⟨q1, q2⟩, ⟨q3, q4⟩, ⟨q5, q6⟩, ⟨q7, q8⟩, ⟨q9, q10⟩, ⟨q11, q12⟩⟩⟩ := hM
  exact ⟨⟨a1, a2, a3, a4, gapp a⟩, ⟨b1, b2, b3, b4, b5.app, b6.app, b7, gapp b8, b9⟩, c, d.app, e.app, f.app, g.app, h.app, i.app, j.app, k.app, ⟨⟨q1, gapp q2⟩, ⟨q3, gapp q4⟩, ⟨q5, gapp q6⟩, ⟨q7, gapp q8⟩, ⟨q9, gapp q10⟩, ⟨q11, gapp q12⟩⟩⟩
