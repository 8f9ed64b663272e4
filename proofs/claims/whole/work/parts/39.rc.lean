/-! the whole class: its heap, and what holds of its numbers -/
def OKs (n : Nat) (K : Nat → Nat) (kg mm : Nat) (Ln : Nat → Nat) (np : Nat) (pg : Nat → Nat) (nj : Nat) (Js : Nat → JD) (pn : Nat) (Pe : Nat → Nat) (hn : Nat) (U : Nat → Nat) (tr kk km kp kh rd : Nat) : Prop := n ≤ 4 ∧ kg < 10 ^ n ∧ (∀ i, i < mm → Ln i < 10 ^ n) ∧ (∀ i, i < np → pg i < 256) ∧ (∀ i, i < pn → Pe i < 10 ^ n) ∧ (∀ i, i < hn → U i < 10 ^ n) ∧ (0 < mm → 2 ≤ n) ∧ (mm = 0 → nj = 0 ∧ pn = 0 ∧ hn = 0 ∧ km = 0) ∧ kk < 10 ^ n ∧ km ≤ mm ∧ kp ≤ pn ∧ kh ≤ hn ∧ tr ≤ 30 ∧ rd < 900000000
def RC (ws : List CE) (n : Nat) (K : Nat → Nat) (kg mm : Nat) (Ln : Nat → Nat) (np : Nat) (pg : Nat → Nat) (nj : Nat) (Js : Nat → JD) (pn : Nat) (Pe : Nat → Nat) (hn : Nat) (U : Nat → Nat) (tr kk km kp kh rd : Nat) : Prop := ws[0]? = some (CObj kg tr kk km kp kh) ∧ LooksAt ws n K ∧ MarksAt ws n nj Js ∧ BitsAt ws n nj Js ∧ CenI ws ∧ (∃ kr ke rd2 L ty ft fe, rd2 ≤ rd ∧ SV ws kr ke rd2 L ty ft fe) ∧ SorterI ws ∧ RowN ws 21 22 10 np pg ∧ RowN ws 23 24 60 mm Ln ∧ RowN ws 25 26 6 pn Pe ∧ RowN ws 27 28 6 hn U ∧ OKs n K kg mm Ln np pg nj Js pn Pe hn U tr kk km kp kh rd
theorem Looks_fr0 {ks : List Nat} {ws ws2 : List CE} {n : Nat} {K : Nat → Nat} (h : LooksAt ws n K) (hf : fr ks ws ws2) (hk : ∀ k ∈ ks, k = 0 ∨ (4 ≤ k ∧ k < 47)) : LooksAt ws2 n K := by
  obtain ⟨h1, h2, xs, h3, h4, h5⟩ := h
  have nk : ∀ k, ¬ (k = 0 ∨ (4 ≤ k ∧ k < 47)) → k ∉ ks := fun k q q2 => q (hk k q2)
  refine ⟨h1, hf.get (nk 1 (by omega)) h2, xs, hf.get (nk 2 (by omega)) h3, h4, fun j hj => ?_⟩
  obtain ⟨a, q, b, c, d⟩ := h5 j hj
  exact ⟨a, q, b, hf.get (nk q (by omega)) c, d⟩
theorem CenI.fr {ks : List Nat} {ws ws2 : List CE} (h : CenI ws) (hf : fr ks ws ws2) (hk : ∀ k ∈ ks, k < 9 ∨ 12 < k) : CenI ws2 := by
  obtain ⟨p, h⟩ := h
  exact ⟨p, h.fr hf hk⟩
def SeaI (ws : List CE) (rd : Nat) : Prop := ∃ kr ke rd2 L ty ft fe, rd2 ≤ rd ∧ SV ws kr ke rd2 L ty ft fe
theorem SeaI.fr {ks : List Nat} {ws ws2 : List CE} {rd : Nat} (h : SeaI ws rd) (hf : fr ks ws ws2) (hk : ∀ k ∈ ks, k < 13 ∨ 16 < k) : SeaI ws2 rd := by
  obtain ⟨a, b, c, d, e, f, g, h1, h2⟩ := h
  exact ⟨a, b, c, d, e, f, g, h1, h2.fr hf hk⟩
theorem RC.obj {ws : List CE} (n : Nat) (K : Nat → Nat) (kg mm : Nat) (Ln : Nat → Nat) (np : Nat) (pg : Nat → Nat) (nj : Nat) (Js : Nat → JD) (pn : Nat) (Pe : Nat → Nat) (hn : Nat) (U : Nat → Nat) (tr kk km kp kh rd : Nat) (hC : RC ws n K kg mm Ln np pg nj Js pn Pe hn U tr kk km kp kh rd) : ObjAt ws kg := ⟨tr, kk, km, kp, kh, hC.1⟩
/-- all but the cells at ks are as they were: ks outside of what a part needs -/
theorem RC.cen {ws ws2 : List CE} {n : Nat} {K : Nat → Nat} {kg mm : Nat} {Ln : Nat → Nat} {np : Nat} {pg : Nat → Nat} {nj : Nat} {Js : Nat → JD} {pn : Nat} {Pe : Nat → Nat} {hn : Nat} {U : Nat → Nat} {tr kk km kp kh rd : Nat} (hC : RC ws n K kg mm Ln np pg nj Js pn Pe hn U tr kk km kp kh rd) (hf : fr cen4 ws ws2) (h : CenI ws2) : RC ws2 n K kg mm Ln np pg nj Js pn Pe hn U tr kk km kp kh rd := by
  obtain ⟨a, b, c, d, e, f, g, i, j, k, l, m⟩ := hC
  exact ⟨hf.get (by decide) a, b.fr hf (by decide), c.fr hf (by decide) (by decide), d.fr hf (by decide) (by decide) (by decide), h, SeaI.fr f hf (by decide), g.fr hf (by decide), i.fr hf (by decide) (by decide), j.fr hf (by decide) (by decide), k.fr hf (by decide) (by decide), l.fr hf (by decide) (by decide), m⟩
theorem RC.sea {ws ws2 : List CE} {n : Nat} {K : Nat → Nat} {kg mm : Nat} {Ln : Nat → Nat} {np : Nat} {pg : Nat → Nat} {nj : Nat} {Js : Nat → JD} {pn : Nat} {Pe : Nat → Nat} {hn : Nat} {U : Nat → Nat} {tr kk km kp kh rd rd2 : Nat} (hC : RC ws n K kg mm Ln np pg nj Js pn Pe hn U tr kk km kp kh rd) (hf : fr sea4 ws ws2) (h : SeaI ws2 rd2) (hr : rd2 < 900000000) : RC ws2 n K kg mm Ln np pg nj Js pn Pe hn U tr kk km kp kh rd2 := by
  obtain ⟨a, b, c, d, e, f, g, i, j, k, l, m⟩ := hC
  refine ⟨hf.get (by decide) a, b.fr hf (by decide), c.fr hf (by decide) (by decide), d.fr hf (by decide) (by decide) (by decide), e.fr hf (by decide), h, g.fr hf (by decide), i.fr hf (by decide) (by decide), j.fr hf (by decide) (by decide), k.fr hf (by decide) (by decide), l.fr hf (by decide) (by decide), ?_⟩
  obtain ⟨o1, o2, o3, o4, o5, o6, o7, o8, o9, o10, o11, o12, o13, o14⟩ := m
  exact ⟨o1, o2, o3, o4, o5, o6, o7, o8, o9, o10, o11, o12, o13, hr⟩
theorem RC.srt {ws ws2 : List CE} {n : Nat} {K : Nat → Nat} {kg mm : Nat} {Ln : Nat → Nat} {np : Nat} {pg : Nat → Nat} {nj : Nat} {Js : Nat → JD} {pn : Nat} {Pe : Nat → Nat} {hn : Nat} {U : Nat → Nat} {tr kk km kp kh rd : Nat} (hC : RC ws n K kg mm Ln np pg nj Js pn Pe hn U tr kk km kp kh rd) (hf : fr srt4 ws ws2) (h : SorterI ws2) : RC ws2 n K kg mm Ln np pg nj Js pn Pe hn U tr kk km kp kh rd := by
  obtain ⟨a, b, c, d, e, f, g, i, j, k, l, m⟩ := hC
  exact ⟨hf.get (by decide) a, b.fr hf (by decide), c.fr hf (by decide) (by decide), d.fr hf (by decide) (by decide) (by decide), e.fr hf (by decide), SeaI.fr f hf (by decide), h, i.fr hf (by decide) (by decide), j.fr hf (by decide) (by decide), k.fr hf (by decide) (by decide), l.fr hf (by decide) (by decide), m⟩
/-- cells outside the places 0 to 28 and of the Features changed -/
theorem RC.far {ks : List Nat} {ws ws2 : List CE} {n : Nat} {K : Nat → Nat} {kg mm : Nat} {Ln : Nat → Nat} {np : Nat} {pg : Nat → Nat} {nj : Nat} {Js : Nat → JD} {pn : Nat} {Pe : Nat → Nat} {hn : Nat} {U : Nat → Nat} {tr kk km kp kh rd : Nat} (hC : RC ws n K kg mm Ln np pg nj Js pn Pe hn U tr kk km kp kh rd) (hf : fr ks ws ws2) (hk : ∀ k ∈ ks, 29 ≤ k ∧ k < 47) : RC ws2 n K kg mm Ln np pg nj Js pn Pe hn U tr kk km kp kh rd := by
  obtain ⟨a, b, c, d, e, f, g, i, j, k, l, m⟩ := hC
  have nk : ∀ k, k < 29 → k ∉ ks := fun k q q2 => by have := hk k q2; omega
  exact ⟨hf.get (nk _ (by omega)) a, Looks_fr0 b hf (fun k q => by have := hk k q; omega), c.fr hf (nk _ (by omega)) (nk _ (by omega)), d.fr hf (nk _ (by omega)) (nk _ (by omega)) (nk _ (by omega)), e.fr hf (fun k q => by have := hk k q; omega), SeaI.fr f hf (fun k q => by have := hk k q; omega), g.fr hf (fun k q => by have := hk k q; omega), i.fr hf (nk _ (by omega)) (nk _ (by omega)), j.fr hf (nk _ (by omega)) (nk _ (by omega)), k.fr hf (nk _ (by omega)) (nk _ (by omega)), l.fr hf (nk _ (by omega)) (nk _ (by omega)), m⟩
theorem inR_no {n : Nat} {x : Int32} (h : inR n x = false) (hn : n < 2147483648) : ¬ ∃ j, j < n ∧ x = nI j := by
  rintro ⟨j, hj, rfl⟩
  rw [inR_nI hn (by omega), decide_eq_true hj] at h
  cases h
theorem inR_t {n : Nat} {x : Int32} (h1 : ¬ x < 0) (h2 : x < nI n) : inR n x = true := by
  have h3 : ¬ nI n ≤ x := Int32.not_le.mpr h2
  simp [inR, h1, h3]
theorem inR_f0 {n : Nat} {x : Int32} (h : x < 0) : inR n x = false := by simp [inR, h]
theorem inR_f1 {n : Nat} {x : Int32} (h : ¬ x < nI n) : inR n x = false := by
  have h3 : nI n ≤ x := Int32.not_lt.mp h
  simp [inR, h3]
/-! the calls that only tell -/
def valI (x : Int32) : Nat := x.toNatClampNeg
theorem valI_nI {j : Nat} (h : j < 2147483648) : valI (nI j) = j := nI_clamp (by omega)
def r_about (n : Nat) (K : Nat → Nat) (kg mm : Nat) (Ln : Nat → Nat) (x z : Int32) : Int32 := if inR n x then (if inR 3 z then tellI K kg mm Ln (valI x) (valI z) else (-102)) else (-101)
theorem p_about (l : Launch) (G : GX) (ad : Nat → Nat) (ws : List CE) (n : Nat) (K : Nat → Nat) (kg mm : Nat) (Ln : Nat → Nat) (np : Nat) (pg : Nat → Nat) (nj : Nat) (Js : Nat → JD) (pn : Nat) (Pe : Nat → Nat) (hn : Nat) (U : Nat → Nat) (tr kk km kp kh rd : Nat) (hC : RC ws n K kg mm Ln np pg nj Js pn Pe hn U tr kk km kp kh rd) (hkP : ad kP = G.2.2.2) (x z : Int32) : Ct l G yX11_about cX11_about 3 (some .int) 6 0 0 ad ws [.ref 0, .int x, .int z] (pI ad (fun r ws2 => r = r_about n K kg mm Ln x z ∧ ws2 = ws)) := by
  refine Ct.of [some (.ref 0), some (.int x), some (.int z)] (by decide +kernel) (Nat.le_of_ble_eq_true rfl) rfl ?_
  intro p e s m args below meth c A X
  have hO := hC.obj
  obtain ⟨z0, hL, hM, hB, hCe, hSe, hSo, hRg, hRl, hRp, hRh, o1, o2, o3, o4, o5, o6, o7, o8, o9, o10, o11, o12, o13, o14⟩ := hC
  have h104 := pow_le4 o1
  have z1 := hL.2.1
  refine V_aload_n0 X dX11_about_0 ?_
  refine V_getf X dX11_about_1 fX11_12 (by assumption) (by rfl) ?_
  refine V_iload_n1 X dX11_about_4 ?_
  refine V_cV1I X dX11_about_5 kX11_108 (t_Lhas l G ad ws n K hL x) (by assumption) (by rfl) (Nat.le_of_ble_eq_true rfl) ⟨⟨Nat.le_of_ble_eq_true rfl, Nat.le_of_ble_eq_true rfl⟩, Nat.le_of_ble_eq_true rfl, Nat.le_of_ble_eq_true rfl⟩ (fun r ws2 hc => ?_)
  obtain ⟨rfl, hw9⟩ := hc
  obtain rfl := hw9.symm
  refine V_if_ne X 14 dX11_about_8 (by decide) (fun h => ?_) (fun h => ?_)
  · have e9 := b_of1 h
    obtain ⟨f, hf, rfl⟩ := inR_of (by omega) e9
    refine V_iload_n2 X dX11_about_14 ?_
    refine V_if_lt X 23 dX11_about_15 (by decide) (fun h2 => ?_) (fun h2 => ?_)
    · refine V_bipushE X (-102) dX11_about_23 (by decide +kernel) ?_
      exact V_iret X dX11_about_25 ⟨by rw [r_about, e9, if_pos rfl, inR_f0 h2]; rfl, rfl⟩
    · refine V_iload_n2 X dX11_about_18 ?_
      refine V_iconstE X (nI 3) dX11_about_19 (by decide +kernel) ?_
      refine V_icmp_lt X 26 dX11_about_20 (by decide) (fun h3 => ?_) (fun h3 => ?_)
      · have e8 : inR 3 z = true := inR_t h2 h3
        obtain ⟨w, hw, rfl⟩ := inR_of (by omega) e8
        refine V_aload_n0 X dX11_about_26 ?_
        refine V_iload_n1 X dX11_about_27 ?_
        refine V_iload_n2 X dX11_about_28 ?_
        refine V_cV2I X dX11_about_29 kX11_111 (t_tellAbout l G ad ws n K kg mm Ln hO hL hRl hkP (by omega) (fun i hi => by have := o3 i hi; omega) f w (by omega) hw) (by assumption) (by rfl) (Nat.le_of_ble_eq_true rfl) ⟨⟨Nat.le_of_ble_eq_true rfl, Nat.le_of_ble_eq_true rfl⟩, Nat.le_of_ble_eq_true rfl, Nat.le_of_ble_eq_true rfl⟩ (fun r ws2 hc => ?_)
        obtain ⟨rfl, hw9⟩ := hc
        obtain rfl := hw9.symm
        exact V_iret X dX11_about_32 ⟨by rw [r_about, e9, if_pos rfl, e8, if_pos rfl, valI_nI (by omega), valI_nI (by omega)], rfl⟩
      · refine V_bipushE X (-102) dX11_about_23 (by decide +kernel) ?_
        exact V_iret X dX11_about_25 ⟨by rw [r_about, e9, if_pos rfl, inR_f1 h3]; rfl, rfl⟩
  · have e9 := b_of0 h
    refine V_bipushE X (-101) dX11_about_11 (by decide +kernel) ?_
    exact V_iret X dX11_about_13 ⟨by simp [r_about, e9], rfl⟩
def r_apart (n : Nat) (K : Nat → Nat) (mm : Nat) (x z : Int32) : Int32 := if mm = 0 then (-103) else if inR (10 ^ n) x && inR (10 ^ n) z then nI (gapP n K (valI x) (valI z)) else (-102)
theorem p_apart (l : Launch) (G : GX) (ad : Nat → Nat) (ws : List CE) (n : Nat) (K : Nat → Nat) (kg mm : Nat) (Ln : Nat → Nat) (np : Nat) (pg : Nat → Nat) (nj : Nat) (Js : Nat → JD) (pn : Nat) (Pe : Nat → Nat) (hn : Nat) (U : Nat → Nat) (tr kk km kp kh rd : Nat) (hC : RC ws n K kg mm Ln np pg nj Js pn Pe hn U tr kk km kp kh rd) (hkP : ad kP = G.2.2.2) (x z : Int32) : Ct l G yX11_apart cX11_apart 3 (some .int) 5 0 0 ad ws [.ref 0, .int x, .int z] (pI ad (fun r ws2 => r = r_apart n K mm x z ∧ ws2 = ws)) := by
  refine Ct.of [some (.ref 0), some (.int x), some (.int z)] (by decide +kernel) (Nat.le_of_ble_eq_true rfl) rfl ?_
  intro p e s m args below meth c A X
  have hO := hC.obj
  obtain ⟨z0, hL, hM, hB, hCe, hSe, hSo, hRg, hRl, hRp, hRh, o1, o2, o3, o4, o5, o6, o7, o8, o9, o10, o11, o12, o13, o14⟩ := hC
  have h104 := pow_le4 o1
  have z1 := hL.2.1
  refine V_aload_n0 X dX11_apart_0 ?_
  refine V_cV0I X dX11_apart_1 kX11_89 (t_hasLine l G ad ws kg mm Ln hO hRl) (by assumption) (by rfl) (Nat.le_of_ble_eq_true rfl) ⟨⟨Nat.le_of_ble_eq_true rfl, Nat.le_of_ble_eq_true rfl⟩, Nat.le_of_ble_eq_true rfl, Nat.le_of_ble_eq_true rfl⟩ (fun r ws2 hc => ?_)
  obtain ⟨rfl, hw9⟩ := hc
  obtain rfl := hw9.symm
  refine V_if_ne X 10 dX11_apart_4 (by decide) (fun h => ?_) (fun h => ?_)
  · have e9 : ¬ mm = 0 := by have := of_decide_eq_true (b_of1 h); omega
    refine V_aload_n0 X dX11_apart_10 ?_
    refine V_getf X dX11_apart_11 fX11_12 (by assumption) (by rfl) ?_
    refine V_iload_n1 X dX11_apart_14 ?_
    refine V_cV1I X dX11_apart_15 kX11_128 (t_LisP l G ad ws n K hL hkP x) (by assumption) (by rfl) (Nat.le_of_ble_eq_true rfl) ⟨⟨Nat.le_of_ble_eq_true rfl, Nat.le_of_ble_eq_true rfl⟩, Nat.le_of_ble_eq_true rfl, Nat.le_of_ble_eq_true rfl⟩ (fun r ws2 hc => ?_)
    obtain ⟨rfl, hw9⟩ := hc
    obtain rfl := hw9.symm
    refine V_if_eq X 32 dX11_apart_18 (by decide) (fun h2 => ?_) (fun h2 => ?_)
    · have e8 := b_of0 h2
      refine V_bipushE X (-102) dX11_apart_32 (by decide +kernel) ?_
      exact V_iret X dX11_apart_34 ⟨by simp [r_apart, e9, e8], rfl⟩
    · have e8 := b_of1 h2
      refine V_aload_n0 X dX11_apart_21 ?_
      refine V_getf X dX11_apart_22 fX11_12 (by assumption) (by rfl) ?_
      refine V_iload_n2 X dX11_apart_25 ?_
      refine V_cV1I X dX11_apart_26 kX11_128 (t_LisP l G ad ws n K hL hkP z) (by assumption) (by rfl) (Nat.le_of_ble_eq_true rfl) ⟨⟨Nat.le_of_ble_eq_true rfl, Nat.le_of_ble_eq_true rfl⟩, Nat.le_of_ble_eq_true rfl, Nat.le_of_ble_eq_true rfl⟩ (fun r ws2 hc => ?_)
      obtain ⟨rfl, hw9⟩ := hc
      obtain rfl := hw9.symm
      refine V_if_ne X 35 dX11_apart_29 (by decide) (fun h3 => ?_) (fun h3 => ?_)
      · have e7 := b_of1 h3
        obtain ⟨a, ha, rfl⟩ := inR_of (by omega) e8
        obtain ⟨b, hb, rfl⟩ := inR_of (by omega) e7
        refine V_aload_n0 X dX11_apart_35 ?_
        refine V_getf X dX11_apart_36 fX11_12 (by assumption) (by rfl) ?_
        refine V_iload_n1 X dX11_apart_39 ?_
        refine V_iload_n2 X dX11_apart_40 ?_
        refine V_cV2I X dX11_apart_41 kX11_131 (t_Lgap l G ad ws n K hL hkP a b (by omega) (by omega)) (by assumption) (by rfl) (Nat.le_of_ble_eq_true rfl) ⟨⟨Nat.le_of_ble_eq_true rfl, Nat.le_of_ble_eq_true rfl⟩, Nat.le_of_ble_eq_true rfl, Nat.le_of_ble_eq_true rfl⟩ (fun r ws2 hc => ?_)
        obtain ⟨rfl, hw9⟩ := hc
        obtain rfl := hw9.symm
        exact V_iret X dX11_apart_44 ⟨by simp [r_apart, e9, e8, e7, valI_nI (show a < 2147483648 by omega), valI_nI (show b < 2147483648 by omega)], rfl⟩
      · have e7 := b_of0 h3
        refine V_bipushE X (-102) dX11_apart_32 (by decide +kernel) ?_
        exact V_iret X dX11_apart_34 ⟨by simp [r_apart, e9, e7], rfl⟩
  · have e9 : mm = 0 := by have := of_decide_eq_false (b_of0 h); omega
    refine V_bipushE X (-103) dX11_apart_7 (by decide +kernel) ?_
    exact V_iret X dX11_apart_9 ⟨by simp [r_apart, e9], rfl⟩
def r_line (mm : Nat) (Ln : Nat → Nat) (x : Int32) : Int32 := if inR mm x then nI (Ln (valI x)) else (-101)
theorem p_line (l : Launch) (G : GX) (ad : Nat → Nat) (ws : List CE) (n : Nat) (K : Nat → Nat) (kg mm : Nat) (Ln : Nat → Nat) (np : Nat) (pg : Nat → Nat) (nj : Nat) (Js : Nat → JD) (pn : Nat) (Pe : Nat → Nat) (hn : Nat) (U : Nat → Nat) (tr kk km kp kh rd : Nat) (hC : RC ws n K kg mm Ln np pg nj Js pn Pe hn U tr kk km kp kh rd) (hkP : ad kP = G.2.2.2) (x : Int32) : Ct l G yX11_line cX11_line 2 (some .int) 2 0 0 ad ws [.ref 0, .int x] (pI ad (fun r ws2 => r = r_line mm Ln x ∧ ws2 = ws)) := by
  refine Ct.of [some (.ref 0), some (.int x)] (by decide +kernel) (Nat.le_of_ble_eq_true rfl) rfl ?_
  intro p e s m args below meth c A X
  obtain ⟨z0, hL, hM, hB, hCe, hSe, hSo, hRg, hRl, hRp, hRh, o1, o2, o3, o4, o5, o6, o7, o8, o9, o10, o11, o12, o13, o14⟩ := hC
  obtain ⟨fl, hR1, hR2⟩ := hRl
  have z23 := hR1.1
  have hm := hR1.2.2.1
  refine V_aload_n0 X dX11_line_0 ?_
  refine V_getf X dX11_line_1 fX11_57 (by assumption) (by rfl) ?_
  refine V_iload_n1 X dX11_line_4 ?_
  refine V_cV1I X dX11_line_5 kX11_146 (t_Rhas l G ad ws 23 24 60 mm fl hR1 x) (by assumption) (by rfl) (Nat.le_of_ble_eq_true rfl) ⟨⟨Nat.le_of_ble_eq_true rfl, Nat.le_of_ble_eq_true rfl⟩, Nat.le_of_ble_eq_true rfl, Nat.le_of_ble_eq_true rfl⟩ (fun r ws2 hc => ?_)
  obtain ⟨rfl, hw9⟩ := hc
  obtain rfl := hw9.symm
  refine V_if_eq X 22 dX11_line_8 (by decide) (fun h => ?_) (fun h => ?_)
  · have e9 := b_of0 h
    refine V_bipushE X (-101) dX11_line_22 (by decide +kernel) ?_
    exact V_iret X dX11_line_24 ⟨by simp [r_line, e9], rfl⟩
  · have e9 := b_of1 h
    obtain ⟨j, hj, rfl⟩ := inR_of (by omega) e9
    refine V_aload_n0 X dX11_line_11 ?_
    refine V_getf X dX11_line_12 fX11_57 (by assumption) (by rfl) ?_
    refine V_iload_n1 X dX11_line_15 ?_
    refine V_cV1I X dX11_line_16 kX11_147 (t_Rget l G ad ws 23 24 60 mm fl hR1 _) (by assumption) (by rfl) (Nat.le_of_ble_eq_true rfl) ⟨⟨Nat.le_of_ble_eq_true rfl, Nat.le_of_ble_eq_true rfl⟩, Nat.le_of_ble_eq_true rfl, Nat.le_of_ble_eq_true rfl⟩ (fun r ws2 hc => ?_)
    obtain ⟨rfl, hw9⟩ := hc
    obtain rfl := hw9.symm
    refine V_goto X 24 dX11_line_19 (by decide) ?_
    exact V_iret X dX11_line_24 ⟨by rw [getR_nI (by omega) hj, hR2 j hj, r_line, e9, if_pos rfl, valI_nI (by omega)], rfl⟩
theorem p_fault (l : Launch) (G : GX) (ad : Nat → Nat) (ws : List CE) (n : Nat) (K : Nat → Nat) (kg mm : Nat) (Ln : Nat → Nat) (np : Nat) (pg : Nat → Nat) (nj : Nat) (Js : Nat → JD) (pn : Nat) (Pe : Nat → Nat) (hn : Nat) (U : Nat → Nat) (tr kk km kp kh rd : Nat) (hC : RC ws n K kg mm Ln np pg nj Js pn Pe hn U tr kk km kp kh rd) (hkP : ad kP = G.2.2.2) : Ct l G yX11_fault cX11_fault 1 (some .int) 3 0 0 ad ws [.ref 0] (pI ad (fun r ws2 => r = nI (faultP n np pg) ∧ ws2 = ws)) := by
  refine Ct.of [some (.ref 0)] (by decide +kernel) (Nat.le_of_ble_eq_true rfl) rfl ?_
  intro p e s m args below meth c A X
  obtain ⟨z0, hL, hM, hB, hCe, hSe, hSo, hRg, hRl, hRp, hRh, o1, o2, o3, o4, o5, o6, o7, o8, o9, o10, o11, o12, o13, o14⟩ := hC
  have z1 := hL.2.1
  refine V_aload_n0 X dX11_fault_0 ?_
  refine V_getf X dX11_fault_1 fX11_53 (by assumption) (by rfl) ?_
  refine V_aload_n0 X dX11_fault_4 ?_
  refine V_getf X dX11_fault_5 fX11_12 (by assumption) (by rfl) ?_
  refine V_cV0I X dX11_fault_8 kX11_122 (t_Lsize l G ad ws n K hL) (by assumption) (by rfl) (Nat.le_of_ble_eq_true rfl) ⟨⟨Nat.le_of_ble_eq_true rfl, Nat.le_of_ble_eq_true rfl⟩, Nat.le_of_ble_eq_true rfl, Nat.le_of_ble_eq_true rfl⟩ (fun r ws2 hc => ?_)
  obtain ⟨rfl, hw9⟩ := hc
  obtain rfl := hw9.symm
  refine V_cS2I X dX11_fault_11 kX11_162 (t_firstFault l G ad ws n np pg hRg o1 o4) (Nat.le_of_ble_eq_true rfl) ⟨⟨Nat.le_of_ble_eq_true rfl, Nat.le_of_ble_eq_true rfl⟩, Nat.le_of_ble_eq_true rfl, Nat.le_of_ble_eq_true rfl⟩ (fun r ws2 hc => ?_)
  obtain ⟨rfl, hw9⟩ := hc
  obtain rfl := hw9.symm
  exact V_iret X dX11_fault_14 ⟨rfl, rfl⟩
def r_told (n nj : Nat) (Js : Nat → JD) (x z : Int32) : Int32 := if inR nj x then (if inR 6 z then markI n (Js (valI x)) (valI z) else (-102)) else (-101)
theorem p_told (l : Launch) (G : GX) (ad : Nat → Nat) (ws : List CE) (n : Nat) (K : Nat → Nat) (kg mm : Nat) (Ln : Nat → Nat) (np : Nat) (pg : Nat → Nat) (nj : Nat) (Js : Nat → JD) (pn : Nat) (Pe : Nat → Nat) (hn : Nat) (U : Nat → Nat) (tr kk km kp kh rd : Nat) (hC : RC ws n K kg mm Ln np pg nj Js pn Pe hn U tr kk km kp kh rd) (hkP : ad kP = G.2.2.2) (x z : Int32) : Ct l G yX11_told cX11_told 3 (some .int) 2 0 0 ad ws [.ref 0, .int x, .int z] (pI ad (fun r ws2 => r = r_told n nj Js x z ∧ ws2 = ws)) := by
  refine Ct.of [some (.ref 0), some (.int x), some (.int z)] (by decide +kernel) (Nat.le_of_ble_eq_true rfl) rfl ?_
  intro p e s m args below meth c A X
  obtain ⟨z0, hL, hM, hB, hCe, hSe, hSo, hRg, hRl, hRp, hRh, o1, o2, o3, o4, o5, o6, o7, o8, o9, o10, o11, o12, o13, o14⟩ := hC
  have z4 := hM.1
  have hj5 := hM.2.1
  refine V_aload_n0 X dX11_told_0 ?_
  refine V_getf X dX11_told_1 fX11_21 (by assumption) (by rfl) ?_
  refine V_iload_n1 X dX11_told_4 ?_
  refine V_cV1I X dX11_told_5 kX11_174 (t_Bhas l G ad ws n nj Js hM x) (by assumption) (by rfl) (Nat.le_of_ble_eq_true rfl) ⟨⟨Nat.le_of_ble_eq_true rfl, Nat.le_of_ble_eq_true rfl⟩, Nat.le_of_ble_eq_true rfl, Nat.le_of_ble_eq_true rfl⟩ (fun r ws2 hc => ?_)
  obtain ⟨rfl, hw9⟩ := hc
  obtain rfl := hw9.symm
  refine V_if_ne X 14 dX11_told_8 (by decide) (fun h => ?_) (fun h => ?_)
  · have e9 := b_of1 h
    obtain ⟨j, hj, rfl⟩ := inR_of (by omega) e9
    refine V_iload_n2 X dX11_told_14 ?_
    refine V_if_lt X 24 dX11_told_15 (by decide) (fun h2 => ?_) (fun h2 => ?_)
    · refine V_bipushE X (-102) dX11_told_24 (by decide +kernel) ?_
      exact V_iret X dX11_told_26 ⟨by rw [r_told, e9, if_pos rfl, inR_f0 h2]; rfl, rfl⟩
    · refine V_iload_n2 X dX11_told_18 ?_
      refine V_bipushE X (nI 6) dX11_told_19 (by decide +kernel) ?_
      refine V_icmp_lt X 27 dX11_told_21 (by decide) (fun h3 => ?_) (fun h3 => ?_)
      · have e8 : inR 6 z = true := inR_t h2 h3
        obtain ⟨w, hw, rfl⟩ := inR_of (by omega) e8
        refine V_aload_n0 X dX11_told_27 ?_
        refine V_getf X dX11_told_28 fX11_21 (by assumption) (by rfl) ?_
        refine V_iload_n1 X dX11_told_31 ?_
        refine V_iload_n2 X dX11_told_32 ?_
        refine V_cV2I X dX11_told_33 kX11_175 (t_mark l G ad ws n nj Js hM j w hj hw) (by assumption) (by rfl) (Nat.le_of_ble_eq_true rfl) ⟨⟨Nat.le_of_ble_eq_true rfl, Nat.le_of_ble_eq_true rfl⟩, Nat.le_of_ble_eq_true rfl, Nat.le_of_ble_eq_true rfl⟩ (fun r ws2 hc => ?_)
        obtain ⟨rfl, hw9⟩ := hc
        obtain rfl := hw9.symm
        exact V_iret X dX11_told_36 ⟨by rw [r_told, e9, if_pos rfl, e8, if_pos rfl, valI_nI (by omega), valI_nI (by omega)], rfl⟩
      · refine V_bipushE X (-102) dX11_told_24 (by decide +kernel) ?_
        exact V_iret X dX11_told_26 ⟨by rw [r_told, e9, if_pos rfl, inR_f1 h3]; rfl, rfl⟩
  · have e9 := b_of0 h
    refine V_bipushE X (-101) dX11_told_11 (by decide +kernel) ?_
    exact V_iret X dX11_told_13 ⟨by simp [r_told, e9], rfl⟩
