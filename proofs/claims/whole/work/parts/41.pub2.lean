/-! calls that change the class's own numbers -/
def updN (U : Nat → Nat) (k v : Nat) : Nat → Nat := fun i => if i = k then v else U i
theorem updN_eq {U : Nat → Nat} {k v : Nat} : updN U k v k = v := if_pos rfl
theorem updN_ne {U : Nat → Nat} {k v i : Nat} (h : i ≠ k) : updN U k v i = U i := if_neg h
theorem RowN.add {ws : List CE} {k kI N n : Nat} {U : Nat → Nat} {f : Nat → Int32} (h : RowAt ws k kI N n f) (hU : ∀ i, i < n → f i = nI (U i)) (hn : n < N) (v : Nat) : RowN ((ws.set kI (iA N (upd f n (nI v)))).set k (oB 7 [.ref kI, .int (nI (n + 1))])) k kI N (n + 1) (updN U n v) := by
  obtain ⟨h1, h2, h3, h4, h5⟩ := h
  refine ⟨upd f n (nI v), ⟨gset (gne (Ne.symm h5) h1), gne h5 (gset h2), by omega, h4, h5⟩, fun i hi => ?_⟩
  by_cases e : i = n
  · rw [e, pk_us, updN_eq]
  · rw [pk_un e, updN_ne e]; exact hU i (by omega)
theorem RowN.cut {ws : List CE} {k kI N n j : Nat} {U : Nat → Nat} (h : RowN ws k kI N n U) (hj : j ≤ n) : RowN (ws.set k (oB 7 [.ref kI, .int (nI j)])) k kI N j U := by
  obtain ⟨f, ⟨h1, h2, h3, h4, h5⟩, hU⟩ := h
  exact ⟨f, ⟨gset h1, gne h5 h2, by omega, h4, h5⟩, fun i hi => hU i (by omega)⟩
/-- the class's own object and its rows changed -/
theorem RC.own {ks : List Nat} {ws ws2 : List CE} {n : Nat} {K : Nat → Nat} {kg mm : Nat} {Ln : Nat → Nat} {np : Nat} {pg : Nat → Nat} {nj : Nat} {Js : Nat → JD} {pn : Nat} {Pe : Nat → Nat} {hn : Nat} {U : Nat → Nat} {tr kk km kp kh rd : Nat} {kg' mm' : Nat} {Ln' : Nat → Nat} {np' : Nat} {pg' : Nat → Nat} {pn' : Nat} {Pe' : Nat → Nat} {hn' : Nat} {U' : Nat → Nat} {tr' kk' km' kp' kh' : Nat} (hC : RC ws n K kg mm Ln np pg nj Js pn Pe hn U tr kk km kp kh rd) (hf : fr ks ws ws2) (hk : ∀ k ∈ ks, k = 0 ∨ (21 ≤ k ∧ k ≤ 28)) (h0 : ws2[0]? = some (CObj kg' tr' kk' km' kp' kh')) (h1 : RowN ws2 21 22 10 np' pg') (h2 : RowN ws2 23 24 60 mm' Ln') (h3 : RowN ws2 25 26 6 pn' Pe') (h4 : RowN ws2 27 28 6 hn' U')
    (hok : OKs n K kg' mm' Ln' np' pg' nj Js pn' Pe' hn' U' tr' kk' km' kp' kh' rd) : RC ws2 n K kg' mm' Ln' np' pg' nj Js pn' Pe' hn' U' tr' kk' km' kp' kh' rd := by
  obtain ⟨a, b, c, d, e, f, g, i, j, k, l, m⟩ := hC
  have nk : ∀ k, ¬ (k = 0 ∨ (21 ≤ k ∧ k ≤ 28)) → k ∉ ks := fun k q q2 => q (hk k q2)
  exact ⟨h0, Looks_fr0 b hf (fun k q => by have := hk k q; omega), c.fr hf (nk _ (by omega)) (nk _ (by omega)), d.fr hf (nk _ (by omega)) (nk _ (by omega)) (nk _ (by omega)), e.fr hf (fun k q => by have := hk k q; omega), SeaI.fr f hf (fun k q => by have := hk k q; omega), g.fr hf (fun k q => by have := hk k q; omega), h1, h2, h3, h4, hok⟩
abbrev own9 : List Nat := [0, 21, 22, 23, 24, 25, 26, 27, 28]
def r_begin (n mm kg : Nat) : Int32 := if mm = 0 ∧ 2 ≤ n then nI kg else (-103)
theorem p_begin (l : Launch) (G : GX) (ad : Nat → Nat) (ws : List CE) (n : Nat) (K : Nat → Nat) (kg mm : Nat) (Ln : Nat → Nat) (np : Nat) (pg : Nat → Nat) (nj : Nat) (Js : Nat → JD) (pn : Nat) (Pe : Nat → Nat) (hn : Nat) (U : Nat → Nat) (tr kk km kp kh rd : Nat) (hC : RC ws n K kg mm Ln np pg nj Js pn Pe hn U tr kk km kp kh rd) (hkP : ad kP = G.2.2.2) : Ct l G yX11_begin cX11_begin 1 (some .int) 2 0 0 ad ws [.ref 0] (pI ad (fun r ws2 => r = r_begin n mm kg ∧ (if mm = 0 ∧ 2 ≤ n then RC ws2 n K kg 1 (updN Ln 0 kg) np pg nj Js pn Pe hn U tr kk km kp kh rd else RC ws2 n K kg mm Ln np pg nj Js pn Pe hn U tr kk km kp kh rd) ∧ fr own9 ws ws2)) := by
  refine Ct.of [some (.ref 0)] (by decide +kernel) (Nat.le_of_ble_eq_true rfl) rfl ?_
  intro p e s m args below meth c A X
  have hO := hC.obj
  have hC0 := hC
  obtain ⟨z0, hL, hM, hB, hCe, hSe, hSo, hRg, hRl, hRp, hRh, o1, o2, o3, o4, o5, o6, o7, o8, o9, o10, o11, o12, o13, o14⟩ := hC
  have z1 := hL.2.1
  have hRl0 := hRl
  obtain ⟨fl, hR1, hR2⟩ := hRl
  have z23 := hR1.1
  refine V_aload_n0 X dX11_begin_0 ?_
  refine V_cV0I X dX11_begin_1 kX11_89 (t_hasLine l G ad ws kg mm Ln hO hRl0) (by assumption) (by rfl) (Nat.le_of_ble_eq_true rfl) ⟨⟨Nat.le_of_ble_eq_true rfl, Nat.le_of_ble_eq_true rfl⟩, Nat.le_of_ble_eq_true rfl, Nat.le_of_ble_eq_true rfl⟩ (fun r ws2 hc => ?_)
  obtain ⟨rfl, hw9⟩ := hc
  obtain rfl := hw9.symm
  refine V_if_ne X 18 dX11_begin_4 (by decide) (fun h => ?_) (fun h => ?_)
  · have e9 : ¬ mm = 0 := by have := of_decide_eq_true (b_of1 h); omega
    refine V_bipushE X (-103) dX11_begin_18 (by decide +kernel) ?_
    exact V_iret X dX11_begin_20 ⟨by rw [r_begin, if_neg (fun q => e9 q.1)], by rw [if_neg (fun q => e9 q.1)]; exact hC0, fr.rfl⟩
  · have e9 : mm = 0 := by have := of_decide_eq_false (b_of0 h); omega
    refine V_aload_n0 X dX11_begin_7 ?_
    refine V_getf X dX11_begin_8 fX11_12 (by assumption) (by rfl) ?_
    refine V_cV0I X dX11_begin_11 kX11_122 (t_Lsize l G ad ws n K hL) (by assumption) (by rfl) (Nat.le_of_ble_eq_true rfl) ⟨⟨Nat.le_of_ble_eq_true rfl, Nat.le_of_ble_eq_true rfl⟩, Nat.le_of_ble_eq_true rfl, Nat.le_of_ble_eq_true rfl⟩ (fun r ws2 hc => ?_)
    obtain ⟨rfl, hw9⟩ := hc
    obtain rfl := hw9.symm
    refine V_iconstE X (nI 2) dX11_begin_14 (by decide +kernel) ?_
    refine V_icmp_ge X 21 dX11_begin_15 (by decide) (fun h2 => ?_) (fun h2 => ?_)
    · have e8 : 2 ≤ n := (nI_leI (a := 2) (by omega) (by omega)).mp h2
      subst e9
      refine V_aload_n0 X dX11_begin_21 ?_
      refine V_getf X dX11_begin_22 fX11_57 (by assumption) (by rfl) ?_
      refine V_aload_n0 X dX11_begin_25 ?_
      refine V_getf X dX11_begin_26 fX11_66 (by assumption) (by rfl) ?_
      refine V_cV1V X dX11_begin_29 kX11_126 (t_Radd l G ad ws 23 24 60 0 fl hR1 (by omega) (nI kg)) (by assumption) (by rfl) (Nat.le_of_ble_eq_true rfl) ⟨⟨Nat.le_of_ble_eq_true rfl, Nat.le_of_ble_eq_true rfl⟩, Nat.le_of_ble_eq_true rfl, Nat.le_of_ble_eq_true rfl⟩ (fun ws2 hc => ?_)
      obtain rfl := hc.symm
      have hfx : fr own9 ws ((ws.set 24 (iA 60 (upd fl 0 (nI kg)))).set 23 (oB 7 [.ref 24, .int (nI (0 + 1))])) := (fr.rfl.set (by decide)).set (by decide)
      have hfy : fr [23, 24] ws ((ws.set 24 (iA 60 (upd fl 0 (nI kg)))).set 23 (oB 7 [.ref 24, .int (nI (0 + 1))])) := (fr.rfl.set (by decide)).set (by decide)
      have hRn := RowN.add hR1 hR2 (by omega) kg
      have y0 := hfy.get (by decide) z0
      refine V_aload_n0 X dX11_begin_32 ?_
      refine V_getf X dX11_begin_33 fX11_66 (by assumption) (by rfl) ?_
      refine V_iret X dX11_begin_36 ⟨by rw [r_begin, if_pos ⟨rfl, e8⟩], ?_, hfx⟩
      rw [if_pos ⟨rfl, e8⟩]
      obtain ⟨q1, q2, q3, q4⟩ := o8 rfl
      exact hC0.own hfy (by decide) y0 (hRg.fr hfy (by decide) (by decide)) hRn (hRp.fr hfy (by decide) (by decide)) (hRh.fr hfy (by decide) (by decide)) ⟨o1, o2, fun i hi => by rw [show i = 0 by omega, updN_eq]; exact o2, o4, o5, o6, fun _ => e8, fun q => absurd q (by omega), o9, by omega, o11, o12, o13, o14⟩
    · have e8 : ¬ 2 ≤ n := fun q => h2 ((nI_leI (a := 2) (by omega) (by omega)).mpr q)
      refine V_bipushE X (-103) dX11_begin_18 (by decide +kernel) ?_
      exact V_iret X dX11_begin_20 ⟨by rw [r_begin, if_neg (fun q => e8 q.2)], by rw [if_neg (fun q => e8 q.2)]; exact hC0, fr.rfl⟩
def okPaint (n : Nat) (K : Nat → Nat) (mm kg nj : Nat) (Js : Nat → JD) (Ln : Nat → Nat) (x : Int32) : Bool := decide (0 < mm) && inR (10 ^ n) x && agreeP n K nj Js (Ln (mm - 1)) (valI x) (agedP n K kg)
def r_paint (n : Nat) (K : Nat → Nat) (mm kg nj : Nat) (Js : Nat → JD) (Ln : Nat → Nat) (x : Int32) : Int32 := if mm = 0 then (-103) else if inR (10 ^ n) x then (if agreeP n K nj Js (Ln (mm - 1)) (valI x) (agedP n K kg) then (if 60 ≤ mm then (-104) else nI (gapP n K (agedP n K kg) (valI x))) else (-103)) else (-102)
set_option maxHeartbeats 1000000 in
theorem p_paint (l : Launch) (G : GX) (ad : Nat → Nat) (ws : List CE) (n : Nat) (K : Nat → Nat) (kg mm : Nat) (Ln : Nat → Nat) (np : Nat) (pg : Nat → Nat) (nj : Nat) (Js : Nat → JD) (pn : Nat) (Pe : Nat → Nat) (hn : Nat) (U : Nat → Nat) (tr kk km kp kh rd : Nat) (hC : RC ws n K kg mm Ln np pg nj Js pn Pe hn U tr kk km kp kh rd) (hkP : ad kP = G.2.2.2) (x : Int32) : Ct l G yX11_paint cX11_paint 3 (some .int) 7 0 0 ad ws [.ref 0, .int x] (pI ad (fun r ws2 => r = r_paint n K mm kg nj Js Ln x ∧ (if okPaint n K mm kg nj Js Ln x = true ∧ mm < 60 then RC ws2 n K (agedP n K kg) (mm + 1) (updN Ln mm (valI x)) np pg nj Js pn Pe hn U tr kk km kp kh rd else RC ws2 n K kg mm Ln np pg nj Js pn Pe hn U tr kk km kp kh rd) ∧ fr own9 ws ws2)) := by
  refine Ct.of [some (.ref 0), some (.int x), none] (by decide +kernel) (Nat.le_of_ble_eq_true rfl) rfl ?_
  intro p e s m args below meth c A X
  have hO := hC.obj
  have hC0 := hC
  obtain ⟨z0, hL, hM, hB, hCe, hSe, hSo, hRg, hRl, hRp, hRh, o1, o2, o3, o4, o5, o6, o7, o8, o9, o10, o11, o12, o13, o14⟩ := hC
  have h104 := pow_le4 o1
  have z1 := hL.2.1
  have z4 := hM.1
  have hRl0 := hRl
  obtain ⟨fl, hR1, hR2⟩ := hRl
  have z23 := hR1.1
  have hm60 := hR1.2.2.1
  refine V_aload_n0 X dX11_paint_0 ?_
  refine V_cV0I X dX11_paint_1 kX11_89 (t_hasLine l G ad ws kg mm Ln hO hRl0) (by assumption) (by rfl) (Nat.le_of_ble_eq_true rfl) ⟨⟨Nat.le_of_ble_eq_true rfl, Nat.le_of_ble_eq_true rfl⟩, Nat.le_of_ble_eq_true rfl, Nat.le_of_ble_eq_true rfl⟩ (fun r ws2 hc => ?_)
  obtain ⟨rfl, hw9⟩ := hc
  obtain rfl := hw9.symm
  refine V_if_ne X 10 dX11_paint_4 (by decide) (fun h => ?_) (fun h => ?_)
  · have e9 : 0 < mm := of_decide_eq_true (b_of1 h)
    have e9' : ¬ mm = 0 := by omega
    have hla := o3 (mm - 1) (by omega)
    have hag := agedP_lt (K := K) o2
    refine V_aload_n0 X dX11_paint_10 ?_
    refine V_getf X dX11_paint_11 fX11_12 (by assumption) (by rfl) ?_
    refine V_iload_n1 X dX11_paint_14 ?_
    refine V_cV1I X dX11_paint_15 kX11_128 (t_LisP l G ad ws n K hL hkP x) (by assumption) (by rfl) (Nat.le_of_ble_eq_true rfl) ⟨⟨Nat.le_of_ble_eq_true rfl, Nat.le_of_ble_eq_true rfl⟩, Nat.le_of_ble_eq_true rfl, Nat.le_of_ble_eq_true rfl⟩ (fun r ws2 hc => ?_)
    obtain ⟨rfl, hw9⟩ := hc
    obtain rfl := hw9.symm
    refine V_if_ne X 24 dX11_paint_18 (by decide) (fun h2 => ?_) (fun h2 => ?_)
    · have e8 := b_of1 h2
      obtain ⟨a, ha, rfl⟩ := inR_of (by omega) e8
      have hva := valI_nI (show a < 2147483648 by omega)
      refine V_aload_n0 X dX11_paint_24 ?_
      refine V_getf X dX11_paint_25 fX11_12 (by assumption) (by rfl) ?_
      refine V_aload_n0 X dX11_paint_28 ?_
      refine V_getf X dX11_paint_29 fX11_66 (by assumption) (by rfl) ?_
      refine V_cV1I X dX11_paint_32 kX11_134 (t_Laged l G ad ws n K hL hkP kg o2) (by assumption) (by rfl) (Nat.le_of_ble_eq_true rfl) ⟨⟨Nat.le_of_ble_eq_true rfl, Nat.le_of_ble_eq_true rfl⟩, Nat.le_of_ble_eq_true rfl, Nat.le_of_ble_eq_true rfl⟩ (fun r ws2 hc => ?_)
      obtain ⟨rfl, hw9⟩ := hc
      obtain rfl := hw9.symm
      refine V_istore_n2 X dX11_paint_35 (Nat.le_of_ble_eq_true rfl) rfl ?_
      refine V_aload_n0 X dX11_paint_36 ?_
      refine V_getf X dX11_paint_37 fX11_21 (by assumption) (by rfl) ?_
      refine V_aload_n0 X dX11_paint_40 ?_
      refine V_getf X dX11_paint_41 fX11_57 (by assumption) (by rfl) ?_
      refine V_cV0I X dX11_paint_44 kX11_138 (t_Rlast l G ad ws 23 24 60 mm fl hR1 e9) (by assumption) (by rfl) (Nat.le_of_ble_eq_true rfl) ⟨⟨Nat.le_of_ble_eq_true rfl, Nat.le_of_ble_eq_true rfl⟩, Nat.le_of_ble_eq_true rfl, Nat.le_of_ble_eq_true rfl⟩ (fun r ws2 hc => ?_)
      obtain ⟨rfl, hw9⟩ := hc
      obtain rfl := hw9.symm
      rw [hR2 _ (by omega)]
      refine V_iload_n1 X dX11_paint_47 ?_
      refine V_iload_n2 X dX11_paint_48 ?_
      refine V_cV3I X dX11_paint_49 kX11_141 (t_agrees l G ad ws n nj K Js hL hM hB _ a _ (by omega) (by omega) (by omega)) (by assumption) (by rfl) (Nat.le_of_ble_eq_true rfl) ⟨⟨Nat.le_of_ble_eq_true rfl, Nat.le_of_ble_eq_true rfl⟩, Nat.le_of_ble_eq_true rfl, Nat.le_of_ble_eq_true rfl⟩ (fun r ws2 hc => ?_)
      obtain ⟨rfl, hw9⟩ := hc
      obtain rfl := hw9.symm
      refine V_if_ne X 58 dX11_paint_52 (by decide) (fun h3 => ?_) (fun h3 => ?_)
      · have e7 := b_of1 h3
        have eok : okPaint n K mm kg nj Js Ln (nI a) = true := by simp [okPaint, e9, e8, hva, e7]
        refine V_aload_n0 X dX11_paint_58 ?_
        refine V_getf X dX11_paint_59 fX11_57 (by assumption) (by rfl) ?_
        refine V_cV0I X dX11_paint_62 kX11_145 (t_RisFull l G ad ws 23 24 60 mm fl hR1) (by assumption) (by rfl) (Nat.le_of_ble_eq_true rfl) ⟨⟨Nat.le_of_ble_eq_true rfl, Nat.le_of_ble_eq_true rfl⟩, Nat.le_of_ble_eq_true rfl, Nat.le_of_ble_eq_true rfl⟩ (fun r ws2 hc => ?_)
        obtain ⟨rfl, hw9⟩ := hc
        obtain rfl := hw9.symm
        refine V_if_eq X 71 dX11_paint_65 (by decide) (fun h4 => ?_) (fun h4 => ?_)
        · have e6 := of_decide_eq_false (b_of0 h4)
          refine V_aload_n0 X dX11_paint_71 ?_
          refine V_iload_n2 X dX11_paint_72 ?_
          refine V_putf X dX11_paint_73 fX11_66 (by assumption) (Nat.le_of_ble_eq_true rfl) rfl rfl ?_
          refine V_eqW (ws2 := ws.set 0 (CObj (agedP n K kg) tr kk km kp kh)) rfl ?_
          have hf1 : fr [0] ws (ws.set 0 (CObj (agedP n K kg) tr kk km kp kh)) := fr.rfl.set (by decide)
          have y0 := gset (e2 := CObj (agedP n K kg) tr kk km kp kh) z0
          generalize ws.set 0 (CObj (agedP n K kg) tr kk km kp kh) = wa at hf1 y0 ⊢
          have hRa := hR1.fr hf1 (by decide) (by decide)
          have y23 := hRa.1
          refine V_aload_n0 X dX11_paint_76 ?_
          refine V_getf X dX11_paint_77 fX11_57 (by assumption) (by rfl) ?_
          refine V_iload_n1 X dX11_paint_80 ?_
          refine V_cV1V X dX11_paint_81 kX11_126 (t_Radd l G ad wa 23 24 60 mm fl hRa (by omega) (nI a)) (by assumption) (by rfl) (Nat.le_of_ble_eq_true rfl) ⟨⟨Nat.le_of_ble_eq_true rfl, Nat.le_of_ble_eq_true rfl⟩, Nat.le_of_ble_eq_true rfl, Nat.le_of_ble_eq_true rfl⟩ (fun ws2 hc => ?_)
          obtain rfl := hc.symm
          have hfx : fr [0, 23, 24] ws ((wa.set 24 (iA 60 (upd fl mm (nI a)))).set 23 (oB 7 [.ref 24, .int (nI (mm + 1))])) := ((hf1.mono (by decide)).set (by decide)).set (by decide)
          have hfa : fr [23, 24] wa ((wa.set 24 (iA 60 (upd fl mm (nI a)))).set 23 (oB 7 [.ref 24, .int (nI (mm + 1))])) := (fr.rfl.set (by decide)).set (by decide)
          have hRn := RowN.add hRa hR2 (by omega) a
          have x0 := hfa.get (by decide) y0
          generalize (wa.set 24 (iA 60 (upd fl mm (nI a)))).set 23 (oB 7 [.ref 24, .int (nI (mm + 1))]) = wb at hfx hfa hRn x0 ⊢
          have hLb := Looks_fr0 hL hfx (by decide)
          have x1 := hLb.2.1
          refine V_aload_n0 X dX11_paint_84 ?_
          refine V_getf X dX11_paint_85 fX11_12 (by assumption) (by rfl) ?_
          refine V_aload_n0 X dX11_paint_88 ?_
          refine V_getf X dX11_paint_89 fX11_66 (by assumption) (by rfl) ?_
          refine V_iload_n1 X dX11_paint_92 ?_
          refine V_cV2I X dX11_paint_93 kX11_131 (t_Lgap l G ad wb n K hLb hkP (agedP n K kg) a (by omega) (by omega)) (by assumption) (by rfl) (Nat.le_of_ble_eq_true rfl) ⟨⟨Nat.le_of_ble_eq_true rfl, Nat.le_of_ble_eq_true rfl⟩, Nat.le_of_ble_eq_true rfl, Nat.le_of_ble_eq_true rfl⟩ (fun r ws2 hc => ?_)
          obtain ⟨rfl, hw9⟩ := hc
          obtain rfl := hw9.symm
          refine V_iret X dX11_paint_96 ⟨by rw [r_paint, if_neg e9', if_pos e8, hva, if_pos e7, if_neg (by omega)], ?_, hfx.mono (by decide)⟩
          rw [if_pos ⟨eok, by omega⟩, hva]
          refine hC0.own hfx (by decide) x0 (hRg.fr hfx (by decide) (by decide)) hRn (hRp.fr hfx (by decide) (by decide)) (hRh.fr hfx (by decide) (by decide)) ⟨o1, hag, fun i hi => ?_, o4, o5, o6, fun _ => o7 e9, fun q => absurd q (by omega), o9, by omega, o11, o12, o13, o14⟩
          by_cases q : i = mm
          · rw [q, updN_eq]; exact ha
          · rw [updN_ne q]; exact o3 i (by omega)
        · have e6 := of_decide_eq_true (b_of1 h4)
          refine V_bipushE X (-104) dX11_paint_68 (by decide +kernel) ?_
          exact V_iret X dX11_paint_70 ⟨by rw [r_paint, if_neg e9', if_pos e8, hva, if_pos e7, if_pos e6], by rw [if_neg (fun q => by omega)]; exact hC0, fr.rfl⟩
      · have e7 := b_of0 h3
        refine V_bipushE X (-103) dX11_paint_55 (by decide +kernel) ?_
        exact V_iret X dX11_paint_57 ⟨by rw [r_paint, if_neg e9', if_pos e8, hva, e7]; rfl, by rw [if_neg (fun q => by have := q.1; simp [okPaint, hva, e7] at this)]; exact hC0, fr.rfl⟩
    · have e8 := b_of0 h2
      refine V_bipushE X (-102) dX11_paint_21 (by decide +kernel) ?_
      exact V_iret X dX11_paint_23 ⟨by rw [r_paint, if_neg e9', e8]; rfl, by rw [if_neg (fun q => by have := q.1; simp [okPaint, e8] at this)]; exact hC0, fr.rfl⟩
  · have e9 : mm = 0 := by have := of_decide_eq_false (b_of0 h); omega
    refine V_bipushE X (-103) dX11_paint_7 (by decide +kernel) ?_
    exact V_iret X dX11_paint_9 ⟨by rw [r_paint, if_pos e9], by rw [if_neg (fun q => by have := q.1; simp [okPaint, e9] at this)]; exact hC0, fr.rfl⟩
theorem p_blank (l : Launch) (G : GX) (ad : Nat → Nat) (ws : List CE) (n : Nat) (K : Nat → Nat) (kg mm : Nat) (Ln : Nat → Nat) (np : Nat) (pg : Nat → Nat) (nj : Nat) (Js : Nat → JD) (pn : Nat) (Pe : Nat → Nat) (hn : Nat) (U : Nat → Nat) (tr kk km kp kh rd : Nat) (hC : RC ws n K kg mm Ln np pg nj Js pn Pe hn U tr kk km kp kh rd) (hkP : ad kP = G.2.2.2) : Ct l G yX11_blank cX11_blank 2 (some .int) 1 0 0 ad ws [.ref 0] (pI ad (fun r ws2 => r = nI np ∧ RC ws2 n K kg mm Ln 0 pg nj Js pn Pe hn U tr kk km kp kh rd ∧ fr own9 ws ws2)) := by
  refine Ct.of [some (.ref 0), none] (by decide +kernel) (Nat.le_of_ble_eq_true rfl) rfl ?_
  intro p e s m args below meth c A X
  have hC0 := hC
  obtain ⟨z0, hL, hM, hB, hCe, hSe, hSo, hRg, hRl, hRp, hRh, o1, o2, o3, o4, o5, o6, o7, o8, o9, o10, o11, o12, o13, o14⟩ := hC
  have hRg0 := hRg
  obtain ⟨fp, hR1, hR2⟩ := hRg
  have z21 := hR1.1
  refine V_aload_n0 X dX11_blank_0 ?_
  refine V_getf X dX11_blank_1 fX11_53 (by assumption) (by rfl) ?_
  refine V_cV0I X dX11_blank_4 kX11_154 (t_Rsize l G ad ws 21 22 10 np fp hR1) (by assumption) (by rfl) (Nat.le_of_ble_eq_true rfl) ⟨⟨Nat.le_of_ble_eq_true rfl, Nat.le_of_ble_eq_true rfl⟩, Nat.le_of_ble_eq_true rfl, Nat.le_of_ble_eq_true rfl⟩ (fun r ws2 hc => ?_)
  obtain ⟨rfl, hw9⟩ := hc
  obtain rfl := hw9.symm
  refine V_istore_n1 X dX11_blank_7 (Nat.le_of_ble_eq_true rfl) rfl ?_
  refine V_aload_n0 X dX11_blank_8 ?_
  refine V_getf X dX11_blank_9 fX11_53 (by assumption) (by rfl) ?_
  refine V_iconstE X (nI 0) dX11_blank_12 (by decide +kernel) ?_
  refine V_cV1V X dX11_blank_13 kX11_159 (t_Rcut l G ad ws 21 22 10 np fp hR1 0 (by omega)) (by assumption) (by rfl) (Nat.le_of_ble_eq_true rfl) ⟨⟨Nat.le_of_ble_eq_true rfl, Nat.le_of_ble_eq_true rfl⟩, Nat.le_of_ble_eq_true rfl, Nat.le_of_ble_eq_true rfl⟩ (fun ws2 hc => ?_)
  obtain rfl := hc.symm
  have hfx : fr [21] ws (ws.set 21 (oB 7 [.ref 22, .int (nI 0)])) := fr.rfl.set (by decide)
  refine V_iload_n1 X dX11_blank_16 ?_
  exact V_iret X dX11_blank_17 ⟨rfl, hC0.own hfx (by decide) (hfx.get (by decide) z0) (hRg0.cut (by omega)) (hRl.fr hfx (by decide) (by decide)) (hRp.fr hfx (by decide) (by decide)) (hRh.fr hfx (by decide) (by decide)) ⟨o1, o2, o3, fun i hi => absurd hi (by omega), o5, o6, o7, o8, o9, o10, o11, o12, o13, o14⟩, hfx.mono (by decide)⟩
def okAdd (n mm N k : Nat) (x : Int32) : Bool := decide (0 < mm) && inR (10 ^ n) x && decide (k < N)
theorem refI_0 {n mm N k : Nat} {x : Int32} (h : refI n mm N k x = 0) : 0 < mm ∧ inR (10 ^ n) x = true ∧ k < N := by
  unfold refI at h
  split at h
  · exact absurd h (by decide +kernel)
  · split at h
    · split at h
      · exact absurd h (by decide +kernel)
      · next a b c => exact ⟨by omega, b, by omega⟩
    · exact absurd h (by decide +kernel)
theorem refI_no {n mm N k : Nat} {x : Int32} (h : ¬ refI n mm N k x = 0) : okAdd n mm N k x = false := by
  unfold refI at h
  unfold okAdd
  split at h
  · next a => simp [a]
  · split at h
    · next a b =>
      split at h
      · next c => simp [show ¬ k < N by omega]
      · exact absurd rfl h
    · next b => simp [b]
def r_person (n mm pn : Nat) (x : Int32) : Int32 := if okAdd n mm 6 pn x then nI pn else refI n mm 6 pn x
theorem p_person (l : Launch) (G : GX) (ad : Nat → Nat) (ws : List CE) (n : Nat) (K : Nat → Nat) (kg mm : Nat) (Ln : Nat → Nat) (np : Nat) (pg : Nat → Nat) (nj : Nat) (Js : Nat → JD) (pn : Nat) (Pe : Nat → Nat) (hn : Nat) (U : Nat → Nat) (tr kk km kp kh rd : Nat) (hC : RC ws n K kg mm Ln np pg nj Js pn Pe hn U tr kk km kp kh rd) (hkP : ad kP = G.2.2.2) (x : Int32) : Ct l G yX11_person cX11_person 3 (some .int) 3 0 0 ad ws [.ref 0, .int x] (pI ad (fun r ws2 => r = r_person n mm pn x ∧ (if okAdd n mm 6 pn x = true then RC ws2 n K kg mm Ln np pg nj Js (pn + 1) (updN Pe pn (valI x)) hn U tr kk km kp kh rd else RC ws2 n K kg mm Ln np pg nj Js pn Pe hn U tr kk km kp kh rd) ∧ fr own9 ws ws2)) := by
  refine Ct.of [some (.ref 0), some (.int x), none] (by decide +kernel) (Nat.le_of_ble_eq_true rfl) rfl ?_
  intro p e s m args below meth c A X
  have hO := hC.obj
  have hC0 := hC
  obtain ⟨z0, hL, hM, hB, hCe, hSe, hSo, hRg, hRl, hRp, hRh, o1, o2, o3, o4, o5, o6, o7, o8, o9, o10, o11, o12, o13, o14⟩ := hC
  have h104 := pow_le4 o1
  obtain ⟨fp, hR1, hR2⟩ := hRp
  have z25 := hR1.1
  have hp6 := hR1.2.2.1
  refine V_aload_n0 X dX11_person_0 ?_
  refine V_iload_n1 X dX11_person_1 ?_
  refine V_aload_n0 X dX11_person_2 ?_
  refine V_getf X dX11_person_3 fX11_60 (by assumption) (by rfl) ?_
  refine V_cV2I X dX11_person_6 kX11_211 (t_refusalOf l G ad ws n K kg mm Ln hO hL hRl hkP x 25 26 6 pn fp hR1) (by assumption) (by rfl) (Nat.le_of_ble_eq_true rfl) ⟨⟨Nat.le_of_ble_eq_true rfl, Nat.le_of_ble_eq_true rfl⟩, Nat.le_of_ble_eq_true rfl, Nat.le_of_ble_eq_true rfl⟩ (fun r ws2 hc => ?_)
  obtain ⟨rfl, hw9⟩ := hc
  obtain rfl := hw9.symm
  refine V_istore_n2 X dX11_person_9 (Nat.le_of_ble_eq_true rfl) rfl ?_
  refine V_iload_n2 X dX11_person_10 ?_
  refine V_if_eq X 16 dX11_person_11 (by decide) (fun h => ?_) (fun h => ?_)
  · obtain ⟨q1, q2, q3⟩ := refI_0 h
    obtain ⟨a, ha, rfl⟩ := inR_of (by omega) q2
    have hva := valI_nI (show a < 2147483648 by omega)
    have eok : okAdd n mm 6 pn (nI a) = true := by simp [okAdd, q1, q2, q3]
    refine V_aload_n0 X dX11_person_16 ?_
    refine V_getf X dX11_person_17 fX11_60 (by assumption) (by rfl) ?_
    refine V_iload_n1 X dX11_person_20 ?_
    refine V_cV1V X dX11_person_21 kX11_126 (t_Radd l G ad ws 25 26 6 pn fp hR1 q3 (nI a)) (by assumption) (by rfl) (Nat.le_of_ble_eq_true rfl) ⟨⟨Nat.le_of_ble_eq_true rfl, Nat.le_of_ble_eq_true rfl⟩, Nat.le_of_ble_eq_true rfl, Nat.le_of_ble_eq_true rfl⟩ (fun ws2 hc => ?_)
    obtain rfl := hc.symm
    have hfx : fr [25, 26] ws ((ws.set 26 (iA 6 (upd fp pn (nI a)))).set 25 (oB 7 [.ref 26, .int (nI (pn + 1))])) := (fr.rfl.set (by decide)).set (by decide)
    have hRn := RowN.add hR1 hR2 q3 a
    generalize (ws.set 26 (iA 6 (upd fp pn (nI a)))).set 25 (oB 7 [.ref 26, .int (nI (pn + 1))]) = wb at hfx hRn ⊢
    have x0 := hfx.get (by decide) z0
    have hRn0 := hRn
    obtain ⟨fn, hn1, hn2⟩ := hRn
    have x25 := hn1.1
    refine V_aload_n0 X dX11_person_24 ?_
    refine V_getf X dX11_person_25 fX11_60 (by assumption) (by rfl) ?_
    refine V_cV0I X dX11_person_28 kX11_154 (t_Rsize l G ad wb 25 26 6 (pn + 1) fn hn1) (by assumption) (by rfl) (Nat.le_of_ble_eq_true rfl) ⟨⟨Nat.le_of_ble_eq_true rfl, Nat.le_of_ble_eq_true rfl⟩, Nat.le_of_ble_eq_true rfl, Nat.le_of_ble_eq_true rfl⟩ (fun r ws2 hc => ?_)
    obtain ⟨rfl, hw9⟩ := hc
    obtain rfl := hw9.symm
    refine V_iconstE X (nI 1) dX11_person_31 (by decide +kernel) ?_
    refine V_isub X dX11_person_32 ?_
    rw [pk_sub (by omega), Nat.add_sub_cancel]
    refine V_iret X dX11_person_33 ⟨by rw [r_person, if_pos eok], ?_, hfx.mono (by decide)⟩
    rw [if_pos eok, hva]
    refine hC0.own hfx (by decide) x0 (hRg.fr hfx (by decide) (by decide)) (hRl.fr hfx (by decide) (by decide)) hRn0 (hRh.fr hfx (by decide) (by decide)) ⟨o1, o2, o3, o4, fun i hi => ?_, o6, o7, fun q => absurd q (by omega), o9, o10, by omega, o12, o13, o14⟩
    by_cases q : i = pn
    · rw [q, updN_eq]; exact ha
    · rw [updN_ne q]; exact o5 i (by omega)
  · have e9 := refI_no h
    refine V_iload_n2 X dX11_person_14 ?_
    exact V_iret X dX11_person_15 ⟨by rw [r_person, e9]; rfl, by rw [e9]; exact hC0, fr.rfl⟩
def r_heap (n mm hn : Nat) (x : Int32) : Int32 := if okAdd n mm 6 hn x then nI (hn + 1) else refI n mm 6 hn x
theorem p_heap (l : Launch) (G : GX) (ad : Nat → Nat) (ws : List CE) (n : Nat) (K : Nat → Nat) (kg mm : Nat) (Ln : Nat → Nat) (np : Nat) (pg : Nat → Nat) (nj : Nat) (Js : Nat → JD) (pn : Nat) (Pe : Nat → Nat) (hn : Nat) (U : Nat → Nat) (tr kk km kp kh rd : Nat) (hC : RC ws n K kg mm Ln np pg nj Js pn Pe hn U tr kk km kp kh rd) (hkP : ad kP = G.2.2.2) (x : Int32) : Ct l G yX11_heap cX11_heap 3 (some .int) 3 0 0 ad ws [.ref 0, .int x] (pI ad (fun r ws2 => r = r_heap n mm hn x ∧ (if okAdd n mm 6 hn x = true then RC ws2 n K kg mm Ln np pg nj Js pn Pe (hn + 1) (updN U hn (valI x)) tr kk km kp kh rd else RC ws2 n K kg mm Ln np pg nj Js pn Pe hn U tr kk km kp kh rd) ∧ fr own9 ws ws2)) := by
  refine Ct.of [some (.ref 0), some (.int x), none] (by decide +kernel) (Nat.le_of_ble_eq_true rfl) rfl ?_
  intro p e s m args below meth c A X
  have hO := hC.obj
  have hC0 := hC
  obtain ⟨z0, hL, hM, hB, hCe, hSe, hSo, hRg, hRl, hRp, hRh, o1, o2, o3, o4, o5, o6, o7, o8, o9, o10, o11, o12, o13, o14⟩ := hC
  have h104 := pow_le4 o1
  obtain ⟨fp, hR1, hR2⟩ := hRh
  have z27 := hR1.1
  have hp6 := hR1.2.2.1
  refine V_aload_n0 X dX11_heap_0 ?_
  refine V_iload_n1 X dX11_heap_1 ?_
  refine V_aload_n0 X dX11_heap_2 ?_
  refine V_getf X dX11_heap_3 fX11_63 (by assumption) (by rfl) ?_
  refine V_cV2I X dX11_heap_6 kX11_211 (t_refusalOf l G ad ws n K kg mm Ln hO hL hRl hkP x 27 28 6 hn fp hR1) (by assumption) (by rfl) (Nat.le_of_ble_eq_true rfl) ⟨⟨Nat.le_of_ble_eq_true rfl, Nat.le_of_ble_eq_true rfl⟩, Nat.le_of_ble_eq_true rfl, Nat.le_of_ble_eq_true rfl⟩ (fun r ws2 hc => ?_)
  obtain ⟨rfl, hw9⟩ := hc
  obtain rfl := hw9.symm
  refine V_istore_n2 X dX11_heap_9 (Nat.le_of_ble_eq_true rfl) rfl ?_
  refine V_iload_n2 X dX11_heap_10 ?_
  refine V_if_eq X 16 dX11_heap_11 (by decide) (fun h => ?_) (fun h => ?_)
  · obtain ⟨q1, q2, q3⟩ := refI_0 h
    obtain ⟨a, ha, rfl⟩ := inR_of (by omega) q2
    have hva := valI_nI (show a < 2147483648 by omega)
    have eok : okAdd n mm 6 hn (nI a) = true := by simp [okAdd, q1, q2, q3]
    refine V_aload_n0 X dX11_heap_16 ?_
    refine V_getf X dX11_heap_17 fX11_63 (by assumption) (by rfl) ?_
    refine V_iload_n1 X dX11_heap_20 ?_
    refine V_cV1V X dX11_heap_21 kX11_126 (t_Radd l G ad ws 27 28 6 hn fp hR1 q3 (nI a)) (by assumption) (by rfl) (Nat.le_of_ble_eq_true rfl) ⟨⟨Nat.le_of_ble_eq_true rfl, Nat.le_of_ble_eq_true rfl⟩, Nat.le_of_ble_eq_true rfl, Nat.le_of_ble_eq_true rfl⟩ (fun ws2 hc => ?_)
    obtain rfl := hc.symm
    have hfx : fr [27, 28] ws ((ws.set 28 (iA 6 (upd fp hn (nI a)))).set 27 (oB 7 [.ref 28, .int (nI (hn + 1))])) := (fr.rfl.set (by decide)).set (by decide)
    have hRn := RowN.add hR1 hR2 q3 a
    generalize (ws.set 28 (iA 6 (upd fp hn (nI a)))).set 27 (oB 7 [.ref 28, .int (nI (hn + 1))]) = wb at hfx hRn ⊢
    have x0 := hfx.get (by decide) z0
    have hRn0 := hRn
    obtain ⟨fn, hn1, hn2⟩ := hRn
    have x27 := hn1.1
    refine V_aload_n0 X dX11_heap_24 ?_
    refine V_getf X dX11_heap_25 fX11_63 (by assumption) (by rfl) ?_
    refine V_cV0I X dX11_heap_28 kX11_154 (t_Rsize l G ad wb 27 28 6 (hn + 1) fn hn1) (by assumption) (by rfl) (Nat.le_of_ble_eq_true rfl) ⟨⟨Nat.le_of_ble_eq_true rfl, Nat.le_of_ble_eq_true rfl⟩, Nat.le_of_ble_eq_true rfl, Nat.le_of_ble_eq_true rfl⟩ (fun r ws2 hc => ?_)
    obtain ⟨rfl, hw9⟩ := hc
    obtain rfl := hw9.symm
    refine V_iret X dX11_heap_31 ⟨by rw [r_heap, if_pos eok], ?_, hfx.mono (by decide)⟩
    rw [if_pos eok, hva]
    refine hC0.own hfx (by decide) x0 (hRg.fr hfx (by decide) (by decide)) (hRl.fr hfx (by decide) (by decide)) (hRp.fr hfx (by decide) (by decide)) hRn0 ⟨o1, o2, o3, o4, o5, fun i hi => ?_, o7, fun q => absurd q (by omega), o9, o10, o11, by omega, o13, o14⟩
    by_cases q : i = hn
    · rw [q, updN_eq]; exact ha
    · rw [updN_ne q]; exact o6 i (by omega)
  · have e9 := refI_no h
    refine V_iload_n2 X dX11_heap_14 ?_
    exact V_iret X dX11_heap_15 ⟨by rw [r_heap, e9]; rfl, by rw [e9]; exact hC0, fr.rfl⟩
