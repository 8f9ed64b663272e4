/-! features: kinds, adding one -/
theorem gapp {w w2 : List CE} {k : Nat} {e : CE} (h : w[k]? = some e) : (w ++ w2)[k]? = some e := by
  have hk : k < w.length := (List.getElem?_eq_some_iff.mp h).1
  rw [List.getElem?_append_left hk]; exact h
theorem inR_of_le (k : Nat) (hk : k < 1000) (x : Int32) : (decide (¬ x < 0) && decide (¬ nI k < x)) = inR (k + 1) x := by
  have h1 : (nI (k + 1) ≤ x) ↔ (nI k < x) := by
    rw [Int32.le_iff_toInt_le, Int32.lt_iff_toInt_lt, nI_toInt (by omega), nI_toInt (by omega)]
    omega
  simp [inR, h1]
theorem LooksAt.app {w w2 : List CE} {n : Nat} {K : Nat → Nat} (h : LooksAt w n K) : LooksAt (w ++ w2) n K := by
  obtain ⟨h1, h2, xs, h3, h4, h5⟩ := h
  refine ⟨h1, gapp h2, xs, gapp h3, h4, fun j hj => ?_⟩
  obtain ⟨a, q, b, c, d⟩ := h5 j hj
  exact ⟨a, q, b, gapp c, d⟩
theorem RowN.app {w w2 : List CE} {k kI N n : Nat} {U : Nat → Nat} (h : RowN w k kI N n U) : RowN (w ++ w2) k kI N n U := by
  obtain ⟨f, ⟨h1, h2, h3⟩, h4⟩ := h
  exact ⟨f, ⟨gapp h1, gapp h2, h3⟩, h4⟩
theorem RC.app {ws w2 : List CE} {n : Nat} {K : Nat → Nat} {kg mm : Nat} {Ln : Nat → Nat} {np : Nat} {pg : Nat → Nat} {nj : Nat} {Js : Nat → JD} {pn : Nat} {Pe : Nat → Nat} {hn : Nat} {U : Nat → Nat} {tr kk km kp kh rd : Nat} (hC : RC ws n K kg mm Ln np pg nj Js pn Pe hn U tr kk km kp kh rd) : RC (ws++w2) n K kg mm Ln np pg nj Js pn Pe hn U tr kk km kp kh rd := by
  obtain ⟨a, b, c, d, e, f, g, i, j, k, l, m⟩ := hC
  refine ⟨gapp a, b.app, ?_, ?_, ?_, ?_, ?_, i.app, j.app, k.app, l.app, m⟩
  · obtain ⟨c1, c2, c3, fm, c4, c5⟩ := c
    exact ⟨gapp c1, c2, c3, fm, gapp c4, c5⟩
  · obtain ⟨x, y, z, d1, d2, d3, d4⟩ := d
    exact ⟨x, y, z, gapp d1, gapp d2, gapp d3, d4⟩
  · obtain ⟨por, kp, ks, fm, fp, fs, e1, e2, e3, e4, e5, e6⟩ := e
    exact ⟨por, kp, ks, fm, fp, fs, e1, gapp e2, gapp e3, gapp e4, gapp e5, e6⟩
  · obtain ⟨x1, x2, x3, x4, x5, x6, x7, f1, fw, f2, f3, f4, fs, f6, f7, f8, f9⟩ := f
    exact ⟨x1, x2, x3, x4, x5, x6, x7, f1, fw, f2, f3, gapp f4, fs, gapp f6, gapp f7, gapp f8, f9⟩
  · obtain ⟨x1, x2, x3, x4, x5, g1, g2, g3, g4⟩ := g
    exact ⟨x1, x2, x3, x4, x5, gapp g1, gapp g2, gapp g3, gapp g4⟩
theorem t_Ladd (l : Launch) (G : GX) (ad : Nat → Nat) (ws : List CE) (n : Nat) (K : Nat → Nat) (hL : LooksAt ws n K) (q k : Nat) (hk : k < 5) (hq : ws[q]? = some (oB (clsK k) [])) (hq47 : 47 ≤ q) (hn : n < 4) : Ct l G yX6_add cX6_add 2 (some .int) 1 0 0 ad ws [.ref 1, .ref q] (pI ad (fun r ws2 => r = nI n ∧ LooksAt ws2 (n + 1) (updN K n k) ∧ fr [1, 2] ws ws2)) := by
  refine Ct.of [some (.ref 1), some (.ref q)] (by decide +kernel) (Nat.le_of_ble_eq_true rfl) rfl ?_
  intro p e s m args below meth c A X
  have hL0 := hL
  obtain ⟨hn4, h1, xs, h2, hx4, hF⟩ := hL
  have hcl : ∃ (C : String) (T : u_T) (N : Nat), vwCl[clsK k]? = some (C, T, N) ∧ (C = "LikeLastYears$Feature" ∨ Cond.castable C "LikeLastYears$Feature" ∈ nst) := by
    rcases (show k = 0 ∨ k = 1 ∨ k = 2 ∨ k = 3 ∨ k = 4 by omega) with rfl | rfl | rfl | rfl | rfl
    · exact ⟨_, _, _, rfl, Or.inl rfl⟩
    · exact ⟨_, _, _, rfl, Or.inr (nst_mem 1164 (by decide +kernel) (by decide +kernel))⟩
    · exact ⟨_, _, _, rfl, Or.inr (nst_mem 1165 (by decide +kernel) (by decide +kernel))⟩
    · exact ⟨_, _, _, rfl, Or.inr (nst_mem 1166 (by decide +kernel) (by decide +kernel))⟩
    · exact ⟨_, _, _, rfl, Or.inr (nst_mem 1167 (by decide +kernel) (by decide +kernel))⟩
  obtain ⟨C, T, N, hcl, hca⟩ := hcl
  refine V_aload_n0 X dX6_add_0 ?_
  refine V_cV0I X dX6_add_1 kX6_22 (t_LisFull l G ad ws n K hL0) (by assumption) (by rfl) (Nat.le_of_ble_eq_true rfl) ⟨⟨Nat.le_of_ble_eq_true rfl, Nat.le_of_ble_eq_true rfl⟩, Nat.le_of_ble_eq_true rfl, Nat.le_of_ble_eq_true rfl⟩ (fun r ws2 hc => ?_)
  obtain ⟨rfl, hw9⟩ := hc
  obtain rfl := hw9.symm
  refine V_if_ne X 27 dX6_add_4 (by decide) (fun h => ?_) (fun h => ?_)
  · exact absurd (of_decide_eq_true (b_of1 h)) (by omega)
  · refine V_aload_n0 X dX6_add_7 ?_
    refine V_getf X dX6_add_8 fX6_11 (by assumption) (by rfl) ?_
    refine V_aload_n0 X dX6_add_11 ?_
    refine V_getf X dX6_add_12 fX6_17 (by assumption) (by rfl) ?_
    refine V_aload_n1 X dX6_add_15 ?_
    refine V_aast X n dX6_add_16 (by assumption) rfl (by omega) (by omega) hq hcl hca ?_
    have h1b : (ws.set 2 (rA (xs.set n (some q))))[1]? = some (oB 6 [.ref 2, .int (nI n)]) := gne (by decide) h1
    refine V_aload_n0 X dX6_add_17 ?_
    refine V_dup X dX6_add_18 rfl ?_
    refine V_getf X dX6_add_19 fX6_17 (by assumption) (by rfl) ?_
    refine V_iconstE X (nI 1) dX6_add_22 (by decide +kernel) ?_
    refine V_iadd X dX6_add_23 ?_
    refine V_putf X dX6_add_24 fX6_17 (by assumption) (Nat.le_of_ble_eq_true rfl) rfl rfl ?_
    have h1c := gset (e2 := oB 6 [.ref 2, .int (nI (n + 1))]) h1b
    refine V_eqW (ws2 := (ws.set 2 (rA (xs.set n (some q)))).set 1 (oB 6 [.ref 2, .int (nI (n + 1))])) (by rw [← nI_1 n]; rfl) ?_
    refine V_aload_n0 X dX6_add_27 ?_
    refine V_getf X dX6_add_28 fX6_17 (by assumption) (by rfl) ?_
    refine V_iconstE X (nI 1) dX6_add_31 (by decide +kernel) ?_
    refine V_isub X dX6_add_32 ?_
    refine V_iret X dX6_add_33 ⟨?_, ⟨by omega, h1c, xs.set n (some q), gne (by decide) (gset h2), by rw [List.length_set]; exact hx4, ?_⟩, (fr.rfl.set (by decide)).set (by decide)⟩
    · exact pk_sub (by omega)
    · intro j hj
      have nq : q ≠ 2 ∧ q ≠ 1 := by omega
      by_cases e : j = n
      · subst e
        rw [updN_eq]
        exact ⟨hk, q, by rw [List.getElem?_set_self (by omega)], gne (Ne.symm nq.2) (gne (Ne.symm nq.1) hq), Or.inr hq47⟩
      · rw [updN_ne e]
        obtain ⟨a, q2, b, c, d⟩ := hF j hj
        exact ⟨a, q2, by rw [List.getElem?_set_ne (Ne.symm e)]; exact b, gne (by omega) (gne (by omega) c), d⟩
abbrev pOf (ws : List CE) (n0 k : Nat) (ad : Nat → Nat) : (Nat → Nat) → Option Value → List CE → Prop := fun ad2 v ws2 => agr n0 ad ad2 ∧ ad2 kP = ad kP ∧ v = some (.ref n0) ∧ ws2 = ws ++ [oB (clsK k) []]
theorem t_ofKind (l : Launch) (G : GX) (ad : Nat → Nat) (ws : List CE) (n0 k : Nat) (hk : k < 5) (hn : ws.length = n0) (hw : okW n0 ws = true) (h0 : n0 ≠ kP) : Ct l G yX11_ofKind cX11_ofKind 1 (some (.object "LikeLastYears$Feature")) 6 1 0 ad ws [.int (nI k)] (pOf ws n0 k ad) := by
  refine Ct.of [some (.int (nI k))] (by decide +kernel) (Nat.le_of_ble_eq_true rfl) rfl ?_
  intro p e s m args below meth c A X
  refine V_iload_n0 X dX11_ofKind_0 ?_
  rcases (show k = 0 ∨ k = 1 ∨ k = 2 ∨ k = 3 ∨ k = 4 by omega) with rfl | rfl | rfl | rfl | rfl
  · refine V_tswO X 64 dX11_ofKind_1 (Or.inl (by decide +kernel)) (by decide) ?_
    refine V_new X n0 dX11_ofKind_64 nwX11_256 (fun _ => rfl) hn hw rfl rfl (Nat.le_of_ble_eq_true rfl) (Nat.le_of_ble_eq_true rfl) (fun a1 ag1 hq1 => ?_)
    refine V_dup X dX11_ofKind_67 rfl ?_
    refine V_cN0V X dX11_ofKind_68 kX11_258 (C_feat l G a1 _ n0) (Nat.le_of_ble_eq_true rfl) ⟨⟨Nat.le_of_ble_eq_true rfl, Nat.le_of_ble_eq_true rfl⟩, Nat.le_of_ble_eq_true rfl, Nat.le_of_ble_eq_true rfl⟩ (fun ws2 hc => ?_)
    exact V_aretG X dX11_ofKind_71 (Nat.le_of_ble_eq_true rfl) (Nat.le_of_ble_eq_true rfl) ⟨ag1, hq1.resolve_right h0, rfl, hc⟩
  · refine V_tswI X 32 dX11_ofKind_1 (by decide +kernel) (by decide +kernel) (off := 31) (by decide +kernel) (by decide) ?_
    refine V_new X n0 dX11_ofKind_32 nwX11_244 (fun _ => rfl) hn hw rfl rfl (Nat.le_of_ble_eq_true rfl) (Nat.le_of_ble_eq_true rfl) (fun a1 ag1 hq1 => ?_)
    refine V_dup X dX11_ofKind_35 rfl ?_
    refine V_cN0V X dX11_ofKind_36 kX11_246 (C_hair l G a1 _ n0) (Nat.le_of_ble_eq_true rfl) ⟨⟨Nat.le_of_ble_eq_true rfl, Nat.le_of_ble_eq_true rfl⟩, Nat.le_of_ble_eq_true rfl, Nat.le_of_ble_eq_true rfl⟩ (fun ws2 hc => ?_)
    exact V_aretG X dX11_ofKind_39 (Nat.le_of_ble_eq_true rfl) (Nat.le_of_ble_eq_true rfl) ⟨ag1, hq1.resolve_right h0, rfl, hc⟩
  · refine V_tswI X 40 dX11_ofKind_1 (by decide +kernel) (by decide +kernel) (off := 39) (by decide +kernel) (by decide) ?_
    refine V_new X n0 dX11_ofKind_40 nwX11_247 (fun _ => rfl) hn hw rfl rfl (Nat.le_of_ble_eq_true rfl) (Nat.le_of_ble_eq_true rfl) (fun a1 ag1 hq1 => ?_)
    refine V_dup X dX11_ofKind_43 rfl ?_
    refine V_cN0V X dX11_ofKind_44 kX11_249 (C_scar l G a1 _ n0) (Nat.le_of_ble_eq_true rfl) ⟨⟨Nat.le_of_ble_eq_true rfl, Nat.le_of_ble_eq_true rfl⟩, Nat.le_of_ble_eq_true rfl, Nat.le_of_ble_eq_true rfl⟩ (fun ws2 hc => ?_)
    exact V_aretG X dX11_ofKind_47 (Nat.le_of_ble_eq_true rfl) (Nat.le_of_ble_eq_true rfl) ⟨ag1, hq1.resolve_right h0, rfl, hc⟩
  · refine V_tswI X 48 dX11_ofKind_1 (by decide +kernel) (by decide +kernel) (off := 47) (by decide +kernel) (by decide) ?_
    refine V_new X n0 dX11_ofKind_48 nwX11_250 (fun _ => rfl) hn hw rfl rfl (Nat.le_of_ble_eq_true rfl) (Nat.le_of_ble_eq_true rfl) (fun a1 ag1 hq1 => ?_)
    refine V_dup X dX11_ofKind_51 rfl ?_
    refine V_cN0V X dX11_ofKind_52 kX11_252 (C_beard l G a1 _ n0) (Nat.le_of_ble_eq_true rfl) ⟨⟨Nat.le_of_ble_eq_true rfl, Nat.le_of_ble_eq_true rfl⟩, Nat.le_of_ble_eq_true rfl, Nat.le_of_ble_eq_true rfl⟩ (fun ws2 hc => ?_)
    exact V_aretG X dX11_ofKind_55 (Nat.le_of_ble_eq_true rfl) (Nat.le_of_ble_eq_true rfl) ⟨ag1, hq1.resolve_right h0, rfl, hc⟩
  · refine V_tswI X 56 dX11_ofKind_1 (by decide +kernel) (by decide +kernel) (off := 55) (by decide +kernel) (by decide) ?_
    refine V_new X n0 dX11_ofKind_56 nwX11_253 (fun _ => rfl) hn hw rfl rfl (Nat.le_of_ble_eq_true rfl) (Nat.le_of_ble_eq_true rfl) (fun a1 ag1 hq1 => ?_)
    refine V_dup X dX11_ofKind_59 rfl ?_
    refine V_cN0V X dX11_ofKind_60 kX11_255 (C_crown l G a1 _ n0) (Nat.le_of_ble_eq_true rfl) ⟨⟨Nat.le_of_ble_eq_true rfl, Nat.le_of_ble_eq_true rfl⟩, Nat.le_of_ble_eq_true rfl, Nat.le_of_ble_eq_true rfl⟩ (fun ws2 hc => ?_)
    exact V_aretG X dX11_ofKind_63 (Nat.le_of_ble_eq_true rfl) (Nat.le_of_ble_eq_true rfl) ⟨ag1, hq1.resolve_right h0, rfl, hc⟩
def suchK (k t : Nat) : Bool := decide (t = 0) || decide (k = t) || (decide (k = 4) && decide (t = 2))
theorem t_isSuch (l : Launch) (G : GX) (ad : Nat → Nat) (ws : List CE) (q k t : Nat) (hk : k < 5) (ht : t < 5) (hq : ws[q]? = some (oB (clsK k) [])) : Ct l G yX11_isSuch cX11_isSuch 2 (some .boolean) 1 0 0 ad ws [.ref q, .int (nI t)] (pI ad (fun r ws2 => r = bI (suchK k t) ∧ ws2 = ws)) := by
  refine Ct.of [some (.ref q), some (.int (nI t))] (by decide +kernel) (Nat.le_of_ble_eq_true rfl) rfl ?_
  intro p e s m args below meth c A X
  refine V_iload_n1 X dX11_isSuch_0 ?_
  rcases (show t = 0 ∨ t = 1 ∨ t = 2 ∨ t = 3 ∨ t = 4 by omega) with rfl | rfl | rfl | rfl | rfl
  · refine V_tswO X 52 dX11_isSuch_1 (Or.inl (by decide +kernel)) (by decide) ?_
    refine V_iconstE X (nI 1) dX11_isSuch_52 (by decide +kernel) ?_
    exact V_zret X dX11_isSuch_53 rfl ⟨by simp [suchK, bI], rfl⟩
  · refine V_tswI X 32 dX11_isSuch_1 (by decide +kernel) (by decide +kernel) (off := 31) (by decide +kernel) (by decide) ?_
    refine V_aload_n0 X dX11_isSuch_32 ?_
    rcases (show k = 0 ∨ k = 1 ∨ k = 2 ∨ k = 3 ∨ k = 4 by omega) with rfl | rfl | rfl | rfl | rfl
    · refine V_instN X dX11_isSuch_33 clX11_244 hq rfl (by decide +kernel) ?_
      exact V_zret X dX11_isSuch_36 rfl ⟨rfl, rfl⟩
    · refine V_instY X dX11_isSuch_33 clX11_244 hq rfl (Or.inl rfl) ?_
      exact V_zret X dX11_isSuch_36 rfl ⟨rfl, rfl⟩
    · refine V_instN X dX11_isSuch_33 clX11_244 hq rfl (by decide +kernel) ?_
      exact V_zret X dX11_isSuch_36 rfl ⟨rfl, rfl⟩
    · refine V_instN X dX11_isSuch_33 clX11_244 hq rfl (by decide +kernel) ?_
      exact V_zret X dX11_isSuch_36 rfl ⟨rfl, rfl⟩
    · refine V_instN X dX11_isSuch_33 clX11_244 hq rfl (by decide +kernel) ?_
      exact V_zret X dX11_isSuch_36 rfl ⟨rfl, rfl⟩
  · refine V_tswI X 37 dX11_isSuch_1 (by decide +kernel) (by decide +kernel) (off := 36) (by decide +kernel) (by decide) ?_
    refine V_aload_n0 X dX11_isSuch_37 ?_
    rcases (show k = 0 ∨ k = 1 ∨ k = 2 ∨ k = 3 ∨ k = 4 by omega) with rfl | rfl | rfl | rfl | rfl
    · refine V_instN X dX11_isSuch_38 clX11_247 hq rfl (by decide +kernel) ?_
      exact V_zret X dX11_isSuch_41 rfl ⟨rfl, rfl⟩
    · refine V_instN X dX11_isSuch_38 clX11_247 hq rfl (by decide +kernel) ?_
      exact V_zret X dX11_isSuch_41 rfl ⟨rfl, rfl⟩
    · refine V_instY X dX11_isSuch_38 clX11_247 hq rfl (Or.inl rfl) ?_
      exact V_zret X dX11_isSuch_41 rfl ⟨rfl, rfl⟩
    · refine V_instN X dX11_isSuch_38 clX11_247 hq rfl (by decide +kernel) ?_
      exact V_zret X dX11_isSuch_41 rfl ⟨rfl, rfl⟩
    · refine V_instY X dX11_isSuch_38 clX11_247 hq rfl (Or.inr (nst_mem 1163 (by decide +kernel) (by decide +kernel))) ?_
      exact V_zret X dX11_isSuch_41 rfl ⟨rfl, rfl⟩
  · refine V_tswI X 42 dX11_isSuch_1 (by decide +kernel) (by decide +kernel) (off := 41) (by decide +kernel) (by decide) ?_
    refine V_aload_n0 X dX11_isSuch_42 ?_
    rcases (show k = 0 ∨ k = 1 ∨ k = 2 ∨ k = 3 ∨ k = 4 by omega) with rfl | rfl | rfl | rfl | rfl
    · refine V_instN X dX11_isSuch_43 clX11_250 hq rfl (by decide +kernel) ?_
      exact V_zret X dX11_isSuch_46 rfl ⟨rfl, rfl⟩
    · refine V_instN X dX11_isSuch_43 clX11_250 hq rfl (by decide +kernel) ?_
      exact V_zret X dX11_isSuch_46 rfl ⟨rfl, rfl⟩
    · refine V_instN X dX11_isSuch_43 clX11_250 hq rfl (by decide +kernel) ?_
      exact V_zret X dX11_isSuch_46 rfl ⟨rfl, rfl⟩
    · refine V_instY X dX11_isSuch_43 clX11_250 hq rfl (Or.inl rfl) ?_
      exact V_zret X dX11_isSuch_46 rfl ⟨rfl, rfl⟩
    · refine V_instN X dX11_isSuch_43 clX11_250 hq rfl (by decide +kernel) ?_
      exact V_zret X dX11_isSuch_46 rfl ⟨rfl, rfl⟩
  · refine V_tswI X 47 dX11_isSuch_1 (by decide +kernel) (by decide +kernel) (off := 46) (by decide +kernel) (by decide) ?_
    refine V_aload_n0 X dX11_isSuch_47 ?_
    rcases (show k = 0 ∨ k = 1 ∨ k = 2 ∨ k = 3 ∨ k = 4 by omega) with rfl | rfl | rfl | rfl | rfl
    · refine V_instN X dX11_isSuch_48 clX11_253 hq rfl (by decide +kernel) ?_
      exact V_zret X dX11_isSuch_51 rfl ⟨rfl, rfl⟩
    · refine V_instN X dX11_isSuch_48 clX11_253 hq rfl (by decide +kernel) ?_
      exact V_zret X dX11_isSuch_51 rfl ⟨rfl, rfl⟩
    · refine V_instN X dX11_isSuch_48 clX11_253 hq rfl (by decide +kernel) ?_
      exact V_zret X dX11_isSuch_51 rfl ⟨rfl, rfl⟩
    · refine V_instN X dX11_isSuch_48 clX11_253 hq rfl (by decide +kernel) ?_
      exact V_zret X dX11_isSuch_51 rfl ⟨rfl, rfl⟩
    · refine V_instY X dX11_isSuch_48 clX11_253 hq rfl (Or.inl rfl) ?_
      exact V_zret X dX11_isSuch_51 rfl ⟨rfl, rfl⟩
def r_as (n : Nat) (K : Nat → Nat) (x z : Int32) : Int32 := if inR n x then (if inR 5 z then (if suchK (K (valI x)) (valI z) then x else (-1)) else (-102)) else (-101)
theorem p_as (l : Launch) (G : GX) (ad : Nat → Nat) (ws : List CE) (n : Nat) (K : Nat → Nat) (kg mm : Nat) (Ln : Nat → Nat) (np : Nat) (pg : Nat → Nat) (nj : Nat) (Js : Nat → JD) (pn : Nat) (Pe : Nat → Nat) (hn : Nat) (U : Nat → Nat) (tr kk km kp kh rd : Nat) (hC : RC ws n K kg mm Ln np pg nj Js pn Pe hn U tr kk km kp kh rd) (hkP : ad kP = G.2.2.2) (x z : Int32) : Ct l G yX11_as cX11_as 3 (some .int) 3 0 0 ad ws [.ref 0, .int x, .int z] (pI ad (fun r ws2 => r = r_as n K x z ∧ ws2 = ws)) := by
  refine Ct.of [some (.ref 0), some (.int x), some (.int z)] (by decide +kernel) (Nat.le_of_ble_eq_true rfl) rfl ?_
  intro p e s m args below meth c A X
  obtain ⟨z0, hL, hM, hB, hCe, hSe, hSo, hRg, hRl, hRp, hRh, o1, o2, o3, o4, o5, o6, o7, o8, o9, o10, o11, o12, o13, o14⟩ := hC
  have z1 := hL.2.1
  refine V_aload_n0 X dX11_as_0 ?_
  refine V_getf X dX11_as_1 fX11_12 (by assumption) (by rfl) ?_
  refine V_iload_n1 X dX11_as_4 ?_
  refine V_cV1I X dX11_as_5 kX11_108 (t_Lhas l G ad ws n K hL x) (by assumption) (by rfl) (Nat.le_of_ble_eq_true rfl) ⟨⟨Nat.le_of_ble_eq_true rfl, Nat.le_of_ble_eq_true rfl⟩, Nat.le_of_ble_eq_true rfl, Nat.le_of_ble_eq_true rfl⟩ (fun r ws2 hc => ?_)
  obtain ⟨rfl, hw9⟩ := hc
  obtain rfl := hw9.symm
  refine V_if_ne X 14 dX11_as_8 (by decide) (fun h => ?_) (fun h => ?_)
  · have e9 := b_of1 h
    obtain ⟨f, hf, rfl⟩ := inR_of (by omega) e9
    refine V_iload_n2 X dX11_as_14 ?_
    refine V_cS1I X dX11_as_15 kX11_85 (t_isKind l G ad ws z) (Nat.le_of_ble_eq_true rfl) ⟨⟨Nat.le_of_ble_eq_true rfl, Nat.le_of_ble_eq_true rfl⟩, Nat.le_of_ble_eq_true rfl, Nat.le_of_ble_eq_true rfl⟩ (fun r ws2 hc => ?_)
    obtain ⟨rfl, hw9⟩ := hc
    obtain rfl := hw9.symm
    rw [inR_of_le 4 (by decide)]
    refine V_if_ne X 24 dX11_as_18 (by decide) (fun h2 => ?_) (fun h2 => ?_)
    · have e8 := b_of1 h2
      obtain ⟨w, hw, rfl⟩ := inR_of (by omega) e8
      refine V_aload_n0 X dX11_as_24 ?_
      refine V_getf X dX11_as_25 fX11_12 (by assumption) (by rfl) ?_
      refine V_iload_n1 X dX11_as_28 ?_
      refine V_cV1R X dX11_as_29 kX11_115 (t_Lat l G ad ws n K hL f (by omega)) (by assumption) (by rfl) (Nat.le_of_ble_eq_true rfl) ⟨⟨Nat.le_of_ble_eq_true rfl, Nat.le_of_ble_eq_true rfl⟩, Nat.le_of_ble_eq_true rfl, Nat.le_of_ble_eq_true rfl⟩ (fun r ws2 hc => ?_)
      obtain ⟨⟨hk5, hq⟩, hw9⟩ := hc
      obtain rfl := hw9.symm
      refine V_iload_n2 X dX11_as_32 ?_
      refine V_cS2I X dX11_as_33 kX11_118 (t_isSuch l G ad ws r (K f) w hk5 hw hq) (Nat.le_of_ble_eq_true rfl) ⟨⟨Nat.le_of_ble_eq_true rfl, Nat.le_of_ble_eq_true rfl⟩, Nat.le_of_ble_eq_true rfl, Nat.le_of_ble_eq_true rfl⟩ (fun r ws2 hc => ?_)
      obtain ⟨rfl, hw9⟩ := hc
      obtain rfl := hw9.symm
      refine V_if_eq X 43 dX11_as_36 (by decide) (fun h3 => ?_) (fun h3 => ?_)
      · have e7 := b_of0 h3
        refine V_iconstE X (-1) dX11_as_43 (by decide +kernel) ?_
        exact V_iret X dX11_as_44 ⟨by rw [r_as, e9, if_pos rfl, e8, if_pos rfl, valI_nI (by omega), valI_nI (by omega), e7]; rfl, rfl⟩
      · have e7 := b_of1 h3
        refine V_iload_n1 X dX11_as_39 ?_
        refine V_goto X 44 dX11_as_40 (by decide) ?_
        exact V_iret X dX11_as_44 ⟨by rw [r_as, e9, if_pos rfl, e8, if_pos rfl, valI_nI (by omega), valI_nI (by omega), e7, if_pos rfl], rfl⟩
    · have e8 := b_of0 h2
      refine V_bipushE X (-102) dX11_as_21 (by decide +kernel) ?_
      exact V_iret X dX11_as_23 ⟨by rw [r_as, e9, if_pos rfl, e8]; rfl, rfl⟩
  · have e9 := b_of0 h
    refine V_bipushE X (-101) dX11_as_11 (by decide +kernel) ?_
    exact V_iret X dX11_as_13 ⟨by simp [r_as, e9], rfl⟩
def r_feature (n mm : Nat) (x z : Int32) : Int32 := if inR 5 x && inR 10 z then (if mm = 0 then (if n < 4 then nI n else (-104)) else (-103)) else (-102)
def okF (n mm : Nat) (x z : Int32) : Bool := inR 5 x && inR 10 z && decide (mm = 0) && decide (n < 4)
theorem kg_new {n kg v : Nat} (h : kg < 10 ^ n) (hv : v < 10) : withP kg n v = kg + v * 10 ^ n ∧ withP kg n v < 10 ^ (n + 1) := by
  have e : withP kg n v = kg + v * 10 ^ n := by
    rw [withP_eq, Nat.mod_eq_of_lt h, Nat.div_eq_of_lt (show kg < 10 ^ (n + 1) by rw [Nat.pow_succ]; omega)]; omega
  refine ⟨e, ?_⟩
  rw [e, Nat.pow_succ]
  have : v * 10 ^ n ≤ 9 * 10 ^ n := Nat.mul_le_mul_right _ (by omega)
  omega
abbrev pFe (ws : List CE) (ad : Nat → Nat) (ok : Bool) (r : Int32) (Po : List CE → Prop) : (Nat → Nat) → Option Value → List CE → Prop := fun ad2 v ws2 => agr ws.length ad ad2 ∧ ad2 kP = ad kP ∧ v = some (.int r) ∧ (if ok then Po ws2 else ws2 = ws)
theorem p_feature (l : Launch) (G : GX) (ad : Nat → Nat) (ws : List CE) (n : Nat) (K : Nat → Nat) (kg mm : Nat) (Ln : Nat → Nat) (np : Nat) (pg : Nat → Nat) (nj : Nat) (Js : Nat → JD) (pn : Nat) (Pe : Nat → Nat) (hn : Nat) (U : Nat → Nat) (tr kk km kp kh rd : Nat) (hC : RC ws n K kg mm Ln np pg nj Js pn Pe hn U tr kk km kp kh rd) (hkP : ad kP = G.2.2.2) (hw : okW ws.length ws = true) (h47 : 47 ≤ ws.length) (h0 : ws.length ≠ kP) (x z : Int32) : Ct l G yX11_feature cX11_feature 4 (some .int) 8 1 0 ad ws [.ref 0, .int x, .int z] (pFe ws ad (okF n mm x z) (r_feature n mm x z) (fun ws2 => RC ws2 (n + 1) (updN K n (valI x)) (withP kg n (valI z)) mm Ln np pg nj Js pn Pe hn U tr kk km kp kh rd ∧ fr [0, 1, 2] (ws ++ [oB (clsK (valI x)) []]) ws2)) := by
  refine Ct.of [some (.ref 0), some (.int x), some (.int z), none] (by decide +kernel) (Nat.le_of_ble_eq_true rfl) rfl ?_
  intro p e s m args below meth c A X
  have hO := hC.obj
  have hC0 := hC
  obtain ⟨z0, hL, hM, hB, hCe, hSe, hSo, hRg, hRl, hRp, hRh, o1, o2, o3, o4, o5, o6, o7, o8, o9, o10, o11, o12, o13, o14⟩ := hC
  have h104 := pow_le4 o1
  have z1 := hL.2.1
  refine V_iload_n1 X dX11_feature_0 ?_
  refine V_cS1I X dX11_feature_1 kX11_85 (t_isKind l G ad ws x) (Nat.le_of_ble_eq_true rfl) ⟨⟨Nat.le_of_ble_eq_true rfl, Nat.le_of_ble_eq_true rfl⟩, Nat.le_of_ble_eq_true rfl, Nat.le_of_ble_eq_true rfl⟩ (fun r ws2 hc => ?_)
  obtain ⟨rfl, hw9⟩ := hc
  obtain rfl := hw9.symm
  rw [inR_of_le 4 (by decide)]
  refine V_if_eq X 17 dX11_feature_4 (by decide) (fun h => ?_) (fun h => ?_)
  · have e9 := b_of0 h
    refine V_bipushE X (-102) dX11_feature_17 (by decide +kernel) ?_
    exact V_iretG X dX11_feature_19 (Nat.zero_le _) (Nat.zero_le _) ⟨agr.refl _ _, rfl, by simp [r_feature, e9], by simp [okF, e9]⟩
  · have e9 := b_of1 h
    obtain ⟨k, hk, rfl⟩ := inR_of (by omega) e9
    refine V_iload_n2 X dX11_feature_7 ?_
    refine V_if_lt X 17 dX11_feature_8 (by decide) (fun h2 => ?_) (fun h2 => ?_)
    · refine V_bipushE X (-102) dX11_feature_17 (by decide +kernel) ?_
      exact V_iretG X dX11_feature_19 (Nat.zero_le _) (Nat.zero_le _) ⟨agr.refl _ _, rfl, by simp [r_feature, inR_f0 h2], by simp [okF, inR_f0 h2]⟩
    · refine V_iload_n2 X dX11_feature_11 ?_
      refine V_bipushE X (nI 9) dX11_feature_12 (by decide +kernel) ?_
      refine V_icmp_le X 20 dX11_feature_14 (by decide) (fun h3 => ?_) (fun h3 => ?_)
      · have e8 : inR 10 z = true := by
          rw [← inR_of_le 9 (by decide)]
          have h3 : ¬ nI 9 < z := Int32.not_lt.mpr h3
          simp [h2, h3]
        obtain ⟨v, hv, rfl⟩ := inR_of (by omega) e8
        refine V_aload_n0 X dX11_feature_20 ?_
        refine V_cV0I X dX11_feature_21 kX11_89 (t_hasLine l G ad ws kg mm Ln hO hRl) (by assumption) (by rfl) (Nat.le_of_ble_eq_true rfl) ⟨⟨Nat.le_of_ble_eq_true rfl, Nat.le_of_ble_eq_true rfl⟩, Nat.le_of_ble_eq_true rfl, Nat.le_of_ble_eq_true rfl⟩ (fun r ws2 hc => ?_)
        obtain ⟨rfl, hw9⟩ := hc
        obtain rfl := hw9.symm
        refine V_if_eq X 30 dX11_feature_24 (by decide) (fun h4 => ?_) (fun h4 => ?_)
        · have e7 : mm = 0 := by have := of_decide_eq_false (b_of0 h4); omega
          refine V_aload_n0 X dX11_feature_30 ?_
          refine V_getf X dX11_feature_31 fX11_12 (by first | rfl | assumption) (by rfl) ?_
          refine V_cV0I X dX11_feature_34 kX11_93 (t_LisFull l G ad ws n K hL) (by assumption) (by rfl) (Nat.le_of_ble_eq_true rfl) ⟨⟨Nat.le_of_ble_eq_true rfl, Nat.le_of_ble_eq_true rfl⟩, Nat.le_of_ble_eq_true rfl, Nat.le_of_ble_eq_true rfl⟩ (fun r ws2 hc => ?_)
          obtain ⟨rfl, hw9⟩ := hc
          obtain rfl := hw9.symm
          refine V_if_eq X 43 dX11_feature_37 (by decide) (fun h5 => ?_) (fun h5 => ?_)
          · have e6 : n < 4 := by have := of_decide_eq_false (b_of0 h5); omega
            have hvk := valI_nI (show k < 2147483648 by omega)
            have hvv := valI_nI (show v < 2147483648 by omega)
            refine V_aload_n0 X dX11_feature_43 ?_
            refine V_getf X dX11_feature_44 fX11_12 (by first | rfl | assumption) (by rfl) ?_
            refine V_iload_n1 X dX11_feature_47 ?_
            refine V_gS (as := [.int (nI k)]) X dX11_feature_48 kX11_96 (t_ofKind l G ad ws ws.length k hk rfl hw h0) rfl (Nat.le_of_ble_eq_true rfl) ⟨⟨Nat.le_of_ble_eq_true rfl, Nat.le_of_ble_eq_true rfl⟩, Nat.le_of_ble_eq_true rfl, Nat.le_of_ble_eq_true rfl⟩ (fun a1 v1 w1 hp1 => ?_)
            obtain ⟨ag1, hq1, rfl, hw1⟩ := hp1
            have okv : ∀ j, j < 47 → okV ws.length (.ref j) = true := fun j hj => decide_eq_true (Nat.lt_of_lt_of_le hj h47)
            refine ⟨st_ok ag1 (by simp [okv 1 (by decide)]), lvp_ok ag1 0 (by have := Nat.lt_of_lt_of_le (show 0 < 47 by decide) h47; simpa [okL, okV] using this), ?_⟩
            have hCa := RC.app (w2 := [oB (clsK k) []]) hC0
            rw [← hw1] at hCa
            have hkP1 : a1 kP = G.2.2.2 := hq1.trans hkP
            have y47 : w1[ws.length]? = some (oB (clsK k) []) := by rw [hw1]; simp
            have y0 := hCa.1
            have y1 := hCa.2.1.2.1
            refine V_eqS (st2 := [.ref ws.length, .ref 1]) rfl ?_
            refine V_cV1I X dX11_feature_51 kX11_100 (t_Ladd l G a1 w1 n K hCa.2.1 ws.length k hk y47 h47 e6) (by assumption) (by rfl) (Nat.le_of_ble_eq_true rfl) ⟨⟨Nat.le_of_ble_eq_true rfl, Nat.le_of_ble_eq_true rfl⟩, Nat.le_of_ble_eq_true rfl, Nat.le_of_ble_eq_true rfl⟩ (fun r ws2 hc => ?_)
            obtain ⟨rfl, hL2, hf2⟩ := hc
            have y0b := hf2.get (by decide) y0
            have y1b := hL2.2.1
            refine V_istore_n3 X dX11_feature_54 (Nat.le_of_ble_eq_true rfl) rfl ?_
            refine V_aload_n0 X dX11_feature_55 ?_
            refine V_aload_n0 X dX11_feature_56 ?_
            refine V_getf X dX11_feature_57 fX11_12 (by first | rfl | assumption) (by rfl) ?_
            refine V_aload_n0 X dX11_feature_60 ?_
            refine V_getf X dX11_feature_61 fX11_66 (by first | rfl | assumption) (by rfl) ?_
            refine V_iload_n3 X dX11_feature_64 ?_
            refine V_iload_n2 X dX11_feature_65 ?_
            refine V_cV3I X dX11_feature_66 kX11_104 (t_with l G a1 ws2 hkP1 kg n v (by omega) (by omega)) (by assumption) (by rfl) (Nat.le_of_ble_eq_true rfl) ⟨⟨Nat.le_of_ble_eq_true rfl, Nat.le_of_ble_eq_true rfl⟩, Nat.le_of_ble_eq_true rfl, Nat.le_of_ble_eq_true rfl⟩ (fun r ws2 hc => ?_)
            obtain ⟨rfl, hw9⟩ := hc
            obtain rfl := hw9.symm
            refine V_putf X dX11_feature_69 fX11_66 (by first | rfl | assumption) (Nat.le_of_ble_eq_true rfl) rfl rfl ?_
            refine V_iload_n3 X dX11_feature_72 ?_
            have hkg := kg_new o2 hv
            have hf3 := hf2.mono (ks2 := [0, 1, 2]) (by decide)
            have hf4 := hf3.set (k := 0) (e := CObj (withP kg n v) tr kk km kp kh) (by decide)
            refine V_iretG X dX11_feature_73 (Nat.le_of_ble_eq_true rfl) (Nat.le_of_ble_eq_true rfl) ⟨ag1, hq1, by simp [r_feature, e9, e8, e7, e6], ?_⟩
            rw [show okF n mm (nI k) (nI v) = true by simp [okF, e9, e8, e7, e6], if_pos rfl, hvk, hvv, ← hw1]
            refine ⟨?_, hf4⟩
            have hp : 10 ^ n ≤ 10 ^ (n + 1) := Nat.pow_le_pow_right (by decide) (by omega)
            obtain ⟨q1, q2, q3, q4⟩ := o8 e7
            obtain ⟨b0, b1, b2, b3, b4, b5, b6, b7, b8, b9, b10, b11⟩ := hCa
            refine ⟨gset y0b, ?_, ?_, ?_, b4.fr hf4 (by decide), SeaI.fr b5 hf4 (by decide), b6.fr hf4 (by decide), b7.fr hf4 (by decide) (by decide), b8.fr hf4 (by decide) (by decide), b9.fr hf4 (by decide) (by decide), b10.fr hf4 (by decide) (by decide), ⟨by omega, hkg.2, fun i hi => by omega, o4, fun i hi => by omega, fun i hi => by omega, fun q => by omega, fun _ => ⟨q1, q2, q3, q4⟩, by omega, by omega, by omega, by omega, o13, o14⟩⟩
            · exact Looks_fr0 hL2 (fr.rfl.set (ks := [0]) (by decide)) (by decide)
            · obtain ⟨c1, c2, c3, fm, c4, c5⟩ := b2
              exact ⟨hf4.get (by decide) c1, c2, fun j hj => by omega, fm, hf4.get (by decide) c4, fun j hj => by omega⟩
            · obtain ⟨fa, fl, fb, d1, d2, d3, d4, d5, d6, d7⟩ := b3
              refine ⟨fa, fl, fb, hf4.get (by decide) d1, hf4.get (by decide) d2, hf4.get (by decide) d3, fun f hf g hg => ?_, d5, fun f hf => ?_, d7⟩
              · rw [(d7 q1).1 (f * 10 + g) (by omega), q1]; rfl
              · rw [(d7 q1).2 f (by omega), q1]; rfl
          · have e6 : ¬ n < 4 := by have := of_decide_eq_true (b_of1 h5); omega
            refine V_bipushE X (-104) dX11_feature_40 (by decide +kernel) ?_
            exact V_iretG X dX11_feature_42 (Nat.zero_le _) (Nat.zero_le _) ⟨agr.refl _ _, rfl, by simp [r_feature, e9, e8, e7, e6], by simp [okF, e6]⟩
        · have e7 : ¬ mm = 0 := by have := of_decide_eq_true (b_of1 h4); omega
          refine V_bipushE X (-103) dX11_feature_27 (by decide +kernel) ?_
          exact V_iretG X dX11_feature_29 (Nat.zero_le _) (Nat.zero_le _) ⟨agr.refl _ _, rfl, by simp [r_feature, e9, e8, e7], by simp [okF, e7]⟩
      · have e8 : inR 10 z = false := by
          rw [← inR_of_le 9 (by decide)]
          have h3 : nI 9 < z := Int32.not_le.mp h3
          simp [h3]
        refine V_bipushE X (-102) dX11_feature_17 (by decide +kernel) ?_
        exact V_iretG X dX11_feature_19 (Nat.zero_le _) (Nat.zero_le _) ⟨agr.refl _ _, rfl, by simp [r_feature, e8], by simp [okF, e8]⟩
