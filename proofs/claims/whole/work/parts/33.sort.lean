/-! Sorter.sort -/
def SorterI (ws : List CE) : Prop := ∃ (s0 c0 : Int32) (fg ft fb : Nat → Int32), ws[17]? = some (oB 10 [.ref 1, .ref 18, .ref 19, .ref 20, .int s0, .int c0]) ∧ ws[18]? = some (iA 36 fg) ∧ ws[19]? = some (iA 6 ft) ∧ ws[20]? = some (iA 6 fb)
theorem SorterAt.toI {ws : List CE} {sz : Nat} {g : Nat → Nat → Nat} {q : Nat × List Nat} {pre : List Nat} (h : SorterAt ws sz g q pre) : SorterI ws := by
  obtain ⟨_, _, h3, fg, ft, fb, h4, h5, h6, _⟩ := h
  exact ⟨_, _, fg, ft, fb, h3, h4, h5, h6⟩
theorem SorterI.fr {ks : List Nat} {ws ws2 : List CE} (h : SorterI ws) (hf : fr ks ws ws2) (hk : ∀ k ∈ ks, k < 17 ∨ 20 < k) : SorterI ws2 := by
  obtain ⟨s0, c0, fg, ft, fb, h3, h4, h5, h6⟩ := h
  have nk : ∀ k, ¬ (k < 17 ∨ 20 < k) → k ∉ ks := fun k q q2 => q (hk k q2)
  exact ⟨s0, c0, fg, ft, fb, hf.get (nk _ (by omega)) h3, hf.get (nk _ (by omega)) h4, hf.get (nk _ (by omega)) h5, hf.get (nk _ (by omega)) h6⟩
theorem SorterAt.fr {ks : List Nat} {ws ws2 : List CE} {sz : Nat} {g : Nat → Nat → Nat} {q : Nat × List Nat} {pre : List Nat} (h : SorterAt ws sz g q pre) (hf : fr ks ws ws2) (hk : ∀ k ∈ ks, k < 17 ∨ 20 < k) : SorterAt ws2 sz g q pre := by
  obtain ⟨h1, h2, h3, fg, ft, fb, h4, h5, h6, h7⟩ := h
  have nk : ∀ k, ¬ (k < 17 ∨ 20 < k) → k ∉ ks := fun k q q2 => q (hk k q2)
  exact ⟨h1, h2, hf.get (nk _ (by omega)) h3, fg, ft, fb, hf.get (nk _ (by omega)) h4, hf.get (nk _ (by omega)) h5, hf.get (nk _ (by omega)) h6, h7⟩
/-- a row at places k, kI that holds n naturals -/
def RowN (ws : List CE) (k kI N n : Nat) (U : Nat → Nat) : Prop := ∃ f : Nat → Int32, RowAt ws k kI N n f ∧ ∀ i, i < n → f i = nI (U i)
theorem RowN.fr {ks : List Nat} {ws ws2 : List CE} {k kI N n : Nat} {U : Nat → Nat} (h : RowN ws k kI N n U) (hf : fr ks ws ws2) (h1 : k ∉ ks) (h2 : kI ∉ ks) : RowN ws2 k kI N n U := by
  obtain ⟨f, a, b⟩ := h
  exact ⟨f, a.fr hf h1 h2, b⟩
theorem t_cost (l : Launch) (G : GX) (ad : Nat → Nat) (ws : List CE) (sz : Nat) (g : Nat → Nat → Nat) (q : Nat × List Nat) (pre : List Nat) (hS : SorterAt ws sz g q pre) : Ct l G yX10_cost cX10_cost 1 (some .int) 0 0 0 ad ws [.ref 17] (pI ad (fun r ws2 => r = nI q.1 ∧ ws2 = ws)) := by
  refine Ct.of [some (.ref 17)] (by decide +kernel) (Nat.le_of_ble_eq_true rfl) rfl ?_
  intro p e s m args below meth c A X
  have h3 := hS.2.2.1
  refine V_aload_n0 X dX10_cost_0 ?_
  refine V_getf X dX10_cost_1 fX10_25 (by assumption) (by rfl) ?_
  exact V_iret X dX10_cost_4 ⟨rfl, rfl⟩
def placeI (sz : Nat) (b : List Nat) (x : Int32) : Int32 := if inR sz x then nI (b.getD x.toNatClampNeg 0) else (-1)
theorem t_place (l : Launch) (G : GX) (ad : Nat → Nat) (ws : List CE) (sz : Nat) (g : Nat → Nat → Nat) (q : Nat × List Nat) (pre : List Nat) (hS : SorterAt ws sz g q pre) (hlen : q.2.length = sz) (x : Int32) : Ct l G yX10_place cX10_place 2 (some .int) 0 0 0 ad ws [.ref 17, .int x] (pI ad (fun r ws2 => r = placeI sz q.2 x ∧ ws2 = ws)) := by
  refine Ct.of [some (.ref 17), some (.int x)] (by decide +kernel) (Nat.le_of_ble_eq_true rfl) rfl ?_
  intro p e s m args below meth c A X
  obtain ⟨h1, h2, h3, fg, ft, fb, h4, h5, h6, h7, h8, h9⟩ := hS
  refine V_iload_n1 X dX10_place_0 ?_
  refine V_if_lt X 21 dX10_place_1 (by decide) (fun h => ?_) (fun h => ?_)
  · refine V_iconstE X (-1) dX10_place_21 (by decide +kernel) ?_
    exact V_iret X dX10_place_22 ⟨by simp [placeI, inR, h], rfl⟩
  · refine V_iload_n1 X dX10_place_4 ?_
    refine V_aload_n0 X dX10_place_5 ?_
    refine V_getf X dX10_place_6 fX10_21 (by assumption) (by rfl) ?_
    refine V_icmp_ge X 21 dX10_place_9 (by decide) (fun h10 => ?_) (fun h10 => ?_)
    · refine V_iconstE X (-1) dX10_place_21 (by decide +kernel) ?_
      exact V_iret X dX10_place_22 ⟨by simp [placeI, inR, h10], rfl⟩
    · have e9 : inR sz x = true := by simp [inR, h, h10]
      obtain ⟨j, hj, rfl⟩ := inR_of (by omega) e9
      have hget : q.2[j]? = some (q.2.getD j 0) := by rw [List.getD_eq_getElem?_getD, List.getElem?_eq_getElem (by omega)]; rfl
      refine V_aload_n0 X dX10_place_12 ?_
      refine V_getf X dX10_place_13 fX10_18 (by assumption) (by rfl) ?_
      refine V_iload_n1 X dX10_place_16 ?_
      refine V_iald X j dX10_place_17 (by assumption) rfl (by omega) (by omega) ?_
      refine V_goto X 22 dX10_place_18 (by decide) ?_
      exact V_iret X dX10_place_22 ⟨by rw [h9 j _ hget, placeI, e9, if_pos rfl, nI_clamp (by omega)], rfl⟩
def gU (n : Nat) (K U : Nat → Nat) (a b : Nat) : Nat := gapP n K (U a) (U b)
set_option maxHeartbeats 2000000 in
theorem t_sort (l : Launch) (G : GX) (ad : Nat → Nat) (ws : List CE) (n : Nat) (K : Nat → Nat) (hL : LooksAt ws n K) (hkP : ad kP = G.2.2.2) (hS : SorterI ws) (mh : Nat) (U : Nat → Nat) (hR : RowN ws 27 28 6 mh U) (hU : ∀ i, i < mh → U i < 10 ^ n) : Ct l G yX10_sort cX10_sort 4 none 9 0 0 ad ws [.ref 17, .ref 27] (pV ad (fun ws2 => SorterAt ws2 mh (gU n K U) (tryP mh (gU n K U) mh [] 0 (217, [])) [] ∧ fr srt4 ws ws2)) := by
  refine Ct.of [some (.ref 17), some (.ref 27), none, none] (by decide +kernel) (Nat.le_of_ble_eq_true rfl) rfl ?_
  intro p e s m args below meth c A X
  have hn := hL.1
  have h104 := pow_le4 hn
  obtain ⟨fu, hR1, hR2⟩ := hR
  obtain ⟨s0, c0, fg, ft, fb, h17, h18, h19, h20⟩ := hS
  have r27 := hR1.1
  have hm6 := hR1.2.2.1
  refine V_aload_n0 X dX10_sort_0 ?_
  refine V_aload_n1 X dX10_sort_1 ?_
  refine V_cV0I X dX10_sort_2 kX10_32 (t_Rsize l G ad ws 27 28 6 mh fu hR1) (by assumption) (by rfl) (Nat.le_of_ble_eq_true rfl) ⟨⟨Nat.le_of_ble_eq_true rfl, Nat.le_of_ble_eq_true rfl⟩, Nat.le_of_ble_eq_true rfl, Nat.le_of_ble_eq_true rfl⟩ (fun r ws2 hc => ?_)
  obtain ⟨rfl, hw9⟩ := hc
  obtain rfl := hw9.symm
  refine V_bipushE X (nI 6) dX10_sort_5 (by decide +kernel) ?_
  refine V_cS2I X dX10_sort_7 kX10_37 (t_min l G ad ws _ _) (Nat.le_of_ble_eq_true rfl) ⟨⟨Nat.le_of_ble_eq_true rfl, Nat.le_of_ble_eq_true rfl⟩, Nat.le_of_ble_eq_true rfl, Nat.le_of_ble_eq_true rfl⟩ (fun r ws2 hc => ?_)
  obtain ⟨rfl, hw9⟩ := hc
  obtain rfl := hw9.symm
  rw [if_neg (nI_nlt hm6 (by decide))]
  refine V_putf X dX10_sort_10 fX10_21 (by assumption) (Nat.le_of_ble_eq_true rfl) rfl rfl ?_
  refine V_eqW (ws2 := ws.set 17 (oB 10 [.ref 1, .ref 18, .ref 19, .ref 20, .int (nI mh), .int c0])) rfl ?_
  have d17 := gset (e2 := oB 10 [Value.ref 1, Value.ref 18, Value.ref 19, Value.ref 20, Value.int (nI mh), Value.int c0]) h17
  have d18 := gne (k := 17) (e2 := oB 10 [Value.ref 1, Value.ref 18, Value.ref 19, Value.ref 20, Value.int (nI mh), Value.int c0]) (by decide) h18
  have d19 := gne (k := 17) (e2 := oB 10 [Value.ref 1, Value.ref 18, Value.ref 19, Value.ref 20, Value.int (nI mh), Value.int c0]) (by decide) h19
  have d20 := gne (k := 17) (e2 := oB 10 [Value.ref 1, Value.ref 18, Value.ref 19, Value.ref 20, Value.int (nI mh), Value.int c0]) (by decide) h20
  have hf0 : fr srt4 ws (ws.set 17 (oB 10 [.ref 1, .ref 18, .ref 19, .ref 20, .int (nI mh), .int c0])) := fr.rfl.set (by decide)
  generalize ws.set 17 (oB 10 [.ref 1, .ref 18, .ref 19, .ref 20, .int (nI mh), .int c0]) = wa at d17 d18 d19 d20 hf0 ⊢
  refine V_iconstE X (nI 0) dX10_sort_13 (by decide +kernel) ?_
  refine V_istore_n2 X dX10_sort_14 (Nat.le_of_ble_eq_true rfl) rfl ?_
  refine V_loop (fun k wk lv2 => ∃ (a : Nat) (w3 : Option Value) (fg2 : Nat → Int32), a + k = mh ∧ lv2 = [some (.ref 17), some (.ref 27), some (.int (nI a)), w3] ∧ fr srt4 ws wk ∧ wk[17]? = some (oB 10 [.ref 1, .ref 18, .ref 19, .ref 20, .int (nI mh), .int c0]) ∧ wk[18]? = some (iA 36 fg2) ∧ wk[19]? = some (iA 6 ft) ∧ wk[20]? = some (iA 6 fb) ∧ ∀ a2, a2 < a → ∀ b2, b2 < mh → fg2 (a2 * 6 + b2) = nI (gU n K U a2 b2)) mh ⟨0, none, fg, by omega, rfl, hf0, d17, d18, d19, d20, fun a2 h2 => absurd h2 (by omega)⟩ ?_
  rintro k wk _ ⟨a, w3, fg2, ha, rfl, hfk, e17, e18, e19, e20, hgk⟩ ih
  refine V_iload_n2 X dX10_sort_15 ?_
  refine V_aload_n0 X dX10_sort_16 ?_
  refine V_getf X dX10_sort_17 fX10_21 (by assumption) (by rfl) ?_
  refine V_icmp_ge X 73 dX10_sort_20 (by decide) (fun h => ?_) (fun h => ?_)
  · have e9 : a = mh := by have := (nI_leI (by omega) (by omega)).mp h; omega
    refine V_aload_n0 X dX10_sort_73 ?_
    refine V_sipushE X (nI 217) dX10_sort_74 (by decide +kernel) ?_
    refine V_putf X dX10_sort_77 fX10_25 (by assumption) (Nat.le_of_ble_eq_true rfl) rfl rfl ?_
    refine V_eqW (ws2 := wk.set 17 (oB 10 [.ref 1, .ref 18, .ref 19, .ref 20, .int (nI mh), .int (nI 217)])) rfl ?_
    have hSn : SorterAt (wk.set 17 (oB 10 [.ref 1, .ref 18, .ref 19, .ref 20, .int (nI mh), .int (nI 217)])) mh (gU n K U) (217, []) [] := ⟨hm6, by decide, gset e17, fg2, ft, fb, gne (by decide) e18, gne (by decide) e19, gne (by decide) e20, fun a2 h2 b2 h3 => hgk a2 (by omega) b2 h3, fun i x hx => absurd hx (by simp), fun i x hx => absurd hx (by simp)⟩
    have hfn : fr srt4 ws (wk.set 17 (oB 10 [.ref 1, .ref 18, .ref 19, .ref 20, .int (nI mh), .int (nI 217)])) := hfk.set (by decide)
    generalize wk.set 17 (oB 10 [.ref 1, .ref 18, .ref 19, .ref 20, .int (nI mh), .int (nI 217)]) = wb at hSn hfn ⊢
    have b17 := hSn.2.2.1
    refine V_aload_n0 X dX10_sort_80 ?_
    refine V_iconstE X (nI 0) dX10_sort_81 (by decide +kernel) ?_
    refine V_iconstE X (nI 0) dX10_sort_82 (by decide +kernel) ?_
    refine V_iconstE X (nI 0) dX10_sort_83 (by decide +kernel) ?_
    refine V_eqS (st2 := [.int (nI 0), .int (nI (takB [])), .int (nI ([] : List Nat).length), .ref 17]) rfl ?_
    have hcall := t_try l G ad mh (gU n K U) (fun a b => Nat.le_trans (gapP_le n K _ _) (by omega)) mh wb [] 0 (217, []) (by simp) (fun x hx => absurd hx (by simp)) (by simp) hSn
    refine V_cV3V X dX10_sort_84 kX10_52 hcall b17 rfl (Nat.le_of_ble_eq_true rfl) ⟨⟨by show mh + 1 + 1 ≤ 9; omega, by show 8 + (6 + 11) + 40 * (mh + 1) ≤ 40 * 9; omega⟩, Nat.le_refl _, Nat.le_refl _⟩ (fun ws2 hc => ?_)
    exact V_vret X dX10_sort_87 ⟨hc.1, hfn.trans hc.2⟩
  · have e9 : a < mh := by
      rcases Nat.lt_or_ge a mh with q9 | q9
      · exact q9
      · exact absurd ((nI_leI (by omega) (by omega)).mpr q9) h
    refine V_iconstE X (nI 0) dX10_sort_23 (by decide +kernel) ?_
    refine V_istore_n3 X dX10_sort_24 (Nat.le_of_ble_eq_true rfl) rfl ?_
    refine V_loop (fun k2 wz lv2 => ∃ (b : Nat) (fg3 : Nat → Int32), b + k2 = mh ∧ lv2 = [some (.ref 17), some (.ref 27), some (.int (nI a)), some (.int (nI b))] ∧ fr srt4 ws wz ∧ wz[17]? = some (oB 10 [.ref 1, .ref 18, .ref 19, .ref 20, .int (nI mh), .int c0]) ∧ wz[18]? = some (iA 36 fg3) ∧ wz[19]? = some (iA 6 ft) ∧ wz[20]? = some (iA 6 fb) ∧ (∀ a2, a2 < a → ∀ b2, b2 < mh → fg3 (a2 * 6 + b2) = nI (gU n K U a2 b2)) ∧ ∀ b2, b2 < b → fg3 (a * 6 + b2) = nI (gU n K U a b2)) mh ⟨0, fg2, by omega, rfl, hfk, e17, e18, e19, e20, hgk, fun b2 h2 => absurd h2 (by omega)⟩ ?_
    rintro k2 wz _ ⟨b, fg3, hb, rfl, hfz, z17, z18, z19, z20, hg1, hg2⟩ ih2
    refine V_iload_n3 X dX10_sort_25 ?_
    refine V_aload_n0 X dX10_sort_26 ?_
    refine V_getf X dX10_sort_27 fX10_21 (by assumption) (by rfl) ?_
    refine V_icmp_ge X 67 dX10_sort_30 (by decide) (fun h10 => ?_) (fun h10 => ?_)
    · have e10 : b = mh := by have := (nI_leI (by omega) (by omega)).mp h10; omega
      refine V_iinc_2 X dX10_sort_67 (Nat.le_of_ble_eq_true rfl) rfl (inc1 _) ?_
      refine V_goto X 15 dX10_sort_70 (by decide) ?_
      refine ih (k - 1) _ _ (by omega) ⟨a + 1, _, fg3, by omega, rfl, hfz, z17, z18, z19, z20, fun a2 h2 b2 h3 => ?_⟩
      by_cases q9 : a2 = a
      · rw [q9]; exact hg2 b2 (by omega)
      · exact hg1 a2 (by omega) b2 h3
    · have e10 : b < mh := by
        rcases Nat.lt_or_ge b mh with q9 | q9
        · exact q9
        · exact absurd ((nI_leI (by omega) (by omega)).mpr q9) h10
      have hLz := hL.fr hfz (by decide)
      have hRz := hR1.fr hfz (by decide) (by decide)
      have y1 := hLz.2.1
      have y27 := hRz.1
      have hUa := hU a e9
      have hUb := hU b e10
      refine V_aload_n0 X dX10_sort_33 ?_
      refine V_getf X dX10_sort_34 fX10_9 (by assumption) (by rfl) ?_
      refine V_iload_n2 X dX10_sort_37 ?_
      refine V_bipushE X (nI 6) dX10_sort_38 (by decide +kernel) ?_
      refine V_imul X dX10_sort_40 ?_
      refine V_iload_n3 X dX10_sort_41 ?_
      refine V_iadd X dX10_sort_42 ?_
      rw [pk_mul, nI_add]
      refine V_aload_n0 X dX10_sort_43 ?_
      refine V_getf X dX10_sort_44 fX10_28 (by assumption) (by rfl) ?_
      refine V_aload_n1 X dX10_sort_47 ?_
      refine V_iload_n2 X dX10_sort_48 ?_
      refine V_cV1I X dX10_sort_49 kX10_43 (t_Rget l G ad wz 27 28 6 mh fu hRz _) (by assumption) (by rfl) (Nat.le_of_ble_eq_true rfl) ⟨⟨Nat.le_of_ble_eq_true rfl, Nat.le_of_ble_eq_true rfl⟩, Nat.le_of_ble_eq_true rfl, Nat.le_of_ble_eq_true rfl⟩ (fun r ws2 hc => ?_)
      obtain ⟨rfl, hw9⟩ := hc
      obtain rfl := hw9.symm
      rw [getR_nI (by omega) e9, hR2 a e9]
      refine V_aload_n1 X dX10_sort_52 ?_
      refine V_iload_n3 X dX10_sort_53 ?_
      refine V_cV1I X dX10_sort_54 kX10_43 (t_Rget l G ad wz 27 28 6 mh fu hRz _) (by assumption) (by rfl) (Nat.le_of_ble_eq_true rfl) ⟨⟨Nat.le_of_ble_eq_true rfl, Nat.le_of_ble_eq_true rfl⟩, Nat.le_of_ble_eq_true rfl, Nat.le_of_ble_eq_true rfl⟩ (fun r ws2 hc => ?_)
      obtain ⟨rfl, hw9⟩ := hc
      obtain rfl := hw9.symm
      rw [getR_nI (by omega) e10, hR2 b e10]
      refine V_cV2I X dX10_sort_57 kX10_47 (t_Lgap l G ad wz n K hLz hkP (U a) (U b) (by omega) (by omega)) (by assumption) (by rfl) (Nat.le_of_ble_eq_true rfl) ⟨⟨Nat.le_of_ble_eq_true rfl, Nat.le_of_ble_eq_true rfl⟩, Nat.le_of_ble_eq_true rfl, Nat.le_of_ble_eq_true rfl⟩ (fun r ws2 hc => ?_)
      obtain ⟨rfl, hw9⟩ := hc
      obtain rfl := hw9.symm
      refine V_iast X (a * 6 + b) dX10_sort_60 (by assumption) rfl (by omega) (by omega) ?_
      refine V_iinc_3 X dX10_sort_61 (Nat.le_of_ble_eq_true rfl) rfl (inc1 _) ?_
      refine V_goto X 25 dX10_sort_64 (by decide) ?_
      refine ih2 (k2 - 1) _ _ (by omega) ⟨b + 1, _, by omega, rfl, hfz.set (by decide), gne (by decide) z17, gset z18, gne (by decide) z19, gne (by decide) z20, fun a2 h2 b2 h3 => ?_, fun b2 h2 => ?_⟩
      · rw [pk_un (by omega)]; exact hg1 a2 h2 b2 h3
      · by_cases q9 : b2 = b
        · rw [q9, pk_us]; rfl
        · rw [pk_un (by omega)]; exact hg2 b2 (by omega)
