/-! Census -/
def conv (met por : Nat → Nat) (d : Nat) : Nat := sumF (fun part => met part * por (d - part)) (min 10 (d + 1))
def CensusAt (ws : List CE) (met por : Nat → Nat) : Prop := ∃ (kp ks : Nat) (fm fp fs : Nat → Int32), ((kp = 11 ∧ ks = 12) ∨ (kp = 12 ∧ ks = 11)) ∧ ws[9]? = some (oB 2 [.ref 10, .ref kp, .ref ks]) ∧ ws[10]? = some (iA 10 fm) ∧ ws[kp]? = some (iA 37 fp) ∧ ws[ks]? = some (iA 37 fs) ∧ (∀ i, i < 10 → fm i = nI (met i)) ∧ (∀ i, i < 37 → fp i = nI (por i))
theorem CensusAt.fr {ks : List Nat} {ws ws2 : List CE} {met por : Nat → Nat} (h : CensusAt ws met por) (hf : fr ks ws ws2) (hk : ∀ k ∈ ks, k < 9 ∨ 12 < k) : CensusAt ws2 met por := by
  obtain ⟨kp, k2, fm, fp, fs, h1, h2, h3, h4, h5, h6⟩ := h
  have nk : ∀ k, ¬ (k < 9 ∨ 12 < k) → k ∉ ks := fun k q q2 => q (hk k q2)
  exact ⟨kp, k2, fm, fp, fs, h1, hf.get (nk _ (by omega)) h2, hf.get (nk _ (by omega)) h3, hf.get (nk _ (by omega)) h4, hf.get (nk _ (by omega)) h5, h6⟩
abbrev cen4 : List Nat := [9, 10, 11, 12]
theorem inC {kp ks : Nat} (h : (kp = 11 ∧ ks = 12) ∨ (kp = 12 ∧ ks = 11)) : kp ∈ cen4 ∧ ks ∈ cen4 := by
  rcases h with ⟨rfl, rfl⟩ | ⟨rfl, rfl⟩ <;> exact ⟨by decide, by decide⟩
theorem t_open (l : Launch) (G : GX) (ad : Nat → Nat) (ws : List CE) (met por : Nat → Nat) (hC : CensusAt ws met por) : Ct l G yX2_open cX2_open 2 none 0 0 0 ad ws [.ref 9] (pV ad (fun ws2 => CensusAt ws2 met (fun d => if d = 0 then 1 else 0) ∧ fr cen4 ws ws2)) := by
  refine Ct.of [some (.ref 9), none] (by decide +kernel) (Nat.le_of_ble_eq_true rfl) rfl ?_
  intro p e s m args below meth c A X
  obtain ⟨kp, ks, fm, fp, fs, hkk, h2, h3, h4, h5, h6, h7⟩ := hC
  have hin := inC hkk
  have n1 : kp ≠ 9 ∧ kp ≠ 10 ∧ kp ≠ ks := by omega
  refine V_iconstE X (nI 0) dX2_open_0 (by decide +kernel) ?_
  refine V_istore_n1 X dX2_open_1 (Nat.le_of_ble_eq_true rfl) rfl ?_
  refine V_loop (fun k wk lv2 => ∃ (i : Nat) (fp2 : Nat → Int32), i ≤ 37 ∧ i + k = 37 ∧ lv2 = [some (.ref 9), some (.int (nI i))] ∧ fr cen4 ws wk ∧ wk[9]? = some (oB 2 [.ref 10, .ref kp, .ref ks]) ∧ wk[10]? = some (iA 10 fm) ∧ wk[kp]? = some (iA 37 fp2) ∧ wk[ks]? = some (iA 37 fs) ∧ ∀ j, j < i → fp2 j = nI 0) 37 ⟨0, fp, by omega, by omega, rfl, fr.rfl, h2, h3, h4, h5, fun j hj => absurd hj (by omega)⟩ ?_
  rintro k wk _ ⟨i, fp2, hi, hik, rfl, hfr, e2, e3, e4, e5, e6⟩ ih
  refine V_iload_n1 X dX2_open_2 ?_
  refine V_bipushE X (nI 36) dX2_open_3 (by decide +kernel) ?_
  refine V_icmp_gt X 21 dX2_open_5 (by decide) (fun h => ?_) (fun h => ?_)
  · have e9 : 36 < i := (nI_ltI (a := 36) (by omega) (by omega)).mp h
    refine V_aload_n0 X dX2_open_21 ?_
    refine V_getf X dX2_open_22 fX2_15 (by assumption) (by rfl) ?_
    refine V_iconstE X (nI 0) dX2_open_25 (by decide +kernel) ?_
    refine V_iconstE X (nI 1) dX2_open_26 (by decide +kernel) ?_
    refine V_iast X 0 dX2_open_27 (by assumption) rfl (by omega) (by omega) ?_
    refine V_vret X dX2_open_28 ⟨⟨kp, ks, fm, upd fp2 0 (nI 1), fs, hkk, gne n1.1 e2, gne n1.2.1 e3, gset e4, gne n1.2.2 e5, h6, ?_⟩, hfr.set hin.1⟩
    intro j hj
    by_cases q : j = 0
    · subst q; rw [pk_us]; rfl
    · rw [pk_un q, e6 j (by omega)]; simp [q]
  · have e9 : i ≤ 36 := by
      rcases Nat.lt_or_ge 36 i with q | q
      · exact absurd ((nI_ltI (a := 36) (by omega) (by omega)).mpr q) h
      · exact q
    refine V_aload_n0 X dX2_open_8 ?_
    refine V_getf X dX2_open_9 fX2_15 (by assumption) (by rfl) ?_
    refine V_iload_n1 X dX2_open_12 ?_
    refine V_iconstE X (nI 0) dX2_open_13 (by decide +kernel) ?_
    refine V_iast X i dX2_open_14 (by assumption) rfl (by omega) (by omega) ?_
    refine V_iinc_1 X dX2_open_15 (Nat.le_of_ble_eq_true rfl) rfl (inc1 _) ?_
    refine V_goto X 2 dX2_open_18 (by decide) ?_
    refine ih (k - 1) _ _ (by omega) ⟨i + 1, _, by omega, by omega, rfl, hfr.set hin.1, gne n1.1 e2, gne n1.2.1 e3, gset e4, gne n1.2.2 e5, ?_⟩
    intro j hj
    by_cases q : j = i
    · subst q; rw [pk_us]
    · rw [pk_un q, e6 j (by omega)]
theorem t_meet (l : Launch) (G : GX) (ad : Nat → Nat) (ws : List CE) (met por : Nat → Nat) (hC : CensusAt ws met por) (g : Nat) (hg : g < 10) : Ct l G yX2_meet cX2_meet 2 none 0 0 0 ad ws [.ref 9, .int (nI g)] (pV ad (fun ws2 => CensusAt ws2 (fun i => if i = g then met i + 1 else met i) por ∧ fr cen4 ws ws2)) := by
  refine Ct.of [some (.ref 9), some (.int (nI g))] (by decide +kernel) (Nat.le_of_ble_eq_true rfl) rfl ?_
  intro p e s m args below meth c A X
  obtain ⟨kp, ks, fm, fp, fs, hkk, h2, h3, h4, h5, h6, h7⟩ := hC
  refine V_iload_n1 X dX2_meet_0 ?_
  refine V_if_lt X 20 dX2_meet_1 (by decide) (fun h => ?_) (fun h => ?_)
  · exact absurd h (nI_pos (by omega))
  · refine V_iload_n1 X dX2_meet_4 ?_
    refine V_bipushE X (nI 10) dX2_meet_5 (by decide +kernel) ?_
    refine V_icmp_ge X 20 dX2_meet_7 (by decide) (fun h8 => ?_) (fun h8 => ?_)
    · exact absurd h8 (nI_ge hg (by decide))
    · refine V_aload_n0 X dX2_meet_10 ?_
      refine V_getf X dX2_meet_11 fX2_9 (by assumption) (by rfl) ?_
      refine V_iload_n1 X dX2_meet_14 ?_
      refine V_dup2 X dX2_meet_15 rfl rfl ?_
      refine V_iald X g dX2_meet_16 (by assumption) rfl hg (by omega) ?_
      rw [h6 g hg]
      refine V_iconstE X (nI 1) dX2_meet_17 (by decide +kernel) ?_
      refine V_iadd X dX2_meet_18 ?_
      rw [nI_add]
      refine V_iast X g dX2_meet_19 (by assumption) rfl hg (by omega) ?_
      refine V_vret X dX2_meet_20 ⟨⟨kp, ks, upd fm g (nI (met g + 1)), fp, fs, hkk, gne (by decide) h2, gset h3, gne (by omega) h4, gne (by omega) h5, ?_, h7⟩, fr.rfl.set (by decide)⟩
      intro i hi
      by_cases q : i = g
      · subst q; rw [pk_us]; simp
      · rw [pk_un q, h6 i hi]; simp [q]
theorem t_upTo (l : Launch) (G : GX) (ad : Nat → Nat) (ws : List CE) (met por : Nat → Nat) (hC : CensusAt ws met por) (mo : Nat) (hm : mo < 1000) : Ct l G yX2_upTo cX2_upTo 4 (some .int) 0 0 0 ad ws [.ref 9, .int (nI mo)] (pI ad (fun r ws2 => r = nI (sumF por (min (mo + 1) 37)) ∧ ws2 = ws)) := by
  refine Ct.of [some (.ref 9), some (.int (nI mo)), none, none] (by decide +kernel) (Nat.le_of_ble_eq_true rfl) rfl ?_
  intro p e s m args below meth c A X
  obtain ⟨kp, ks, fm, fp, fs, hkk, h2, h3, h4, h5, h6, h7⟩ := hC
  refine V_iconstE X (nI 0) dX2_upTo_0 (by decide +kernel) ?_
  refine V_istore_n2 X dX2_upTo_1 (Nat.le_of_ble_eq_true rfl) rfl ?_
  refine V_iconstE X (nI 0) dX2_upTo_2 (by decide +kernel) ?_
  refine V_istore_n3 X dX2_upTo_3 (Nat.le_of_ble_eq_true rfl) rfl ?_
  refine V_loopP (fun k lv2 => ∃ (i : Nat), i ≤ min (mo + 1) 37 ∧ i + k = min (mo + 1) 37 ∧ lv2 = [some (.ref 9), some (.int (nI mo)), some (.int (nI (sumF por i))), some (.int (nI i))]) (min (mo + 1) 37) ⟨0, by omega, by omega, rfl⟩ ?_
  rintro k _ ⟨i, hi, hik, rfl⟩ ih
  refine V_iload_n3 X dX2_upTo_4 ?_
  refine V_iload_n1 X dX2_upTo_5 ?_
  refine V_icmp_gt X 30 dX2_upTo_6 (by decide) (fun h => ?_) (fun h => ?_)
  · have e9 : mo < i := (nI_ltI (by omega) (by omega)).mp h
    have e10 : i = min (mo + 1) 37 := by omega
    refine V_iload_n2 X dX2_upTo_30 ?_
    exact V_iret X dX2_upTo_31 ⟨by rw [e10], rfl⟩
  · have e9 : i ≤ mo := by
      rcases Nat.lt_or_ge mo i with q | q
      · exact absurd ((nI_ltI (by omega) (by omega)).mpr q) h
      · exact q
    refine V_iload_n3 X dX2_upTo_9 ?_
    refine V_bipushE X (nI 36) dX2_upTo_10 (by decide +kernel) ?_
    refine V_icmp_gt X 30 dX2_upTo_12 (by decide) (fun h8 => ?_) (fun h8 => ?_)
    · have e11 : 36 < i := (nI_ltI (a := 36) (by omega) (by omega)).mp h8
      have e10 : i = min (mo + 1) 37 := by omega
      refine V_iload_n2 X dX2_upTo_30 ?_
      exact V_iret X dX2_upTo_31 ⟨by rw [e10], rfl⟩
    · have e11 : i ≤ 36 := by
        rcases Nat.lt_or_ge 36 i with q | q
        · exact absurd ((nI_ltI (a := 36) (by omega) (by omega)).mpr q) h8
        · exact q
      refine V_iload_n2 X dX2_upTo_15 ?_
      refine V_aload_n0 X dX2_upTo_16 ?_
      refine V_getf X dX2_upTo_17 fX2_15 (by assumption) (by rfl) ?_
      refine V_iload_n3 X dX2_upTo_20 ?_
      refine V_iald X i dX2_upTo_21 (by assumption) rfl (by omega) (by omega) ?_
      rw [h7 i (by omega)]
      refine V_iadd X dX2_upTo_22 ?_
      refine V_istore_n2 X dX2_upTo_23 (Nat.le_of_ble_eq_true rfl) rfl ?_
      refine V_iinc_3 X dX2_upTo_24 (Nat.le_of_ble_eq_true rfl) rfl (inc1 _) ?_
      refine V_goto X 4 dX2_upTo_27 (by decide) ?_
      exact ih (k - 1) _ (by omega) ⟨i + 1, by omega, by omega, by rw [nI_add]; rfl⟩
set_option maxHeartbeats 1000000 in
theorem t_close (l : Launch) (G : GX) (ad : Nat → Nat) (ws : List CE) (met por : Nat → Nat) (hC : CensusAt ws met por) : Ct l G yX2_close cX2_close 3 none 0 0 0 ad ws [.ref 9] (pV ad (fun ws2 => CensusAt ws2 (fun _ => 0) (conv met por) ∧ fr cen4 ws ws2)) := by
  refine Ct.of [some (.ref 9), none, none] (by decide +kernel) (Nat.le_of_ble_eq_true rfl) rfl ?_
  intro p e s m args below meth c A X
  obtain ⟨kp, ks, fm, fp, fs, hkk, h2, h3, h4, h5, h6, h7⟩ := hC
  have hin := inC hkk
  have n1 : ks ≠ 9 ∧ ks ≠ 10 ∧ ks ≠ kp := by omega
  refine V_iconstE X (nI 0) dX2_close_0 (by decide +kernel) ?_
  refine V_istore_n1 X dX2_close_1 (Nat.le_of_ble_eq_true rfl) rfl ?_
  refine V_loop (fun k wk lv2 => ∃ (d : Nat) (w2 : Option Value) (fs2 : Nat → Int32), d ≤ 37 ∧ d + k = 37 ∧ lv2 = [some (.ref 9), some (.int (nI d)), w2] ∧ fr cen4 ws wk ∧ wk[9]? = some (oB 2 [.ref 10, .ref kp, .ref ks]) ∧ wk[10]? = some (iA 10 fm) ∧ wk[kp]? = some (iA 37 fp) ∧ wk[ks]? = some (iA 37 fs2) ∧ ∀ j, j < d → fs2 j = nI (conv met por j)) 37 ⟨0, none, fs, by omega, by omega, rfl, fr.rfl, h2, h3, h4, h5, fun j hj => absurd hj (by omega)⟩ ?_
  rintro k wk _ ⟨d, w2, fs2, hd, hdk, rfl, hfr, e2, e3, e4, e5, e6⟩ ih
  refine V_iload_n1 X dX2_close_2 ?_
  refine V_bipushE X (nI 36) dX2_close_3 (by decide +kernel) ?_
  refine V_icmp_gt X 64 dX2_close_5 (by decide) (fun h => ?_) (fun h => ?_)
  · have e9 : 36 < d := (nI_ltI (a := 36) (by omega) (by omega)).mp h
    refine V_aload_n0 X dX2_close_64 ?_
    refine V_getf X dX2_close_65 fX2_18 (by assumption) (by rfl) ?_
    refine V_astore_n1 X dX2_close_68 (Nat.le_of_ble_eq_true rfl) rfl ?_
    refine V_aload_n0 X dX2_close_69 ?_
    refine V_aload_n0 X dX2_close_70 ?_
    refine V_getf X dX2_close_71 fX2_15 (by assumption) (by rfl) ?_
    refine V_putf X dX2_close_74 fX2_18 (by assumption) (Nat.le_of_ble_eq_true rfl) rfl rfl ?_
    have d2 := gset (e2 := oB 2 (List.set [Value.ref 10, Value.ref kp, Value.ref ks] 2 (Value.ref kp))) e2
    have d3 := gne (k := 9) (e2 := oB 2 (List.set [Value.ref 10, Value.ref kp, Value.ref ks] 2 (Value.ref kp))) (by decide) e3
    have d4 := gne (k := 9) (e2 := oB 2 (List.set [Value.ref 10, Value.ref kp, Value.ref ks] 2 (Value.ref kp))) (by omega) e4
    have d5 := gne (k := 9) (e2 := oB 2 (List.set [Value.ref 10, Value.ref kp, Value.ref ks] 2 (Value.ref kp))) (by omega) e5
    refine V_aload_n0 X dX2_close_77 ?_
    refine V_aload_n1 X dX2_close_78 ?_
    refine V_putf X dX2_close_79 fX2_15 (by assumption) (Nat.le_of_ble_eq_true rfl) rfl rfl ?_
    have c2 := gset (e2 := oB 2 [Value.ref 10, Value.ref ks, Value.ref kp]) d2
    have c3 := gne (k := 9) (e2 := oB 2 [Value.ref 10, Value.ref ks, Value.ref kp]) (by decide) d3
    have c4 := gne (k := 9) (e2 := oB 2 [Value.ref 10, Value.ref ks, Value.ref kp]) (by omega) d4
    have c5 := gne (k := 9) (e2 := oB 2 [Value.ref 10, Value.ref ks, Value.ref kp]) (by omega) d5
    have cfr := (hfr.set (k := 9) (e := oB 2 (List.set [Value.ref 10, Value.ref kp, Value.ref ks] 2 (Value.ref kp))) (by decide)).set (k := 9) (e := oB 2 [Value.ref 10, Value.ref ks, Value.ref kp]) (by decide)
    refine V_iconstE X (nI 0) dX2_close_82 (by decide +kernel) ?_
    refine V_istore_n2 X dX2_close_83 (Nat.le_of_ble_eq_true rfl) rfl ?_
    refine V_loop (fun k wz lv2 => ∃ (j : Nat) (fm2 : Nat → Int32), j ≤ 10 ∧ j + k = 10 ∧ lv2 = [some (.ref 9), some (.ref ks), some (.int (nI j))] ∧ fr cen4 ws wz ∧ wz[9]? = some (oB 2 [.ref 10, .ref ks, .ref kp]) ∧ wz[10]? = some (iA 10 fm2) ∧ wz[kp]? = some (iA 37 fp) ∧ wz[ks]? = some (iA 37 fs2) ∧ ∀ i, i < j → fm2 i = nI 0) 10 ⟨0, fm, by omega, by omega, rfl, cfr, c2, c3, c4, c5, fun j hj => absurd hj (by omega)⟩ ?_
    rintro k2 wz _ ⟨j, fm2, hj, hjk, rfl, hfz, z2, z3, z4, z5, z6⟩ ih2
    refine V_iload_n2 X dX2_close_84 ?_
    refine V_bipushE X (nI 10) dX2_close_85 (by decide +kernel) ?_
    refine V_icmp_ge X 103 dX2_close_87 (by decide) (fun h8 => ?_) (fun h8 => ?_)
    · have e10 : j = 10 := by have := (nI_leI (a := 10) (b := j) (by omega) (by omega)).mp h8; omega
      exact V_vret X dX2_close_103 ⟨⟨ks, kp, fm2, fs2, fp, by omega, z2, z3, z5, z4, fun i hi => z6 i (by omega), fun i hi => e6 i (by omega)⟩, hfz⟩
    · have e10 : j < 10 := by
        rcases Nat.lt_or_ge j 10 with q | q
        · exact q
        · exact absurd ((nI_leI (a := 10) (b := j) (by omega) (by omega)).mpr q) h8
      refine V_aload_n0 X dX2_close_90 ?_
      refine V_getf X dX2_close_91 fX2_9 (by assumption) (by rfl) ?_
      refine V_iload_n2 X dX2_close_94 ?_
      refine V_iconstE X (nI 0) dX2_close_95 (by decide +kernel) ?_
      refine V_iast X j dX2_close_96 (by assumption) rfl e10 (by omega) ?_
      refine V_iinc_2 X dX2_close_97 (Nat.le_of_ble_eq_true rfl) rfl (inc1 _) ?_
      refine V_goto X 84 dX2_close_100 (by decide) ?_
      refine ih2 (k2 - 1) _ _ (by omega) ⟨j + 1, _, by omega, by omega, rfl, hfz.set (by decide), gne (by decide) z2, gset z3, gne (by omega) z4, gne (by omega) z5, ?_⟩
      intro i hi
      by_cases q : i = j
      · subst q; rw [pk_us]
      · rw [pk_un q, z6 i (by omega)]
  · have e9 : d ≤ 36 := by
      rcases Nat.lt_or_ge 36 d with q | q
      · exact absurd ((nI_ltI (a := 36) (by omega) (by omega)).mpr q) h
      · exact q
    refine V_aload_n0 X dX2_close_8 ?_
    refine V_getf X dX2_close_9 fX2_18 (by assumption) (by rfl) ?_
    refine V_iload_n1 X dX2_close_12 ?_
    refine V_iconstE X (nI 0) dX2_close_13 (by decide +kernel) ?_
    refine V_iast X d dX2_close_14 (by assumption) rfl (by omega) (by omega) ?_
    refine V_iconstE X (nI 0) dX2_close_15 (by decide +kernel) ?_
    refine V_istore_n2 X dX2_close_16 (Nat.le_of_ble_eq_true rfl) rfl ?_
    refine V_loop (fun k wz lv2 => ∃ (part : Nat) (fs3 : Nat → Int32), part ≤ min 10 (d + 1) ∧ part + k = min 10 (d + 1) ∧ lv2 = [some (.ref 9), some (.int (nI d)), some (.int (nI part))] ∧ fr cen4 ws wz ∧ wz[9]? = some (oB 2 [.ref 10, .ref kp, .ref ks]) ∧ wz[10]? = some (iA 10 fm) ∧ wz[kp]? = some (iA 37 fp) ∧ wz[ks]? = some (iA 37 fs3) ∧ (∀ j, j < d → fs3 j = nI (conv met por j)) ∧ fs3 d = nI (sumF (fun part => met part * por (d - part)) part)) (min 10 (d + 1)) ⟨0, _, by omega, by omega, rfl, hfr.set hin.2, gne n1.1 e2, gne n1.2.1 e3, gne n1.2.2 e4, gset e5, fun j hj => by rw [pk_un (by omega)]; exact e6 j hj, by rw [pk_us]; rfl⟩ ?_
    rintro k2 wz _ ⟨part, fs3, hp, hpk, rfl, hfz, z2, z3, z4, z5, z6, z7⟩ ih2
    have out : part = min 10 (d + 1) → V p l e (rmm 0 0 0) s m args below meth c 0 0 (MQ below (QQ G A (pV ad (fun ws2 => CensusAt ws2 (fun _ => 0) (conv met por) ∧ fr cen4 ws ws2))) args s 0 0 A) G A 3 ad wz 58 [some (.ref 9), some (.int (nI d)), some (.int (nI part))] [] := by
      intro e10
      refine V_iinc_1 X dX2_close_58 (Nat.le_of_ble_eq_true rfl) rfl (inc1 _) ?_
      refine V_goto X 2 dX2_close_61 (by decide) ?_
      refine ih (k - 1) _ _ (by omega) ⟨d + 1, _, fs3, by omega, by omega, rfl, hfz, z2, z3, z4, z5, ?_⟩
      intro j hj
      by_cases q : j = d
      · subst q; rw [z7, e10]; rfl
      · exact z6 j (by omega)
    refine V_iload_n2 X dX2_close_17 ?_
    refine V_bipushE X (nI 10) dX2_close_18 (by decide +kernel) ?_
    refine V_icmp_ge X 58 dX2_close_20 (by decide) (fun h8 => ?_) (fun h8 => ?_)
    · exact out (by have := (nI_leI (a := 10) (b := part) (by omega) (by omega)).mp h8; omega)
    · have e10 : part < 10 := by
        rcases Nat.lt_or_ge part 10 with q | q
        · exact q
        · exact absurd ((nI_leI (a := 10) (b := part) (by omega) (by omega)).mpr q) h8
      refine V_iload_n2 X dX2_close_23 ?_
      refine V_iload_n1 X dX2_close_24 ?_
      refine V_icmp_gt X 58 dX2_close_25 (by decide) (fun h9 => ?_) (fun h9 => ?_)
      · exact out (by have := (nI_ltI (by omega) (by omega)).mp h9; omega)
      · have e11 : part ≤ d := by
          rcases Nat.lt_or_ge d part with q | q
          · exact absurd ((nI_ltI (by omega) (by omega)).mpr q) h9
          · exact q
        refine V_aload_n0 X dX2_close_28 ?_
        refine V_getf X dX2_close_29 fX2_18 (by assumption) (by rfl) ?_
        refine V_iload_n1 X dX2_close_32 ?_
        refine V_dup2 X dX2_close_33 rfl rfl ?_
        refine V_iald X d dX2_close_34 (by assumption) rfl (by omega) (by omega) ?_
        rw [z7]
        refine V_aload_n0 X dX2_close_35 ?_
        refine V_getf X dX2_close_36 fX2_9 (by assumption) (by rfl) ?_
        refine V_iload_n2 X dX2_close_39 ?_
        refine V_iald X part dX2_close_40 (by assumption) rfl e10 (by omega) ?_
        rw [h6 part e10]
        refine V_aload_n0 X dX2_close_41 ?_
        refine V_getf X dX2_close_42 fX2_15 (by assumption) (by rfl) ?_
        refine V_iload_n1 X dX2_close_45 ?_
        refine V_iload_n2 X dX2_close_46 ?_
        refine V_isub X dX2_close_47 ?_
        rw [pk_sub e11]
        refine V_iald X (d - part) dX2_close_48 (by assumption) rfl (by omega) (by omega) ?_
        rw [h7 _ (by omega)]
        refine V_imul X dX2_close_49 ?_
        refine V_iadd X dX2_close_50 ?_
        rw [pk_mul, nI_add]
        refine V_iast X d dX2_close_51 (by assumption) rfl (by omega) (by omega) ?_
        refine V_iinc_2 X dX2_close_52 (Nat.le_of_ble_eq_true rfl) rfl (inc1 _) ?_
        refine V_goto X 17 dX2_close_55 (by decide) ?_
        refine ih2 (k2 - 1) _ _ (by omega) ⟨part + 1, _, by omega, by omega, rfl, hfz.set hin.2, gne n1.1 z2, gne n1.2.1 z3, gne n1.2.2 z4, gset z5, fun j hj => by rw [pk_un (by omega)]; exact z6 j hj, by rw [pk_us]; rfl⟩
