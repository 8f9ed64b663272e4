/-! a year of truth -/
theorem bnd_try {n : Nat} {K : Nat → Nat} {nj : Nat} {Js : Nat → JD} {kg p lb f : Nat} {L : List (Nat × Nat)} (h : bndL n L) (hp : p < 10 ^ n) (hf : f < n) : bndL n (tryS n K nj Js kg p lb f L) := by
  unfold tryS
  split
  · intro e he
    rcases List.mem_append.mp he with he | he
    · exact h e he
    · simp at he; subst he; exact withP_lt hp hf (dg_lt _ _)
  · exact h
theorem bnd_row {n : Nat} {K : Nat → Nat} {nj : Nat} {Js : Nat → JD} {kg p e1 : Nat} {first : Bool} {L : List (Nat × Nat)} (h : bndL n L) (hp : p < 10 ^ n) : ∀ f, f ≤ n → bndL n (rowS n K nj Js kg p e1 first f L)
  | 0, _ => h
  | f + 1, hf => bnd_try (bnd_row h hp f (by omega)) hp hf
theorem bnd_one {n : Nat} {K : Nat → Nat} {nj : Nat} {Js : Nat → JD} {kg : Nat} {first : Bool} {L : List (Nat × Nat)} {e : Nat × Nat} (h : bndL n L) (he : e.2 < 10 ^ n) : bndL n (oneS n K nj Js kg first L e) := by
  unfold oneS
  have h1 := bnd_row (K := K) (nj := nj) (Js := Js) (kg := kg) (e1 := e.1) (first := first) h he n (Nat.le_refl n)
  split
  · exact h1
  · intro x hx
    rcases List.mem_append.mp hx with hx | hx
    · exact h1 x hx
    · simp at hx; subst hx; exact he
theorem bnd_fold {n : Nat} {K : Nat → Nat} {nj : Nat} {Js : Nat → JD} {kg : Nat} {first : Bool} : ∀ {L M : List (Nat × Nat)}, bndL n L → bndL n M → bndL n (L.foldl (oneS n K nj Js kg first) M)
  | [], _, _, hM => hM
  | e :: L, M, hL, hM => bnd_fold (L := L) (fun x hx => hL x (List.mem_cons_of_mem _ hx)) (bnd_one hM (hL e List.mem_cons_self))
theorem bnd_pass {n : Nat} {K : Nat → Nat} {nj : Nat} {Js : Nat → JD} {kg : Nat} {first : Bool} {L : List (Nat × Nat)} (h : bndL n L) : bndL n (passS n K nj Js kg first L) := bnd_fold h (fun _ h => absurd h (by simp))
set_option maxHeartbeats 2000000 in
theorem t_passYear (l : Launch) (G : GX) (ad : Nat → Nat) (ws : List CE) (n nj : Nat) (K : Nat → Nat) (Js : Nat → JD) (kr ke rd : Nat) (L : List (Nat × Nat)) (ty ft : Int32) (fe : Nat → Int32) (hL : LooksAt ws n K) (hM : MarksAt ws n nj Js) (hB : BitsAt ws n nj Js) (hS : SR ws kr ke rd L ty ft fe) (hrd : rd + 1 < 1000000000) (hkP : ad kP = G.2.2.2) (kg : Nat) (hk : kg < 10 ^ n) (first : Bool) (hbL : bndL n L) : Ct l G yX9_passYear cX9_passYear 10 none 8 0 0 ad ws [.ref 13, .int (nI kg), .int (bI first)] (pV ad (fun ws2 => (∃ fe2, SR ws2 ke kr (rd + 1) (passS n K nj Js kg first L) ty ft fe2) ∧ fr sea4 ws ws2)) := by
  refine Ct.of [some (.ref 13), some (.int (nI kg)), some (.int (bI first)), none, none, none, none, none, none, none] (by decide +kernel) (Nat.le_of_ble_eq_true rfl) rfl ?_
  intro p e s m args below meth c A X
  have hn := hL.1
  have h104 := pow_le4 hn
  obtain ⟨h1, h2, h3, h4, fs, fw, h5, h6, h7, h8, h9⟩ := hS
  have hlen := goodL_len h4
  have hin := inS h1
  refine V_aload_n0 X dX9_passYear_0 ?_
  refine V_getf X dX9_passYear_1 fX9_19 (by assumption) (by rfl) ?_
  refine V_astore_n3 X dX9_passYear_4 (Nat.le_of_ble_eq_true rfl) rfl ?_
  refine V_aload_n0 X dX9_passYear_5 ?_
  refine V_getf X dX9_passYear_6 fX9_25 (by assumption) (by rfl) ?_
  refine V_istore_4 X dX9_passYear_9 (Nat.le_of_ble_eq_true rfl) rfl ?_
  refine V_aload_n0 X dX9_passYear_11 ?_
  refine V_aload_n0 X dX9_passYear_12 ?_
  refine V_getf X dX9_passYear_13 fX9_22 (by assumption) (by rfl) ?_
  refine V_putf X dX9_passYear_16 fX9_19 (by assumption) (Nat.le_of_ble_eq_true rfl) rfl rfl ?_
  have d3 : (ws.set 13 (oB 9 (List.set [Value.ref 1, Value.ref 4, Value.ref 14, Value.int (nI rd), Value.ref kr, Value.ref ke, Value.int (nI L.length), Value.int ty, Value.int ft] 4 (Value.ref ke))))[13]? = some (oB 9 [Value.ref 1, Value.ref 4, Value.ref 14, Value.int (nI rd), Value.ref ke, Value.ref ke, Value.int (nI L.length), Value.int ty, Value.int ft]) := gset h3
  refine V_aload_n0 X dX9_passYear_19 ?_
  refine V_aload_n3 X dX9_passYear_20 ?_
  refine V_putf X dX9_passYear_21 fX9_22 (by assumption) (Nat.le_of_ble_eq_true rfl) rfl rfl ?_
  have hSW : SW ((ws.set 13 (oB 9 (List.set [Value.ref 1, Value.ref 4, Value.ref 14, Value.int (nI rd), Value.ref kr, Value.ref ke, Value.int (nI L.length), Value.int ty, Value.int ft] 4 (Value.ref ke)))).set 13 (oB 9 (List.set [Value.ref 1, Value.ref 4, Value.ref 14, Value.int (nI rd), Value.ref ke, Value.ref ke, Value.int (nI L.length), Value.int ty, Value.int ft] 5 (Value.ref kr)))) ke kr rd L.length ty ft fe fw := ⟨by omega, h2, gset d3, fs, gne (by decide) (gne (by decide) h5), gne (by omega) (gne (by omega) h7), gne (by omega) (gne (by omega) h6), fun p0 hp => by obtain ⟨v, a, b, _⟩ := h8 p0 hp; exact ⟨v, a, b⟩⟩
  have hf0 : fr sea4 ws ((ws.set 13 (oB 9 (List.set [Value.ref 1, Value.ref 4, Value.ref 14, Value.int (nI rd), Value.ref kr, Value.ref ke, Value.int (nI L.length), Value.int ty, Value.int ft] 4 (Value.ref ke)))).set 13 (oB 9 (List.set [Value.ref 1, Value.ref 4, Value.ref 14, Value.int (nI rd), Value.ref ke, Value.ref ke, Value.int (nI L.length), Value.int ty, Value.int ft] 5 (Value.ref kr)))) := (fr.rfl.set (by decide)).set (by decide)
  have d13 := hSW.2.2.1
  refine V_aload_n0 X dX9_passYear_24 ?_
  refine V_cV0V X dX9_passYear_25 kX9_42 (t_startRound0 l G ad _ ke kr rd L.length ty ft fe fw hSW hrd) (by assumption) (by rfl) (Nat.le_of_ble_eq_true rfl) ⟨⟨Nat.le_of_ble_eq_true rfl, Nat.le_of_ble_eq_true rfl⟩, Nat.le_of_ble_eq_true rfl, Nat.le_of_ble_eq_true rfl⟩ (fun ws2 hc => ?_)
  obtain ⟨hS1, hf1⟩ := hc
  have hf2 := hf0.trans hf1
  refine V_iconstE X (nI 0) dX9_passYear_28 (by decide +kernel) ?_
  refine V_istore_5 X dX9_passYear_29 (Nat.le_of_ble_eq_true rfl) rfl ?_
  refine V_loop (fun k wk lv2 => ∃ (i : Nat) (w6 w7 w8 w9 : Option Value), i + k = L.length ∧ lv2 = [some (.ref 13), some (.int (nI kg)), some (.int (bI first)), some (.ref kr), some (.int (nI L.length)), some (.int (nI i)), w6, w7, w8, w9] ∧ (noL lv2 7 && noL lv2 8 && noL lv2 9) = true ∧ fr sea4 ws wk ∧ SR wk ke kr (rd + 1) ((L.take i).foldl (oneS n K nj Js kg first) []) ty ft fw ∧ bndL n ((L.take i).foldl (oneS n K nj Js kg first) [])) L.length ⟨0, none, none, none, none, by omega, rfl, by rfl, hf2, hS1, fun e he => absurd he (by simp)⟩ ?_
  rintro k wk _ ⟨i, w6, w7, w8, w9, hi, rfl, hno, hfk, hSk, hbk⟩ ih
  simp only [Bool.and_eq_true] at hno
  refine V_iload_5 X dX9_passYear_31 ?_
  refine V_iload_4 X dX9_passYear_33 ?_
  refine V_icmp_ge X 170 dX9_passYear_35 (by decide) (fun h => ?_) (fun h => ?_)
  · have e9 : L.length ≤ i := (nI_leI (by omega) (by omega)).mp h
    rw [List.take_of_length_le e9] at hSk
    exact V_vret X dX9_passYear_170 ⟨⟨fw, hSk⟩, hfk⟩
  · have e9 : i < L.length := by
      rcases Nat.lt_or_ge i L.length with q9 | q9
      · exact q9
      · exact absurd ((nI_leI (by omega) (by omega)).mpr q9) h
    have hget : L[i]? = some (L[i]) := List.getElem?_eq_getElem e9
    generalize L[i] = e8 at hget
    have hg := h4.2 e8 (List.mem_of_getElem? hget)
    have hb8 := hbL e8 (List.mem_of_getElem? hget)
    have htk : L.take (i + 1) = L.take i ++ [e8] := by rw [List.take_succ, hget]; rfl
    generalize hM0 : (L.take i).foldl (oneS n K nj Js kg first) [] = M0 at hSk hbk
    obtain ⟨fs2, fw2, z14, z15, z16, hs8, hs9⟩ := hSk.2.2.2.2
    refine V_aload_n3 X dX9_passYear_38 ?_
    refine V_iload_5 X dX9_passYear_39 ?_
    refine V_iald X i dX9_passYear_41 (by assumption) rfl (by omega) (by omega) ?_
    rw [h9 i e8 hget]
    refine V_sipushE X (nI 10000) dX9_passYear_42 (by decide +kernel) ?_
    refine V_irem X dX9_passYear_45 (by decide +kernel) ?_
    rw [i32_rem4 hg.1 hg.2]
    refine V_istore_6 X dX9_passYear_46 (Nat.le_of_ble_eq_true rfl) rfl ?_
    refine V_aload_n3 X dX9_passYear_48 ?_
    refine V_iload_5 X dX9_passYear_49 ?_
    refine V_iald X i dX9_passYear_51 (by assumption) rfl (by omega) (by omega) ?_
    rw [h9 i e8 hget]
    refine V_sipushE X (nI 10000) dX9_passYear_52 (by decide +kernel) ?_
    refine V_idiv X dX9_passYear_55 (by decide +kernel) ?_
    rw [i32_div4 hg.1 hg.2]
    refine V_istore_7 X dX9_passYear_56 (Nat.le_of_ble_eq_true rfl) rfl ?_
    refine V_iconstE X (nI 0) dX9_passYear_58 (by decide +kernel) ?_
    refine V_istore_8 X dX9_passYear_59 (Nat.le_of_ble_eq_true rfl) rfl ?_
    refine V_loop (fun k2 wz lv2 => ∃ (f : Nat) (w9 : Option Value), f + k2 = n ∧ lv2 = [some (.ref 13), some (.int (nI kg)), some (.int (bI first)), some (.ref kr), some (.int (nI L.length)), some (.int (nI i)), some (.int (nI e8.2)), some (.int (nI e8.1)), some (.int (nI f)), w9] ∧ fr sea4 ws wz ∧ SR wz ke kr (rd + 1) (rowS n K nj Js kg e8.2 e8.1 first f M0) ty ft fw) n ⟨0, _, by omega, rfl, hfk, hSk⟩ ?_
    rintro k2 wz _ ⟨f, w9, hf, rfl, hfz, hSz⟩ ih2
    have hLz := hL.fr hfz (by decide)
    have hMz := hM.fr hfz (by decide) (by decide)
    have hBz := hB.fr hfz (by decide) (by decide) (by decide)
    have y1 := hLz.2.1
    have y4 := hMz.1
    have y13 := hSz.2.2.1
    have hrdz := hSz.2.1
    obtain ⟨fs3, fw3, y14, y15, y16, ys8, ys9⟩ := hSz.2.2.2.2
    refine V_iload_8 X dX9_passYear_61 ?_
    refine V_aload_n0 X dX9_passYear_63 ?_
    refine V_getf X dX9_passYear_64 fX9_34 (by assumption) (by rfl) ?_
    refine V_cV0I X dX9_passYear_67 kX9_56 (t_Lsize l G ad wz n K hLz) (by assumption) (by rfl) (Nat.le_of_ble_eq_true rfl) ⟨⟨Nat.le_of_ble_eq_true rfl, Nat.le_of_ble_eq_true rfl⟩, Nat.le_of_ble_eq_true rfl, Nat.le_of_ble_eq_true rfl⟩ (fun r ws2 hc => ?_)
    obtain ⟨rfl, hw9⟩ := hc
    obtain rfl := hw9.symm
    refine V_icmp_ge X 139 dX9_passYear_70 (by decide) (fun h10 => ?_) (fun h10 => ?_)
    · have e10 : f = n := by have := (nI_leI (by omega) (by omega)).mp h10; omega
      rw [e10] at hSz ys8
      have hfin : ∀ (wy : List CE), SR wy ke kr (rd + 1) (oneS n K nj Js kg first M0 e8) ty ft fw → fr sea4 ws wy → V p l e (rmm 8 0 0) s m args below meth c 0 0 (MQ below (QQ G A (pV ad (fun ws2 => (∃ fe2, SR ws2 ke kr (rd + 1) (passS n K nj Js kg first L) ty ft fe2) ∧ fr sea4 ws ws2))) args s 0 0 A) G A 10 ad wy 164 [some (.ref 13), some (.int (nI kg)), some (.int (bI first)), some (.ref kr), some (.int (nI L.length)), some (.int (nI i)), some (.int (nI e8.2)), some (.int (nI e8.1)), some (.int (nI f)), w9] [] := by
        intro wy hSy hfy
        refine V_iinc_5 X dX9_passYear_164 (Nat.le_of_ble_eq_true rfl) rfl (inc1 _) ?_
        refine V_goto X 31 dX9_passYear_167 (by decide) ?_
        refine ih (k - 1) _ _ (by omega) ⟨i + 1, _, _, _, w9, by omega, rfl, by rfl, hfy, ?_, ?_⟩
        · rw [htk, List.foldl_append, hM0]; exact hSy
        · rw [htk, List.foldl_append, hM0]; exact bnd_one hbk hb8
      refine V_aload_n0 X dX9_passYear_139 ?_
      refine V_iload_6 X dX9_passYear_140 ?_
      refine V_cV1I X dX9_passYear_142 kX9_52 (t_isReached l G ad wz ke kr (rd + 1) _ ty ft fw hSz e8.2 hg.2) (by assumption) (by rfl) (Nat.le_of_ble_eq_true rfl) ⟨⟨Nat.le_of_ble_eq_true rfl, Nat.le_of_ble_eq_true rfl⟩, Nat.le_of_ble_eq_true rfl, Nat.le_of_ble_eq_true rfl⟩ (fun r ws2 hc => ?_)
      obtain ⟨rfl, hw9⟩ := hc
      obtain rfl := hw9.symm
      refine V_if_ne X 164 dX9_passYear_145 (by decide) (fun h11 => ?_) (fun h11 => ?_)
      · have e11 := b_of1 h11
        exact hfin wz (by unfold oneS; rw [if_pos e11]; exact hSz) hfz
      · have e11 : hasP (rowS n K nj Js kg e8.2 e8.1 first n M0) e8.2 = false := b_of0 h11
        refine V_aload_n0 X dX9_passYear_148 ?_
        refine V_iload_6 X dX9_passYear_149 ?_
        refine V_iload_n2 X dX9_passYear_151 ?_
        refine V_if_eq X 159 dX9_passYear_152 (by decide) (fun h12 => ?_) (fun h12 => ?_)
        · have e12 := b_of0 h12
          subst e12
          refine V_iload_7 X dX9_passYear_159 ?_
          refine V_cV2V X dX9_passYear_161 kX9_45 (t_reach l G ad wz ke kr (rd + 1) _ ty ft fw hSz e8.2 e8.1 hg.2 hg.1 e11) (by assumption) (by rfl) (Nat.le_of_ble_eq_true rfl) ⟨⟨Nat.le_of_ble_eq_true rfl, Nat.le_of_ble_eq_true rfl⟩, Nat.le_of_ble_eq_true rfl, Nat.le_of_ble_eq_true rfl⟩ (fun ws2 hc => ?_)
          exact hfin ws2 (by unfold oneS; rw [if_neg (by rw [e11]; decide)]; exact hc.1) (hfz.trans hc.2)
        · have e12 := b_of1 h12
          subst e12
          refine V_iconstE X (nI 4) dX9_passYear_155 (by decide +kernel) ?_
          refine V_goto X 161 dX9_passYear_156 (by decide) ?_
          refine V_cV2V X dX9_passYear_161 kX9_45 (t_reach l G ad wz ke kr (rd + 1) _ ty ft fw hSz e8.2 4 hg.2 (by omega) e11) (by assumption) (by rfl) (Nat.le_of_ble_eq_true rfl) ⟨⟨Nat.le_of_ble_eq_true rfl, Nat.le_of_ble_eq_true rfl⟩, Nat.le_of_ble_eq_true rfl, Nat.le_of_ble_eq_true rfl⟩ (fun ws2 hc => ?_)
          exact hfin ws2 (by unfold oneS; rw [if_neg (by rw [e11]; decide)]; exact hc.1) (hfz.trans hc.2)
    · have e10 : f < n := by
        rcases Nat.lt_or_ge f n with q9 | q9
        · exact q9
        · exact absurd ((nI_leI (by omega) (by omega)).mpr q9) h10
      have hfin : ∀ (wy : List CE) (w9 : Option Value), SR wy ke kr (rd + 1) (rowS n K nj Js kg e8.2 e8.1 first (f + 1) M0) ty ft fw → fr sea4 ws wy → V p l e (rmm 8 0 0) s m args below meth c 0 0 (MQ below (QQ G A (pV ad (fun ws2 => (∃ fe2, SR ws2 ke kr (rd + 1) (passS n K nj Js kg first L) ty ft fe2) ∧ fr sea4 ws ws2))) args s 0 0 A) G A 10 ad wy 133 [some (.ref 13), some (.int (nI kg)), some (.int (bI first)), some (.ref kr), some (.int (nI L.length)), some (.int (nI i)), some (.int (nI e8.2)), some (.int (nI e8.1)), some (.int (nI f)), w9] [] := by
        intro wy w9 hSy hfy
        refine V_iinc_8 X dX9_passYear_133 (Nat.le_of_ble_eq_true rfl) rfl (inc1 _) ?_
        refine V_goto X 61 dX9_passYear_136 (by decide) ?_
        exact ih2 (k2 - 1) _ _ (by omega) ⟨f + 1, w9, by omega, rfl, hfy, hSy⟩
      refine V_aload_n0 X dX9_passYear_73 ?_
      refine V_getf X dX9_passYear_74 fX9_34 (by assumption) (by rfl) ?_
      refine V_iload_6 X dX9_passYear_77 ?_
      refine V_iload_8 X dX9_passYear_79 ?_
      refine V_iload_n1 X dX9_passYear_81 ?_
      refine V_iload_8 X dX9_passYear_82 ?_
      refine V_cS2I X dX9_passYear_84 kX9_82 (t_sizeIn l G ad wz hkP kg f (by omega) (by omega)) (Nat.le_of_ble_eq_true rfl) ⟨⟨Nat.le_of_ble_eq_true rfl, Nat.le_of_ble_eq_true rfl⟩, Nat.le_of_ble_eq_true rfl, Nat.le_of_ble_eq_true rfl⟩ (fun r ws2 hc => ?_)
      obtain ⟨rfl, hw9⟩ := hc
      obtain rfl := hw9.symm
      refine V_cV3I X dX9_passYear_87 kX9_86 (t_with l G ad wz hkP e8.2 f _ (by omega) (by omega)) (by assumption) (by rfl) (Nat.le_of_ble_eq_true rfl) ⟨⟨Nat.le_of_ble_eq_true rfl, Nat.le_of_ble_eq_true rfl⟩, Nat.le_of_ble_eq_true rfl, Nat.le_of_ble_eq_true rfl⟩ (fun r ws2 hc => ?_)
      obtain ⟨rfl, hw9⟩ := hc
      obtain rfl := hw9.symm
      have hq := withP_lt (v := dg kg f) hb8 e10 (dg_lt _ _)
      refine V_istore_9 X dX9_passYear_90 (Nat.le_of_ble_eq_true rfl) rfl ?_
      refine V_aload_n0 X dX9_passYear_92 ?_
      refine V_iload_9 X dX9_passYear_93 ?_
      refine V_cV1I X dX9_passYear_95 kX9_52 (t_isReached l G ad wz ke kr (rd + 1) _ ty ft fw hSz (withP e8.2 f (dg kg f)) (by omega)) (by assumption) (by rfl) (Nat.le_of_ble_eq_true rfl) ⟨⟨Nat.le_of_ble_eq_true rfl, Nat.le_of_ble_eq_true rfl⟩, Nat.le_of_ble_eq_true rfl, Nat.le_of_ble_eq_true rfl⟩ (fun r ws2 hc => ?_)
      obtain ⟨rfl, hw9⟩ := hc
      obtain rfl := hw9.symm
      refine V_if_ne X 133 dX9_passYear_98 (by decide) (fun h11 => ?_) (fun h11 => ?_)
      · have e11 := b_of1 h11
        exact hfin wz _ (by show SR wz ke kr (rd + 1) (tryS _ _ _ _ _ _ _ _ _) ty ft fw; unfold tryS; rw [e11]; exact hSz) hfz
      · have e11 : hasP (rowS n K nj Js kg e8.2 e8.1 first f M0) (withP e8.2 f (dg kg f)) = false := b_of0 h11
        refine V_aload_n0 X dX9_passYear_101 ?_
        refine V_getf X dX9_passYear_102 fX9_38 (by assumption) (by rfl) ?_
        refine V_iload_6 X dX9_passYear_105 ?_
        refine V_iload_9 X dX9_passYear_107 ?_
        refine V_iload_n1 X dX9_passYear_109 ?_
        refine V_cV3I X dX9_passYear_110 kX9_65 (t_agrees l G ad wz n nj K Js hLz hMz hBz e8.2 _ kg (by omega) (by omega) (by omega)) (by assumption) (by rfl) (Nat.le_of_ble_eq_true rfl) ⟨⟨Nat.le_of_ble_eq_true rfl, Nat.le_of_ble_eq_true rfl⟩, Nat.le_of_ble_eq_true rfl, Nat.le_of_ble_eq_true rfl⟩ (fun r ws2 hc => ?_)
        obtain ⟨rfl, hw9⟩ := hc
        obtain rfl := hw9.symm
        refine V_if_eq X 133 dX9_passYear_113 (by decide) (fun h12 => ?_) (fun h12 => ?_)
        · have e12 := b_of0 h12
          exact hfin wz _ (by show SR wz ke kr (rd + 1) (tryS _ _ _ _ _ _ _ _ _) ty ft fw; unfold tryS; rw [e12, Bool.and_false]; exact hSz) hfz
        · have e12 := b_of1 h12
          refine V_aload_n0 X dX9_passYear_116 ?_
          refine V_iload_9 X dX9_passYear_117 ?_
          refine V_iload_n2 X dX9_passYear_119 ?_
          refine V_if_eq X 128 dX9_passYear_120 (by decide) (fun h13 => ?_) (fun h13 => ?_)
          · have e13 := b_of0 h13
            subst e13
            refine V_iload_7 X dX9_passYear_128 ?_
            refine V_cV2V X dX9_passYear_130 kX9_45 (t_reach l G ad wz ke kr (rd + 1) _ ty ft fw hSz (withP e8.2 f (dg kg f)) e8.1 (by omega) hg.1 e11) (by assumption) (by rfl) (Nat.le_of_ble_eq_true rfl) ⟨⟨Nat.le_of_ble_eq_true rfl, Nat.le_of_ble_eq_true rfl⟩, Nat.le_of_ble_eq_true rfl, Nat.le_of_ble_eq_true rfl⟩ (fun ws2 hc => ?_)
            exact hfin ws2 _ (by show SR ws2 ke kr (rd + 1) (tryS _ _ _ _ _ _ _ _ _) ty ft fw; unfold tryS; rw [e11, e12]; exact hc.1) (hfz.trans hc.2)
          · have e13 := b_of1 h13
            subst e13
            refine V_iload_8 X dX9_passYear_123 ?_
            refine V_goto X 130 dX9_passYear_125 (by decide) ?_
            refine V_cV2V X dX9_passYear_130 kX9_45 (t_reach l G ad wz ke kr (rd + 1) _ ty ft fw hSz (withP e8.2 f (dg kg f)) f (by omega) (by omega) e11) (by assumption) (by rfl) (Nat.le_of_ble_eq_true rfl) ⟨⟨Nat.le_of_ble_eq_true rfl, Nat.le_of_ble_eq_true rfl⟩, Nat.le_of_ble_eq_true rfl, Nat.le_of_ble_eq_true rfl⟩ (fun ws2 hc => ?_)
            exact hfin ws2 _ (by show SR ws2 ke kr (rd + 1) (tryS _ _ _ _ _ _ _ _ _) ty ft fw; unfold tryS; rw [e11, e12]; exact hc.1) (hfz.trans hc.2)
