/-! Bench.add: the judge whose text the page is -/
def judgeOf (n np : Nat) (pg : Nat → Nat) : JD := (fun f => pg f - 48, if n < np ∧ pg n = 43 then pg (n + 1) - 48 else 0, decide (pg (np - 1) = 33))
def upJ (Js : Nat → JD) (nj : Nat) (q : JD) : Nat → JD := fun j => if j = nj then q else Js j
theorem upJ_lt {Js : Nat → JD} {nj j : Nat} {q : JD} (h : j < nj) : upJ Js nj q j = Js j := if_neg (by omega)
theorem upJ_eq {Js : Nat → JD} {nj : Nat} {q : JD} : upJ Js nj q nj = q := if_pos rfl
def okT (n np : Nat) (pg : Nat → Nat) : Prop := n ≤ np ∧ (∀ f, f < n → 48 ≤ pg f ∧ pg f ≤ 57) ∧ (n < np ∧ pg n = 43 → n + 1 < np ∧ 49 ≤ pg (n + 1) ∧ pg (n + 1) ≤ 57)
theorem BitsAt.up {ws : List CE} {n nj : Nat} {Js : Nat → JD} (q : JD) (h : BitsAt ws n nj Js) : BitsAt ws n nj (upJ Js nj q) := by
  obtain ⟨fa, fl, fb, a, b, c, d, e, f, g⟩ := h
  exact ⟨fa, fl, fb, a, b, c, fun x hx y hy => by rw [d x hx y hy]; exact congrArg nI (bits_congr (fun j hj => by rw [upJ_lt hj])), fun y hy => by rw [e y hy]; exact congrArg nI (bits_congr (fun j hj => by rw [upJ_lt hj])), fun x hx => by rw [f x hx]; exact congrArg nI (bits_congr (fun j hj => by rw [upJ_lt hj])), g⟩
abbrev BObj (nj : Nat) : CE := oB 1 [.ref 1, .ref 5, .ref 6, .ref 7, .ref 8, .int (nI nj)]
set_option maxHeartbeats 2000000 in
theorem t_Badd (l : Launch) (G : GX) (ad : Nat → Nat) (ws : List CE) (n nj : Nat) (K : Nat → Nat) (Js : Nat → JD) (np : Nat) (pg : Nat → Nat) (hL : LooksAt ws n K) (hM : MarksAt ws n nj Js) (hB : BitsAt ws n nj Js) (hR : RowN ws 21 22 10 np pg) (hpg : ∀ i, i < np → pg i < 256) (hT : okT n np pg) (hn0 : 0 < n) (hj5 : nj < 5) : Ct l G yX1_add cX1_add 5 (some .int) 6 0 0 ad ws [.ref 4, .ref 21] (pI ad (fun r ws2 => r = nI nj ∧ MarksAt ws2 n (nj + 1) (upJ Js nj (judgeOf n np pg)) ∧ BitsAt ws2 n (nj + 1) (upJ Js nj (judgeOf n np pg)) ∧ fr [4, 5, 6, 7, 8] ws ws2)) := by
  refine Ct.of [some (.ref 4), some (.ref 21), none, none, none] (by decide +kernel) (Nat.le_of_ble_eq_true rfl) rfl ?_
  intro p e s m args below meth c A X
  have hM0 := hM
  have hn := hL.1
  obtain ⟨h1, h2, h3, fm, h4, h5⟩ := hM
  obtain ⟨fp, hR1, hR2⟩ := hR
  have z21 := hR1.1
  have z1 := hL.2.1
  have hnp := hR1.2.2.1
  obtain ⟨t1, t2, t3⟩ := hT
  refine V_aload_n0 X dX1_add_0 ?_
  refine V_cV0I X dX1_add_1 kX1_40 (t_BisFull l G ad ws n nj Js hM0) (by assumption) (by rfl) (Nat.le_of_ble_eq_true rfl) ⟨⟨Nat.le_of_ble_eq_true rfl, Nat.le_of_ble_eq_true rfl⟩, Nat.le_of_ble_eq_true rfl, Nat.le_of_ble_eq_true rfl⟩ (fun r ws2 hc => ?_)
  obtain ⟨rfl, hw9⟩ := hc
  obtain rfl := hw9.symm
  refine V_if_eq X 9 dX1_add_4 (by decide) (fun h => ?_) (fun h => ?_)
  · refine V_aload_n0 X dX1_add_9 ?_
    refine V_getf X dX1_add_10 fX1_28 (by assumption) (by rfl) ?_
    refine V_cV0I X dX1_add_13 kX1_44 (t_Lsize l G ad ws n K hL) (by assumption) (by rfl) (Nat.le_of_ble_eq_true rfl) ⟨⟨Nat.le_of_ble_eq_true rfl, Nat.le_of_ble_eq_true rfl⟩, Nat.le_of_ble_eq_true rfl, Nat.le_of_ble_eq_true rfl⟩ (fun r ws2 hc => ?_)
    obtain ⟨rfl, hw9⟩ := hc
    obtain rfl := hw9.symm
    refine V_istore_n2 X dX1_add_16 (Nat.le_of_ble_eq_true rfl) rfl ?_
    refine V_aload_n0 X dX1_add_17 ?_
    refine V_getf X dX1_add_18 fX1_24 (by assumption) (by rfl) ?_
    refine V_bipushE X (nI 6) dX1_add_21 (by decide +kernel) ?_
    refine V_imul X dX1_add_23 ?_
    rw [pk_mul]
    refine V_istore_n3 X dX1_add_24 (Nat.le_of_ble_eq_true rfl) rfl ?_
    refine V_iconstE X (nI 0) dX1_add_25 (by decide +kernel) ?_
    refine V_istore_4 X dX1_add_26 (Nat.le_of_ble_eq_true rfl) rfl ?_
    refine V_loop (fun k wk lv2 => ∃ (f : Nat) (fm2 : Nat → Int32), f ≤ 4 ∧ f + k = 4 ∧ lv2 = [some (.ref 4), some (.ref 21), some (.int (nI n)), some (.int (nI (nj * 6))), some (.int (nI f))] ∧ fr [5] ws wk ∧ wk[5]? = some (iA 30 fm2) ∧ (∀ i, i < nj * 6 → fm2 i = fm i) ∧ ∀ i, i < f → fm2 (nj * 6 + i) = markI n (judgeOf n np pg) i) 4 ⟨0, fm, by omega, by omega, rfl, fr.rfl, h4, fun i hi => rfl, fun i hi => absurd hi (by omega)⟩ ?_
    rintro k wk _ ⟨f, fm2, hf, hfk, rfl, hfr, e5, e6, e7⟩ ih
    have y4 := hfr.get (by decide) h1
    have y21 := hfr.get (by decide) z21
    have hRk := hR1.fr hfr (by decide) (by decide)
    refine V_iload_4 X dX1_add_28 ?_
    refine V_iconstE X (nI 4) dX1_add_30 (by decide +kernel) ?_
    refine V_icmp_ge X 68 dX1_add_31 (by decide) (fun h6 => ?_) (fun h6 => ?_)
    · have e9 : f = 4 := by have := (nI_leI (a := 4) (b := f) (by omega) (by omega)).mp h6; omega
      subst e9
      have last : ∀ (wz : List CE) (fm3 : Nat → Int32), fr [5] ws wz → wz[5]? = some (iA 30 fm3) → (∀ i, i < nj * 6 → fm3 i = fm i) → (∀ i, i < 5 → fm3 (nj * 6 + i) = markI n (judgeOf n np pg) i) → V p l e (rmm 6 0 0) s m args below meth c 0 0 (MQ below (QQ G A (pI ad (fun r ws2 => r = nI nj ∧ MarksAt ws2 n (nj + 1) (upJ Js nj (judgeOf n np pg)) ∧ BitsAt ws2 n (nj + 1) (upJ Js nj (judgeOf n np pg)) ∧ fr [4, 5, 6, 7, 8] ws ws2))) args s 0 0 A) G A 5 ad wz 100 [some (.ref 4), some (.ref 21), some (.int (nI n)), some (.int (nI (nj * 6))), some (.int (nI 4))] [] := by
        intro wz fm3 hfz z5 z6 z7
        have x4 := hfz.get (by decide) h1
        have x21 := hfz.get (by decide) z21
        have hRz := hR1.fr hfz (by decide) (by decide)
        have fin : ∀ v : Int32, v = markI n (judgeOf n np pg) 5 → V p l e (rmm 6 0 0) s m args below meth c 0 0 (MQ below (QQ G A (pI ad (fun r ws2 => r = nI nj ∧ MarksAt ws2 n (nj + 1) (upJ Js nj (judgeOf n np pg)) ∧ BitsAt ws2 n (nj + 1) (upJ Js nj (judgeOf n np pg)) ∧ fr [4, 5, 6, 7, 8] ws ws2))) args s 0 0 A) G A 5 ad wz 121 [some (.ref 4), some (.ref 21), some (.int (nI n)), some (.int (nI (nj * 6))), some (.int (nI 4))] [.int v, .int (nI (nj * 6 + 5)), .ref 5] := by
          intro v hv
          refine V_iast X (nj * 6 + 5) dX1_add_121 (by assumption) rfl (by omega) (by omega) ?_
          have a4 := gne (k := 5) (e2 := iA 30 (upd fm3 (nj * 6 + 5) v)) (by decide) x4
          have a5 := gset (e2 := iA 30 (upd fm3 (nj * 6 + 5) v)) z5
          have hfa : fr [4, 5, 6, 7, 8] ws (wz.set 5 (iA 30 (upd fm3 (nj * 6 + 5) v))) := (hfz.mono (by decide)).set (by decide)
          have hfa5 : fr [5] ws (wz.set 5 (iA 30 (upd fm3 (nj * 6 + 5) v))) := hfz.set (by decide)
          generalize hwa : wz.set 5 (iA 30 (upd fm3 (nj * 6 + 5) v)) = wa at a4 a5 hfa hfa5 ⊢
          refine V_aload_n0 X dX1_add_122 ?_
          refine V_dup X dX1_add_123 rfl ?_
          refine V_getf X dX1_add_124 fX1_24 (by assumption) (by rfl) ?_
          refine V_iconstE X (nI 1) dX1_add_127 (by decide +kernel) ?_
          refine V_iadd X dX1_add_128 ?_
          rw [nI_add]
          refine V_putf X dX1_add_129 fX1_24 (by assumption) (Nat.le_of_ble_eq_true rfl) rfl rfl ?_
          refine V_eqW (ws2 := wa.set 4 (BObj (nj + 1))) rfl ?_
          have hMn : MarksAt (wa.set 4 (BObj (nj + 1))) n (nj + 1) (upJ Js nj (judgeOf n np pg)) := by
            refine ⟨gset a4, by omega, fun j hj => ?_, _, gne (by decide) a5, fun j hj w hw => ?_⟩
            · by_cases q9 : j = nj
              · rw [q9, upJ_eq]
                refine ⟨fun f hf => ?_, ?_⟩
                · have := t2 f hf; show pg f - 48 < 10; omega
                · show (if n < np ∧ pg n = 43 then pg (n + 1) - 48 else 0) < 10
                  split
                  · next hh => have := t3 hh; omega
                  · omega
              · rw [upJ_lt (by omega)]; exact h3 j (by omega)
            · by_cases q9 : j = nj
              · rw [q9, upJ_eq]
                by_cases q8 : w = 5
                · rw [q8, pk_us]; exact hv
                · rw [pk_un (by omega)]; exact z7 w (by omega)
              · rw [upJ_lt (by omega), pk_un (by omega), z6 _ (by omega)]
                exact h5 j (by omega) w hw
          have hf4 : fr [4, 5] ws (wa.set 4 (BObj (nj + 1))) := (hfa5.mono (by decide)).set (by decide)
          have hBn : BitsAt (wa.set 4 (BObj (nj + 1))) n nj (upJ Js nj (judgeOf n np pg)) := (hB.fr hf4 (by decide) (by decide) (by decide)).up _
          have hLn : LooksAt (wa.set 4 (BObj (nj + 1))) n K := hL.fr hf4 (by decide)
          have hfb : fr [4, 5, 6, 7, 8] ws (wa.set 4 (BObj (nj + 1))) := hf4.mono (by decide)
          generalize wa.set 4 (BObj (nj + 1)) = wb at hMn hBn hLn hfb ⊢
          have b4 := hMn.1
          refine V_aload_n0 X dX1_add_132 ?_
          refine V_aload_n0 X dX1_add_133 ?_
          refine V_getf X dX1_add_134 fX1_24 (by assumption) (by rfl) ?_
          refine V_iconstE X (nI 1) dX1_add_137 (by decide +kernel) ?_
          refine V_isub X dX1_add_138 ?_
          rw [pk_sub (by omega), Nat.add_sub_cancel]
          refine V_cV1V X dX1_add_139 kX1_58 (t_noteBits l G ad wb n nj K (upJ Js nj (judgeOf n np pg)) hLn hMn hBn) (by assumption) (by rfl) (Nat.le_of_ble_eq_true rfl) ⟨⟨Nat.le_of_ble_eq_true rfl, Nat.le_of_ble_eq_true rfl⟩, Nat.le_of_ble_eq_true rfl, Nat.le_of_ble_eq_true rfl⟩ (fun ws2 hc => ?_)
          obtain ⟨hB5, hf5⟩ := hc
          have hM5 := hMn.fr hf5 (by decide) (by decide)
          have c4 := hM5.1
          refine V_aload_n0 X dX1_add_142 ?_
          refine V_getf X dX1_add_143 fX1_24 (by assumption) (by rfl) ?_
          refine V_iconstE X (nI 1) dX1_add_146 (by decide +kernel) ?_
          refine V_isub X dX1_add_147 ?_
          rw [pk_sub (by omega), Nat.add_sub_cancel]
          exact V_iret X dX1_add_148 ⟨rfl, hM5, hB5, hfb.trans (hf5.mono (by decide))⟩
        have hx := hpg (np - 1) (by omega)
        refine V_aload_n0 X dX1_add_100 ?_
        refine V_getf X dX1_add_101 fX1_9 (by assumption) (by rfl) ?_
        refine V_iload_n3 X dX1_add_104 ?_
        refine V_iconstE X (nI 5) dX1_add_105 (by decide +kernel) ?_
        refine V_iadd X dX1_add_106 ?_
        rw [nI_add]
        refine V_aload_n1 X dX1_add_107 ?_
        refine V_cV0I X dX1_add_108 kX1_55 (t_Rlast l G ad wz 21 22 10 np fp hRz (by omega)) (by assumption) (by rfl) (Nat.le_of_ble_eq_true rfl) ⟨⟨Nat.le_of_ble_eq_true rfl, Nat.le_of_ble_eq_true rfl⟩, Nat.le_of_ble_eq_true rfl, Nat.le_of_ble_eq_true rfl⟩ (fun r ws2 hc => ?_)
        obtain ⟨rfl, hw9⟩ := hc
        obtain rfl := hw9.symm
        rw [hR2 _ (by omega)]
        refine V_bipushE X (nI 33) dX1_add_111 (by decide +kernel) ?_
        refine V_icmp_ne X 120 dX1_add_113 (by decide) (fun h8 => ?_) (fun h8 => ?_)
        · have e11 : ¬ pg (np - 1) = 33 := fun q9 => h8 (by rw [q9])
          refine V_iconstE X (nI 0) dX1_add_120 (by decide +kernel) ?_
          exact fin _ (by simp [markI, judgeOf, e11])
        · have e11 : pg (np - 1) = 33 := (nI_eq (b := 33) (by omega) (by omega)).mp h8
          refine V_iconstE X (nI 1) dX1_add_116 (by decide +kernel) ?_
          refine V_goto X 121 dX1_add_117 (by decide) ?_
          exact fin _ (by simp [markI, judgeOf, e11])
      have put4 : ∀ v : Int32, v = markI n (judgeOf n np pg) 4 → V p l e (rmm 6 0 0) s m args below meth c 0 0 (MQ below (QQ G A (pI ad (fun r ws2 => r = nI nj ∧ MarksAt ws2 n (nj + 1) (upJ Js nj (judgeOf n np pg)) ∧ BitsAt ws2 n (nj + 1) (upJ Js nj (judgeOf n np pg)) ∧ fr [4, 5, 6, 7, 8] ws ws2))) args s 0 0 A) G A 5 ad wk 99 [some (.ref 4), some (.ref 21), some (.int (nI n)), some (.int (nI (nj * 6))), some (.int (nI 4))] [.int v, .int (nI (nj * 6 + 4)), .ref 5] := by
        intro v hv
        refine V_iast X (nj * 6 + 4) dX1_add_99 (by assumption) rfl (by omega) (by omega) ?_
        refine last _ _ (hfr.set (by decide)) (gset e5) (fun i hi => by rw [pk_un (by omega)]; exact e6 i hi) (fun i hi => ?_)
        by_cases q9 : i = 4
        · rw [q9, pk_us]; exact hv
        · rw [pk_un (by omega)]; exact e7 i (by omega)
      refine V_aload_n0 X dX1_add_68 ?_
      refine V_getf X dX1_add_69 fX1_9 (by assumption) (by rfl) ?_
      refine V_iload_n3 X dX1_add_72 ?_
      refine V_iconstE X (nI 4) dX1_add_73 (by decide +kernel) ?_
      refine V_iadd X dX1_add_74 ?_
      rw [nI_add]
      refine V_aload_n1 X dX1_add_75 ?_
      refine V_iload_n2 X dX1_add_76 ?_
      refine V_cV1I X dX1_add_77 kX1_49 (t_Rget l G ad wk 21 22 10 np fp hRk _) (by assumption) (by rfl) (Nat.le_of_ble_eq_true rfl) ⟨⟨Nat.le_of_ble_eq_true rfl, Nat.le_of_ble_eq_true rfl⟩, Nat.le_of_ble_eq_true rfl, Nat.le_of_ble_eq_true rfl⟩ (fun r ws2 hc => ?_)
      obtain ⟨rfl, hw9⟩ := hc
      obtain rfl := hw9.symm
      refine V_bipushE X (nI 43) dX1_add_80 (by decide +kernel) ?_
      by_cases q9 : n < np
      · have hx := hpg n q9
        rw [getR_nI (by omega) q9, hR2 n q9]
        refine V_icmp_ne X 98 dX1_add_82 (by decide) (fun h8 => ?_) (fun h8 => ?_)
        · have e11 : ¬ pg n = 43 := fun q8 => h8 (by rw [q8])
          refine V_iconstE X (-1) dX1_add_98 (by decide +kernel) ?_
          exact put4 _ (by simp [markI, judgeOf, e11])
        · have e11 : pg n = 43 := (nI_eq (b := 43) (by omega) (by omega)).mp h8
          have ht := t3 ⟨q9, e11⟩
          refine V_aload_n1 X dX1_add_85 ?_
          refine V_iload_n2 X dX1_add_86 ?_
          refine V_iconstE X (nI 1) dX1_add_87 (by decide +kernel) ?_
          refine V_iadd X dX1_add_88 ?_
          rw [nI_add]
          refine V_cV1I X dX1_add_89 kX1_49 (t_Rget l G ad wk 21 22 10 np fp hRk _) (by assumption) (by rfl) (Nat.le_of_ble_eq_true rfl) ⟨⟨Nat.le_of_ble_eq_true rfl, Nat.le_of_ble_eq_true rfl⟩, Nat.le_of_ble_eq_true rfl, Nat.le_of_ble_eq_true rfl⟩ (fun r ws2 hc => ?_)
          obtain ⟨rfl, hw9⟩ := hc
          obtain rfl := hw9.symm
          rw [getR_nI (by omega) ht.1, hR2 (n + 1) ht.1]
          refine V_bipushE X (nI 48) dX1_add_92 (by decide +kernel) ?_
          refine V_isub X dX1_add_94 ?_
          rw [pk_sub (by omega)]
          refine V_goto X 99 dX1_add_95 (by decide) ?_
          exact put4 _ (by have : ¬ pg (n + 1) - 48 = 0 := by omega
                           simp [markI, judgeOf, e11, q9, this])
      · rw [getR, inR_nI (by omega) (by omega), decide_eq_false q9]
        simp only [Bool.false_eq_true, if_false]
        refine V_icmp_ne X 98 dX1_add_82 (by decide) (fun h8 => ?_) (fun h8 => ?_)
        · refine V_iconstE X (-1) dX1_add_98 (by decide +kernel) ?_
          exact put4 _ (by simp [markI, judgeOf, q9])
        · exact absurd h8 (by decide +kernel)
    · have e9 : f < 4 := by
        rcases Nat.lt_or_ge f 4 with q9 | q9
        · exact q9
        · exact absurd ((nI_leI (a := 4) (b := f) (by omega) (by omega)).mpr q9) h6
      have put : ∀ v : Int32, v = markI n (judgeOf n np pg) f → V p l e (rmm 6 0 0) s m args below meth c 0 0 (MQ below (QQ G A (pI ad (fun r ws2 => r = nI nj ∧ MarksAt ws2 n (nj + 1) (upJ Js nj (judgeOf n np pg)) ∧ BitsAt ws2 n (nj + 1) (upJ Js nj (judgeOf n np pg)) ∧ fr [4, 5, 6, 7, 8] ws ws2))) args s 0 0 A) G A 5 ad wk 61 [some (.ref 4), some (.ref 21), some (.int (nI n)), some (.int (nI (nj * 6))), some (.int (nI f))] [.int v, .int (nI (nj * 6 + f)), .ref 5] := by
        intro v hv
        refine V_iast X (nj * 6 + f) dX1_add_61 (by assumption) rfl (by omega) (by omega) ?_
        refine V_iinc_4 X dX1_add_62 (Nat.le_of_ble_eq_true rfl) rfl (inc1 _) ?_
        refine V_goto X 28 dX1_add_65 (by decide) ?_
        refine ih (k - 1) _ _ (by omega) ⟨f + 1, _, by omega, by omega, rfl, hfr.set (by decide), gset e5, fun i hi => by rw [pk_un (by omega)]; exact e6 i hi, fun i hi => ?_⟩
        by_cases q9 : i = f
        · rw [q9, pk_us]; exact hv
        · rw [pk_un (by omega)]; exact e7 i (by omega)
      refine V_aload_n0 X dX1_add_34 ?_
      refine V_getf X dX1_add_35 fX1_9 (by assumption) (by rfl) ?_
      refine V_iload_n3 X dX1_add_38 ?_
      refine V_iload_4 X dX1_add_39 ?_
      refine V_iadd X dX1_add_41 ?_
      rw [nI_add]
      refine V_iload_4 X dX1_add_42 ?_
      refine V_iload_n2 X dX1_add_44 ?_
      refine V_icmp_ge X 60 dX1_add_45 (by decide) (fun h8 => ?_) (fun h8 => ?_)
      · have e10 := (nI_leI (by omega) (by omega)).mp h8
        refine V_iconstE X (-1) dX1_add_60 (by decide +kernel) ?_
        exact put _ (by unfold markI; rw [if_pos e9, if_neg (by omega)])
      · have e10 : f < n := by
          rcases Nat.lt_or_ge f n with q9 | q9
          · exact q9
          · exact absurd ((nI_leI (by omega) (by omega)).mpr q9) h8
        have ht := t2 f e10
        refine V_aload_n1 X dX1_add_48 ?_
        refine V_iload_4 X dX1_add_49 ?_
        refine V_cV1I X dX1_add_51 kX1_49 (t_Rget l G ad wk 21 22 10 np fp hRk _) (by assumption) (by rfl) (Nat.le_of_ble_eq_true rfl) ⟨⟨Nat.le_of_ble_eq_true rfl, Nat.le_of_ble_eq_true rfl⟩, Nat.le_of_ble_eq_true rfl, Nat.le_of_ble_eq_true rfl⟩ (fun r ws2 hc => ?_)
        obtain ⟨rfl, hw9⟩ := hc
        obtain rfl := hw9.symm
        rw [getR_nI (by omega) (by omega), hR2 f (by omega)]
        refine V_bipushE X (nI 48) dX1_add_54 (by decide +kernel) ?_
        refine V_isub X dX1_add_56 ?_
        rw [pk_sub (by omega)]
        refine V_goto X 61 dX1_add_57 (by decide) ?_
        exact put _ (by rw [markI_d e10 hn]; rfl)
  · exact absurd (by rw [decide_eq_false (by omega)]; decide +kernel) h
