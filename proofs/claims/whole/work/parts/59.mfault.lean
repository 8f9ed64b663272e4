/-! the reference: reading a judge -/
abbrev GS : Type := Nat × Nat × (Nat → Int32)
def goS (n : Nat) (s : GS) (c : Nat) : Bool × GS :=
  if s.2.1 = 0 ∧ s.1 < n then (decide (48 ≤ c ∧ c ≤ 57), (s.1 + 1, s.2.1, upd s.2.2 s.1 (nI c - nI 48)))
  else if s.2.1 = 1 then (decide (49 ≤ c ∧ c ≤ 57), (s.1, 2, upd s.2.2 4 (nI c - nI 48)))
  else (decide ((c = 43 ∧ s.2.1 = 0) ∨ (c = 33 ∧ s.2.1 ≠ 3)), (s.1, if c = 43 then 1 else 3, upd s.2.2 5 (if c = 33 then nI 1 else s.2.2 5)))
def runG (n np : Nat) (pg : Nat → Nat) : Nat → Nat → GS → Nat × GS
  | 0, k, s => (k, s)
  | f + 1, k, s => if k < np then (if (goS n s (pg k)).1 then runG n np pg f (k + 1) (goS n s (pg k)).2 else (k, (goS n s (pg k)).2)) else (k, s)
def rr0 : Nat → Int32 := fun k => if k < 5 then (-1) else nI 0
def faultM (n np : Nat) (pg : Nat → Nat) : Nat × GS := runG n np pg 11 0 (0, 0, rr0)
def QI (ws : List CE) (rr : Nat → Int32) : Prop := ∃ f : Nat → Int32, ws[35]? = some (iA 6 f) ∧ ∀ i, i < 6 → f i = rr i
theorem QI_put {ws : List CE} {f rr : Nat → Int32} (h1 : ws[35]? = some (iA 6 f)) (h2 : ∀ i, i < 6 → f i = rr i) (j : Nat) (x : Int32) : QI (ws.set 35 (iA 6 (upd f j x))) (upd rr j x) := by
  refine ⟨_, gset h1, fun i hi => ?_⟩
  by_cases e : i = j
  · subst e; rw [pk_us, pk_us]
  · rw [pk_un e, pk_un e]; exact h2 i hi
theorem inL_dig (c : Nat) (hc : c < 256) : inL (nI c - nI 48).toInt64 (lN 0) 9 = decide (48 ≤ c ∧ c ≤ 57) := by
  rw [inL_int, Int32.toInt_toInt64, pk_sub_toInt (by omega) (by decide), pk_lT (by decide)]
  congr 1
  apply propext
  have : (9 : Int64).toInt = 9 := by decide +kernel
  rw [this]
  constructor <;> intro h <;> omega
theorem inL_dig1 (c : Nat) (hc : c < 256) : inL (nI c - nI 48).toInt64 (lN 1) 9 = decide (49 ≤ c ∧ c ≤ 57) := by
  rw [inL_int, Int32.toInt_toInt64, pk_sub_toInt (by omega) (by decide), pk_lT (by decide)]
  congr 1
  apply propext
  have : (9 : Int64).toInt = 9 := by decide +kernel
  rw [this]
  constructor <;> intro h <;> omega
set_option maxHeartbeats 2000000 in
theorem m_go (l : Launch) (G : GX) (ad : Nat → Nat) (ws : List CE) {n mm np : Nat} {rm sa : Int32} {nj tr : Nat} {sd : Int32} {pn hn : Nat} {kl kp kh : Int32} {hs : Int64} (hO : ws[29]? = some (MO n mm np rm sa nj tr sd pn hn kl kp kh hs)) (h4 : n ≤ 4) (r0 st0 : Nat) (rr : Nat → Int32) (hrm : rm = nI r0) (hsa : sa = nI st0) (hr4 : r0 ≤ 4) (hs3 : st0 ≤ 3) (hQ : QI ws rr) (c0 : Nat) (hc0 : c0 < 256) : Ct l G yX12_go cX12_go 4 (some .boolean) 1 0 0 ad ws [.ref 29, .int (nI c0)] (pI ad (fun r ws2 => r = bI (goS n (r0, st0, rr) c0).1 ∧ ws2[29]? = some (MO n mm np (nI (goS n (r0, st0, rr) c0).2.1) (nI (goS n (r0, st0, rr) c0).2.2.1) nj tr sd pn hn kl kp kh hs) ∧ QI ws2 (goS n (r0, st0, rr) c0).2.2.2 ∧ fr [29, 35] ws ws2)) := by
  refine Ct.of [some (.ref 29), some (.int (nI c0)), none, none] (by decide +kernel) (Nat.le_of_ble_eq_true rfl) rfl ?_
  intro p e s m args below meth c A X
  subst hrm
  subst hsa
  obtain ⟨f, hf1, hf2⟩ := hQ
  refine V_iload_n1 X dX12_go_0 ?_
  refine V_bipushE X (nI 48) dX12_go_1 (by decide +kernel) ?_
  refine V_isub X dX12_go_3 ?_
  refine V_istore_n2 X dX12_go_4 (Nat.le_of_ble_eq_true rfl) rfl ?_
  refine V_aload_n0 X dX12_go_5 ?_
  refine V_getf X dX12_go_6 fX12_142 (by assumption) (by rfl) ?_
  have rest : ¬ (st0 = 0 ∧ r0 < n) → V p l e (rmm 1 0 0) s m args below meth c 0 0 (MQ below (QQ G A (pI ad (fun r ws2 => r = bI (goS n (r0, st0, rr) c0).1 ∧ ws2[29]? = some (MO n mm np (nI (goS n (r0, st0, rr) c0).2.1) (nI (goS n (r0, st0, rr) c0).2.2.1) nj tr sd pn hn kl kp kh hs) ∧ QI ws2 (goS n (r0, st0, rr) c0).2.2.2 ∧ fr [29, 35] ws ws2))) args s 0 0 A) G A 4 ad ws 53 [some (.ref 29), some (.int (nI c0)), some (.int (nI c0 - nI 48)), none] [] := by
    intro hn1
    refine V_aload_n0 X dX12_go_53 ?_
    refine V_getf X dX12_go_54 fX12_142 (by assumption) (by rfl) ?_
    refine V_iconstE X (nI 1) dX12_go_57 (by decide +kernel) ?_
    refine V_icmp_ne X 83 dX12_go_58 (by decide) (fun h => ?_) (fun h => ?_)
    · have e9 := c_ne h
      have eg : goS n (r0, st0, rr) c0 = (decide ((c0 = 43 ∧ st0 = 0) ∨ (c0 = 33 ∧ st0 ≠ 3)), (r0, if c0 = 43 then 1 else 3, upd rr 5 (if c0 = 33 then nI 1 else rr 5))) := by
        rw [goS, if_neg hn1, if_neg e9]
      rw [eg]
      have tail2 : ∀ (b : Bool), b = decide ((c0 = 43 ∧ st0 = 0) ∨ (c0 = 33 ∧ st0 ≠ 3)) → ∀ x : Int32, x = (if c0 = 33 then nI 1 else rr 5) → V p l e (rmm 1 0 0) s m args below meth c 0 0 (MQ below (QQ G A (pI ad (fun r ws2 => r = bI (goS n (r0, st0, rr) c0).1 ∧ ws2[29]? = some (MO n mm np (nI (goS n (r0, st0, rr) c0).2.1) (nI (goS n (r0, st0, rr) c0).2.2.1) nj tr sd pn hn kl kp kh hs) ∧ QI ws2 (goS n (r0, st0, rr) c0).2.2.2 ∧ fr [29, 35] ws ws2))) args s 0 0 A) G A 4 ad ws 137 [some (.ref 29), some (.int (nI c0)), some (.int (nI c0 - nI 48)), some (.int (bI b))] [.int x, .int (nI 5), .ref 35] := by
        intro b hb x hx
        rw [eg]
        refine V_iast X 5 dX12_go_137 (by assumption) rfl (by decide) (by omega) ?_
        have hO2 := gne (k := 35) (e2 := iA 6 (upd f 5 x)) (by decide) hO
        have hQ2 := QI_put hf1 hf2 5 x
        have hfa : fr [29, 35] ws (ws.set 35 (iA 6 (upd f 5 x))) := fr.rfl.set (by decide)
        generalize ws.set 35 (iA 6 (upd f 5 x)) = wa at hO2 hQ2 hfa ⊢
        have fin : ∀ z : Nat, z = (if c0 = 43 then 1 else 3) → V p l e (rmm 1 0 0) s m args below meth c 0 0 (MQ below (QQ G A (pI ad (fun r ws2 => r = bI (goS n (r0, st0, rr) c0).1 ∧ ws2[29]? = some (MO n mm np (nI (goS n (r0, st0, rr) c0).2.1) (nI (goS n (r0, st0, rr) c0).2.2.1) nj tr sd pn hn kl kp kh hs) ∧ QI ws2 (goS n (r0, st0, rr) c0).2.2.2 ∧ fr [29, 35] ws ws2))) args s 0 0 A) G A 4 ad wa 150 [some (.ref 29), some (.int (nI c0)), some (.int (nI c0 - nI 48)), some (.int (bI b))] [.int (nI z), .ref 29] := by
          intro z hz
          rw [eg]
          refine V_putf X dX12_go_150 fX12_142 (by assumption) (Nat.le_of_ble_eq_true rfl) rfl rfl ?_
          refine V_iload_n3 X dX12_go_153 ?_
          have hfb : fr [29] wa (wa.set 29 (MO n mm np (nI r0) (nI z) nj tr sd pn hn kl kp kh hs)) := fr.rfl.set (by decide)
          obtain ⟨fq, hq1, hq2⟩ := hQ2
          refine V_zret X dX12_go_154 (nb_bI _) ⟨by rw [hb], ?_, ⟨fq, hfb.get (by decide) hq1, by rw [← hx]; exact hq2⟩, hfa.trans (hfb.mono (by decide))⟩
          rw [hz]
          exact gset hO2
        rw [eg] at fin
        refine V_aload_n0 X dX12_go_138 ?_
        refine V_iload_n1 X dX12_go_139 ?_
        refine V_bipushE X (nI 43) dX12_go_140 (by decide +kernel) ?_
        refine V_icmp_ne X 149 dX12_go_142 (by decide) (fun g1 => ?_) (fun g1 => ?_)
        · have e1 := c_ne g1
          refine V_iconstE X (nI 3) dX12_go_149 (by decide +kernel) ?_
          exact fin 3 (by rw [if_neg e1])
        · have e1 := c_eq g1
          refine V_iconstE X (nI 1) dX12_go_145 (by decide +kernel) ?_
          refine V_goto X 150 dX12_go_146 (by decide) ?_
          exact fin 1 (by rw [if_pos e1])
      rw [eg] at tail2
      have tail : ∀ (b : Bool), b = decide ((c0 = 43 ∧ st0 = 0) ∨ (c0 = 33 ∧ st0 ≠ 3)) → V p l e (rmm 1 0 0) s m args below meth c 0 0 (MQ below (QQ G A (pI ad (fun r ws2 => r = bI (goS n (r0, st0, rr) c0).1 ∧ ws2[29]? = some (MO n mm np (nI (goS n (r0, st0, rr) c0).2.1) (nI (goS n (r0, st0, rr) c0).2.2.1) nj tr sd pn hn kl kp kh hs) ∧ QI ws2 (goS n (r0, st0, rr) c0).2.2.2 ∧ fr [29, 35] ws ws2))) args s 0 0 A) G A 4 ad ws 115 [some (.ref 29), some (.int (nI c0)), some (.int (nI c0 - nI 48)), none] [.int (bI b)] := by
        intro b hb
        rw [eg]
        refine V_istore_n3 X dX12_go_115 (Nat.le_of_ble_eq_true rfl) rfl ?_
        refine V_aload_n0 X dX12_go_116 ?_
        refine V_getf X dX12_go_117 fX12_25 (by assumption) (by rfl) ?_
        refine V_iconstE X (nI 5) dX12_go_120 (by decide +kernel) ?_
        refine V_iload_n1 X dX12_go_121 ?_
        refine V_bipushE X (nI 33) dX12_go_122 (by decide +kernel) ?_
        refine V_icmp_ne X 131 dX12_go_124 (by decide) (fun g1 => ?_) (fun g1 => ?_)
        · have e1 := c_ne g1
          refine V_aload_n0 X dX12_go_131 ?_
          refine V_getf X dX12_go_132 fX12_25 (by assumption) (by rfl) ?_
          refine V_iconstE X (nI 5) dX12_go_135 (by decide +kernel) ?_
          refine V_iald X 5 dX12_go_136 (by assumption) rfl (by decide) (by omega) ?_
          exact tail2 b hb _ (by rw [if_neg e1]; exact hf2 5 (by decide))
        · have e1 := c_eq g1
          refine V_iconstE X (nI 1) dX12_go_127 (by decide +kernel) ?_
          refine V_goto X 137 dX12_go_128 (by decide) ?_
          exact tail2 b hb _ (by rw [if_pos e1])
      rw [eg] at tail
      have t33 : ¬ (c0 = 43 ∧ st0 = 0) → V p l e (rmm 1 0 0) s m args below meth c 0 0 (MQ below (QQ G A (pI ad (fun r ws2 => r = bI (goS n (r0, st0, rr) c0).1 ∧ ws2[29]? = some (MO n mm np (nI (goS n (r0, st0, rr) c0).2.1) (nI (goS n (r0, st0, rr) c0).2.2.1) nj tr sd pn hn kl kp kh hs) ∧ QI ws2 (goS n (r0, st0, rr) c0).2.2.2 ∧ fr [29, 35] ws ws2))) args s 0 0 A) G A 4 ad ws 96 [some (.ref 29), some (.int (nI c0)), some (.int (nI c0 - nI 48)), none] [] := by
        intro hz
        rw [eg]
        refine V_iload_n1 X dX12_go_96 ?_
        refine V_bipushE X (nI 33) dX12_go_97 (by decide +kernel) ?_
        refine V_icmp_ne X 114 dX12_go_99 (by decide) (fun g1 => ?_) (fun g1 => ?_)
        · have e1 := c_ne g1
          refine V_iconstE X (nI 0) dX12_go_114 (by decide +kernel) ?_
          exact tail false (by rw [decide_eq_false (by omega)])
        · have e1 := c_eq g1
          refine V_aload_n0 X dX12_go_102 ?_
          refine V_getf X dX12_go_103 fX12_142 (by assumption) (by rfl) ?_
          refine V_iconstE X (nI 3) dX12_go_106 (by decide +kernel) ?_
          refine V_icmp_eq X 114 dX12_go_107 (by decide) (fun g2 => ?_) (fun g2 => ?_)
          · have e2 := c_eq g2
            refine V_iconstE X (nI 0) dX12_go_114 (by decide +kernel) ?_
            exact tail false (by rw [decide_eq_false (by omega)])
          · have e2 := c_ne g2
            refine V_iconstE X (nI 1) dX12_go_110 (by decide +kernel) ?_
            refine V_goto X 115 dX12_go_111 (by decide) ?_
            exact tail true (by rw [decide_eq_true (Or.inr ⟨e1, e2⟩)])
      rw [eg] at t33
      refine V_iload_n1 X dX12_go_83 ?_
      refine V_bipushE X (nI 43) dX12_go_84 (by decide +kernel) ?_
      refine V_icmp_ne X 96 dX12_go_86 (by decide) (fun g1 => ?_) (fun g1 => ?_)
      · have e1 := c_ne g1
        exact t33 (fun q => e1 q.1)
      · have e1 := c_eq g1
        refine V_aload_n0 X dX12_go_89 ?_
        refine V_getf X dX12_go_90 fX12_142 (by assumption) (by rfl) ?_
        refine V_if_eq X 110 dX12_go_93 (by decide) (fun g2 => ?_) (fun g2 => ?_)
        · have e2 := c_eq0 g2
          refine V_iconstE X (nI 1) dX12_go_110 (by decide +kernel) ?_
          refine V_goto X 115 dX12_go_111 (by decide) ?_
          exact tail true (by rw [decide_eq_true (Or.inl ⟨e1, e2⟩)])
        · have e2 := c_ne0 g2
          exact t33 (fun q => by omega)
    · have e9 := c_eq h
      have eg : goS n (r0, st0, rr) c0 = (decide (49 ≤ c0 ∧ c0 ≤ 57), (r0, 2, upd rr 4 (nI c0 - nI 48))) := by
        rw [goS, if_neg hn1, if_pos e9]
      rw [eg]
      refine V_aload_n0 X dX12_go_61 ?_
      refine V_getf X dX12_go_62 fX12_25 (by assumption) (by rfl) ?_
      refine V_iconstE X (nI 4) dX12_go_65 (by decide +kernel) ?_
      refine V_iload_n2 X dX12_go_66 ?_
      refine V_iast X 4 dX12_go_67 (by assumption) rfl (by decide) (by omega) ?_
      have hO2 := gne (k := 35) (e2 := iA 6 (upd f 4 (nI c0 - nI 48))) (by decide) hO
      have hQ2 := QI_put hf1 hf2 4 (nI c0 - nI 48)
      have hfa : fr [29, 35] ws (ws.set 35 (iA 6 (upd f 4 (nI c0 - nI 48)))) := fr.rfl.set (by decide)
      generalize ws.set 35 (iA 6 (upd f 4 (nI c0 - nI 48))) = wa at hO2 hQ2 hfa ⊢
      refine V_aload_n0 X dX12_go_68 ?_
      refine V_iconstE X (nI 2) dX12_go_69 (by decide +kernel) ?_
      refine V_putf X dX12_go_70 fX12_142 (by assumption) (Nat.le_of_ble_eq_true rfl) rfl rfl ?_
      refine V_iload_n2 X dX12_go_73 ?_
      refine V_i2l X dX12_go_74 ?_
      refine V_lconstE X (lN 1) dX12_go_75 (by decide +kernel) ?_
      refine V_ldc2 X dX12_go_76 w_899 ?_
      refine V_cS3I X dX12_go_79 kX12_68 (m_in l G ad _ _ _ _) (Nat.le_of_ble_eq_true rfl) ⟨⟨Nat.le_of_ble_eq_true rfl, Nat.le_of_ble_eq_true rfl⟩, Nat.le_of_ble_eq_true rfl, Nat.le_of_ble_eq_true rfl⟩ (fun r ws2 hc => ?_)
      obtain ⟨rfl, hw9⟩ := hc
      obtain rfl := hw9.symm
      rw [inL_dig1 c0 hc0]
      have hfb : fr [29] wa (wa.set 29 (MO n mm np (nI r0) (nI 2) nj tr sd pn hn kl kp kh hs)) := fr.rfl.set (by decide)
      obtain ⟨fq, hq1, hq2⟩ := hQ2
      exact V_zret X dX12_go_82 (nb_bI _) ⟨rfl, gset hO2, ⟨fq, hfb.get (by decide) hq1, hq2⟩, hfa.trans (hfb.mono (by decide))⟩
  refine V_if_ne X 53 dX12_go_9 (by decide) (fun h => ?_) (fun h => ?_)
  · have e9 := c_ne0 h
    exact rest (fun q => by omega)
  · have e9 := c_eq0 h
    refine V_aload_n0 X dX12_go_12 ?_
    refine V_getf X dX12_go_13 fX12_145 (by assumption) (by rfl) ?_
    refine V_aload_n0 X dX12_go_16 ?_
    refine V_getf X dX12_go_17 fX12_65 (by assumption) (by rfl) ?_
    refine V_icmp_ge X 53 dX12_go_20 (by decide) (fun h2 => ?_) (fun h2 => ?_)
    · have e8 := c_le h2
      exact rest (fun q => by omega)
    · have e8 := c_nle h2
      have eg : goS n (r0, st0, rr) c0 = (decide (48 ≤ c0 ∧ c0 ≤ 57), (r0 + 1, st0, upd rr r0 (nI c0 - nI 48))) := by
        rw [goS, if_pos ⟨e9, e8⟩]
      rw [eg]
      clear rest
      refine V_aload_n0 X dX12_go_23 ?_
      refine V_getf X dX12_go_24 fX12_25 (by assumption) (by rfl) ?_
      refine V_aload_n0 X dX12_go_27 ?_
      refine V_getf X dX12_go_28 fX12_145 (by assumption) (by rfl) ?_
      refine V_iload_n2 X dX12_go_31 ?_
      refine V_iast X r0 dX12_go_32 (by assumption) rfl (by omega) (by omega) ?_
      have hO2 := gne (k := 35) (e2 := iA 6 (upd f r0 (nI c0 - nI 48))) (by decide) hO
      have hQ2 := QI_put hf1 hf2 r0 (nI c0 - nI 48)
      have hfa : fr [29, 35] ws (ws.set 35 (iA 6 (upd f r0 (nI c0 - nI 48)))) := fr.rfl.set (by decide)
      generalize ws.set 35 (iA 6 (upd f r0 (nI c0 - nI 48))) = wa at hO2 hQ2 hfa ⊢
      refine V_aload_n0 X dX12_go_33 ?_
      refine V_dup X dX12_go_34 rfl ?_
      refine V_getf X dX12_go_35 fX12_145 (by assumption) (by rfl) ?_
      refine V_iconstE X (nI 1) dX12_go_38 (by decide +kernel) ?_
      refine V_iadd X dX12_go_39 ?_
      refine V_putf X dX12_go_40 fX12_145 (by assumption) (Nat.le_of_ble_eq_true rfl) rfl rfl ?_
      refine V_iload_n2 X dX12_go_43 ?_
      refine V_i2l X dX12_go_44 ?_
      refine V_lconstE X (lN 0) dX12_go_45 (by decide +kernel) ?_
      refine V_ldc2 X dX12_go_46 w_899 ?_
      refine V_cS3I X dX12_go_49 kX12_68 (m_in l G ad _ _ _ _) (Nat.le_of_ble_eq_true rfl) ⟨⟨Nat.le_of_ble_eq_true rfl, Nat.le_of_ble_eq_true rfl⟩, Nat.le_of_ble_eq_true rfl, Nat.le_of_ble_eq_true rfl⟩ (fun r ws2 hc => ?_)
      obtain ⟨rfl, hw9⟩ := hc
      obtain rfl := hw9.symm
      rw [inL_dig c0 hc0]
      have hfb : fr [29] wa (wa.set 29 (MO n mm np (nI r0 + nI 1) (nI st0) nj tr sd pn hn kl kp kh hs)) := fr.rfl.set (by decide)
      obtain ⟨fq, hq1, hq2⟩ := hQ2
      refine V_zret X dX12_go_52 (nb_bI _) ⟨rfl, ?_, ⟨fq, hfb.get (by decide) hq1, hq2⟩, hfa.trans (hfb.mono (by decide))⟩
      rw [← nI_add]
      exact gset hO2
