/-! the reference: truth -/
theorem runT_lt {n : Nat} {K : Nat → Nat} {nj : Nat} {Js : Nat → JD} : ∀ {k y kg : Nat} {L : List Nat} {z : Nat}, runT n K nj Js k y kg L = some z → y ≤ z ∧ z < y + k
  | 0, y, kg, L, z, h => by cases h
  | k + 1, y, kg, L, z, h => by
    rw [runT] at h
    split at h
    · cases h
    · split at h
      · cases h; omega
      · have := runT_lt h
        omega
def bestA (n : Nat) (K : Nat → Nat) (nj : Nat) (Js : Nat → JD) (kg la : Nat) : Nat → Option (Nat × Nat)
  | 0 => none
  | a + 1 => match truthT n K nj Js kg la a with
    | none => bestA n K nj Js kg la a
    | some y => match bestA n K nj Js kg la a with
      | none => some (y, a)
      | some q => if y < q.1 then some (y, a) else some q
def bsI (o : Option (Nat × Nat)) : Int32 := match o with
  | none => nI 1000000
  | some q => nI q.1
def bfI (o : Option (Nat × Nat)) : Int32 := match o with
  | none => (-1)
  | some q => nI q.2
theorem truthT_lt {n : Nat} {K : Nat → Nat} {nj : Nat} {Js : Nat → JD} {kg la a y : Nat} (h : truthT n K nj Js kg la a = some y) : 1 ≤ y ∧ y < 13 := runT_lt h
theorem bestA_lt {n : Nat} {K : Nat → Nat} {nj : Nat} {Js : Nat → JD} {kg la : Nat} : ∀ {a : Nat} {q : Nat × Nat}, bestA n K nj Js kg la a = some q → q.1 < 13 ∧ q.2 < a
  | 0, q, h => by cases h
  | a + 1, q, h => by
    rw [bestA] at h
    cases ht : truthT n K nj Js kg la a with
    | none =>
      rw [ht] at h
      have := bestA_lt h
      exact ⟨this.1, by omega⟩
    | some y =>
      rw [ht] at h
      have h1 := truthT_lt ht
      simp only at h
      cases hb : bestA n K nj Js kg la a with
      | none =>
        rw [hb] at h
        cases h
        exact ⟨h1.2, by show a < a + 1; omega⟩
      | some q2 =>
        rw [hb] at h
        simp only at h
        have h2 := bestA_lt hb
        split at h
        · cases h
          exact ⟨h1.2, by show a < a + 1; omega⟩
        · cases h
          exact ⟨h2.1, by omega⟩
def R_pair (n : Nat) (K : Nat → Nat) (nj : Nat) (Js : Nat → JD) (la kg : Nat) : Int32 × Int32 := if kg = la then (nI 0, (-1)) else match bestA n K nj Js kg la (n + 1) with
  | none => ((-1), (-1))
  | some q => (nI q.1, if q.2 = n then (-1) else nI q.2)
def R_truth (n : Nat) (K : Nat → Nat) (mm kg nj : Nat) (Js : Nat → JD) (Ln : Nat → Nat) (tr : Nat) (x : Int32) : Int32 := if mm = 0 then (-103) else if x = 0 ∨ x = nI 1 then (if tr < 30 then (if x = 0 then (R_pair n K nj Js (Ln (mm - 1)) kg).1 else (R_pair n K nj Js (Ln (mm - 1)) kg).2) else (-103)) else (-102)
theorem inL_01 (x : Int32) : inL x.toInt64 (lN 0) (lN 1) = decide (x = 0 ∨ x = nI 1) := by
  rw [inL_k (n := 2) (by decide) (by decide +kernel)]
  by_cases h : inR 2 x = true
  · obtain ⟨t, ht, rfl⟩ := inR_of (by decide) h
    rw [h]
    rcases (show t = 0 ∨ t = 1 by omega) with rfl | rfl
    · decide +kernel
    · decide +kernel
  · have h2 : inR 2 x = false := by simpa using h
    rw [h2]
    symm
    apply decide_eq_false
    rintro (rfl | rfl)
    · exact absurd h2 (by decide +kernel)
    · exact absurd h2 (by decide +kernel)
set_option maxHeartbeats 2000000 in
theorem q_truth (l : Launch) (G : GX) (ad : Nat → Nat) (ws : List CE) (n : Nat) (K : Nat → Nat) (kg mm : Nat) (Ln : Nat → Nat) (np : Nat) (pg : Nat → Nat) (nj : Nat) (Js : Nat → JD) (pn : Nat) (Pe : Nat → Nat) (hn : Nat) (U : Nat → Nat) (tr kk km kp kh rd : Nat) (hM : RM ws n K kg mm Ln np pg nj Js pn Pe hn U tr kk km kp kh rd) (hK : OKs n K kg mm Ln np pg nj Js pn Pe hn U tr kk km kp kh rd) (x : Int32) : Ct l G yX12_truth cX12_truth 6 (some .int) 9 0 0 ad ws [.ref 29, .int x] (pI ad (fun r ws2 => r = R_truth n K mm kg nj Js Ln tr x ∧ (okTruth mm tr x → RM ws2 n K kg mm Ln np pg nj Js pn Pe hn U (tr + 1) kk km kp kh rd) ∧ (¬ okTruth mm tr x → RM ws2 n K kg mm Ln np pg nj Js pn Pe hn U tr kk km kp kh rd) ∧ fr ref18 ws ws2)) := by
  refine Ct.of [some (.ref 29), some (.int x), none, none, none, none] (by decide +kernel) (Nat.le_of_ble_eq_true rfl) rfl ?_
  intro p e s m args below meth c A X
  have hM0 := hM
  obtain ⟨⟨rm, sa, sd, hs, hO⟩, hJ, ⟨h60, h10, hp6, hh6⟩, hl, hpg, hPe, hU, hkk, hkl, hkp, hkh, hscr⟩ := hM
  obtain ⟨o1, o2, o3, o4, o5, o6, o7, o8, o9, o10, o11, o12, o13, o14⟩ := hK
  have h104 := pow_le4 o1
  have hkd := hJ.2.2.2.2.1
  have hkd5 := hJ.2.2.1
  have hkin := hJ.2.2.2.2.2.1
  refine V_aload_n0 X dX12_truth_0 ?_
  refine V_cV0I X dX12_truth_1 kX12_79 (m_lacks l G ad ws hO h60) (by assumption) (by rfl) (Nat.le_of_ble_eq_true rfl) ⟨⟨Nat.le_of_ble_eq_true rfl, Nat.le_of_ble_eq_true rfl⟩, Nat.le_of_ble_eq_true rfl, Nat.le_of_ble_eq_true rfl⟩ (fun r ws2 hc => ?_)
  obtain ⟨rfl, hw9⟩ := hc
  obtain rfl := hw9.symm
  refine V_if_eq X 10 dX12_truth_4 (by decide) (fun h => ?_) (fun h => ?_)
  · have e9 := of_decide_eq_false (b_of0 h)
    have hla := o3 (mm - 1) (by omega)
    refine V_iload_n1 X dX12_truth_10 ?_
    refine V_i2l X dX12_truth_11 ?_
    refine V_lconstE X (lN 0) dX12_truth_12 (by decide +kernel) ?_
    refine V_lconstE X (lN 1) dX12_truth_13 (by decide +kernel) ?_
    refine V_cS3I X dX12_truth_14 kX12_68 (m_in l G ad ws _ _ _) (Nat.le_of_ble_eq_true rfl) ⟨⟨Nat.le_of_ble_eq_true rfl, Nat.le_of_ble_eq_true rfl⟩, Nat.le_of_ble_eq_true rfl, Nat.le_of_ble_eq_true rfl⟩ (fun r ws2 hc => ?_)
    obtain ⟨rfl, hw9⟩ := hc
    obtain rfl := hw9.symm
    rw [inL_01]
    refine V_if_ne X 23 dX12_truth_17 (by decide) (fun h2 => ?_) (fun h2 => ?_)
    · have e8 := of_decide_eq_true (b_of1 h2)
      refine V_aload_n0 X dX12_truth_23 ?_
      refine V_getf X dX12_truth_24 fX12_179 (by assumption) (by rfl) ?_
      refine V_bipushE X (nI 30) dX12_truth_27 (by decide +kernel) ?_
      refine V_icmp_ne X 35 dX12_truth_29 (by decide) (fun h3 => ?_) (fun h3 => ?_)
      · have e7 := c_ne h3
        have e7' : tr < 30 := by omega
        have hok : okTruth mm tr x := ⟨by omega, e8, e7'⟩
        have hr : R_truth n K mm kg nj Js Ln tr x = (if x = 0 then (R_pair n K nj Js (Ln (mm - 1)) kg).1 else (R_pair n K nj Js (Ln (mm - 1)) kg).2) := by rw [R_truth, if_neg e9, if_pos e8, if_pos e7']
        rw [hr]
        refine V_aload_n0 X dX12_truth_35 ?_
        refine V_dup X dX12_truth_36 rfl ?_
        refine V_getf X dX12_truth_37 fX12_179 (by assumption) (by rfl) ?_
        refine V_iconstE X (nI 1) dX12_truth_40 (by decide +kernel) ?_
        refine V_iadd X dX12_truth_41 ?_
        refine V_putf X dX12_truth_42 fX12_179 (by assumption) (Nat.le_of_ble_eq_true rfl) rfl rfl ?_
        refine V_eqW (ws2 := ws.set 29 (MO n mm np rm sa nj (tr + 1) sd pn hn (keptI km) (nI kp) (nI kh) hs)) (by rw [nI_add]; rfl) ?_
        have hO1 := gset (e2 := (MO n mm np rm sa nj (tr + 1) sd pn hn (keptI km) (nI kp) (nI kh) hs)) hO
        have hf1 : fr [29] ws (ws.set 29 (MO n mm np rm sa nj (tr + 1) sd pn hn (keptI km) (nI kp) (nI kh) hs)) := fr.rfl.set (by decide)
        generalize ws.set 29 (MO n mm np rm sa nj (tr + 1) sd pn hn (keptI km) (nI kp) (nI kh) hs) = w1 at hO1 hf1 ⊢
        have hM1 : RM w1 n K kg mm Ln np pg nj Js pn Pe hn U (tr + 1) kk km kp kh rd := ⟨⟨rm, sa, sd, hs, hO1⟩, hJ.fr hf1 (by decide) (by decide) (by decide), ⟨h60, h10, hp6, hh6⟩, hl.fr hf1 (by decide), hpg.fr hf1 (by decide), hPe.fr hf1 (by decide), hU.fr hf1 (by decide), hkk.fr hf1 (by decide), hkl.fr hf1 (by decide), hkp.fr hf1 (by decide), hkh.fr hf1 (by decide), hscr.fr hf1 (by decide) (by decide) (by decide) (by decide) (by decide) (by decide)⟩
        refine V_aload_n0 X dX12_truth_45 ?_
        refine V_cV0I X dX12_truth_46 kX12_105 (m_king l G ad w1 hO1 o1 kg (hkin.fr hf1 (by decide)) o2) (by assumption) (by rfl) (Nat.le_of_ble_eq_true rfl) ⟨⟨Nat.le_of_ble_eq_true rfl, Nat.le_of_ble_eq_true rfl⟩, Nat.le_of_ble_eq_true rfl, Nat.le_of_ble_eq_true rfl⟩ (fun r ws2 hc => ?_)
        obtain ⟨rfl, hw9⟩ := hc
        obtain rfl := hw9.symm
        refine V_aload_n0 X dX12_truth_49 ?_
        refine V_cV0I X dX12_truth_50 kX12_91 (m_last l G ad w1 hO1 (by omega) h60 Ln (hl.fr hf1 (by decide))) (by assumption) (by rfl) (Nat.le_of_ble_eq_true rfl) ⟨⟨Nat.le_of_ble_eq_true rfl, Nat.le_of_ble_eq_true rfl⟩, Nat.le_of_ble_eq_true rfl, Nat.le_of_ble_eq_true rfl⟩ (fun r ws2 hc => ?_)
        obtain ⟨rfl, hw9⟩ := hc
        obtain rfl := hw9.symm
        refine V_icmp_ne X 66 dX12_truth_53 (by decide) (fun h4 => ?_) (fun h4 => ?_)
        · have e6 := c_ne h4
          have hp : R_pair n K nj Js (Ln (mm - 1)) kg = match bestA n K nj Js kg (Ln (mm - 1)) (n + 1) with | none => ((-1), (-1)) | some q => (nI q.1, if q.2 = n then (-1) else nI q.2) := by rw [R_pair, if_neg e6]
          refine V_ldc X dX12_truth_66 w_1039 ?_
          refine V_istore_n2 X dX12_truth_68 (Nat.le_of_ble_eq_true rfl) rfl ?_
          refine V_iconstE X (-1) dX12_truth_69 (by decide +kernel) ?_
          refine V_istore_n3 X dX12_truth_70 (Nat.le_of_ble_eq_true rfl) rfl ?_
          refine V_iconstE X (nI 0) dX12_truth_71 (by decide +kernel) ?_
          refine V_istore_4 X dX12_truth_72 (Nat.le_of_ble_eq_true rfl) rfl ?_
          refine V_loop (fun k wk lv2 => ∃ (a : Nat) (w5 : Option Value), a + k = n + 1 ∧ RM wk n K kg mm Ln np pg nj Js pn Pe hn U (tr + 1) kk km kp kh rd ∧ fr [29, 31, 33, 37, 38] ws wk ∧ lv2 = [some (.ref 29), some (.int x), some (.int (bsI (bestA n K nj Js kg (Ln (mm - 1)) a))), some (.int (bfI (bestA n K nj Js kg (Ln (mm - 1)) a))), some (.int (nI a)), w5]) (n + 1) ⟨0, none, by omega, hM1, hf1.mono (ks2 := [29, 31, 33, 37, 38]) (by decide), by rw [bestA]; rfl⟩ ?_
          clear hM1 hO1 hf1
          rintro k wk _ ⟨a, w5, ha, hMk, hfk, rfl⟩ ih
          obtain ⟨⟨rm2, sa2, sd2, hs2, hO2⟩, hJ2, hsz, hl2, hpg2, hPe2, hU2, hkk2, hkl2, hkp2, hkh2, hscr2⟩ := hMk
          refine V_iload_4 X dX12_truth_74 ?_
          refine V_aload_n0 X dX12_truth_76 ?_
          refine V_getf X dX12_truth_77 fX12_65 (by assumption) (by rfl) ?_
          refine V_icmp_gt X 123 dX12_truth_80 (by decide) (fun g => ?_) (fun g => ?_)
          · have e5 : a = n + 1 := by have := c_lt g; omega
            subst e5
            clear ih
            have hMk : RM wk n K kg mm Ln np pg nj Js pn Pe hn U (tr + 1) kk km kp kh rd := ⟨⟨rm2, sa2, sd2, hs2, hO2⟩, hJ2, hsz, hl2, hpg2, hPe2, hU2, hkk2, hkl2, hkp2, hkh2, hscr2⟩
            have hfr9 : fr ref18 ws wk := hfk.mono (ks2 := ref18) (by decide)
            cases hb : bestA n K nj Js kg (Ln (mm - 1)) (n + 1) with
            | none =>
              rw [hb] at hp
              have hp : R_pair n K nj Js (Ln (mm - 1)) kg = ((-1), (-1)) := hp
              refine V_iload_n2 X dX12_truth_123 ?_
              refine V_ldc X dX12_truth_124 w_1039 ?_
              refine V_icmp_ne X 131 dX12_truth_126 (by decide) (fun g2 => ?_) (fun g2 => ?_)
              · exact absurd (by decide +kernel) g2
              · refine V_iconstE X (-1) dX12_truth_129 (by decide +kernel) ?_
                exact V_iret X dX12_truth_130 ⟨by rw [hp]; split <;> rfl, fun _ => hMk, fun q => absurd hok q, hfr9⟩
            | some qq =>
              rw [hb] at hp
              have hp : R_pair n K nj Js (Ln (mm - 1)) kg = (nI qq.1, if qq.2 = n then (-1) else nI qq.2) := hp
              have hqq := bestA_lt hb
              refine V_iload_n2 X dX12_truth_123 ?_
              refine V_ldc X dX12_truth_124 w_1039 ?_
              refine V_icmp_ne X 131 dX12_truth_126 (by decide) (fun g2 => ?_) (fun g2 => ?_)
              · refine V_iload_n1 X dX12_truth_131 ?_
                refine V_if_ne X 139 dX12_truth_132 (by decide) (fun g3 => ?_) (fun g3 => ?_)
                · refine V_iload_n3 X dX12_truth_139 ?_
                  refine V_aload_n0 X dX12_truth_140 ?_
                  refine V_getf X dX12_truth_141 fX12_65 (by assumption) (by rfl) ?_
                  refine V_icmp_ne X 151 dX12_truth_144 (by decide) (fun g4 => ?_) (fun g4 => ?_)
                  · have e4 : ¬ qq.2 = n := c_ne g4
                    refine V_iload_n3 X dX12_truth_151 ?_
                    exact V_iret X dX12_truth_152 ⟨by rw [hp, if_neg g3]; show _ = (if qq.2 = n then (-1) else nI qq.2); rw [if_neg e4]; rfl, fun _ => hMk, fun q => absurd hok q, hfr9⟩
                  · have e4 : qq.2 = n := c_eq (a := qq.2) g4
                    refine V_iconstE X (-1) dX12_truth_147 (by decide +kernel) ?_
                    refine V_goto X 152 dX12_truth_148 (by decide) ?_
                    exact V_iret X dX12_truth_152 ⟨by rw [hp, if_neg g3]; show _ = (if qq.2 = n then (-1) else nI qq.2); rw [if_pos e4], fun _ => hMk, fun q => absurd hok q, hfr9⟩
                · refine V_iload_n2 X dX12_truth_135 ?_
                  refine V_goto X 152 dX12_truth_136 (by decide) ?_
                  exact V_iret X dX12_truth_152 ⟨by rw [hp, if_pos g3]; rfl, fun _ => hMk, fun q => absurd hok q, hfr9⟩
              · exact absurd (c_eq (a := qq.1) (b := 1000000) (g2.trans (by decide +kernel))) (by omega)
          · have e5 : a ≤ n := c_nlt g
            obtain ⟨fs0, hs0⟩ := hscr2.2.2.1
            obtain ⟨fq0, hq0⟩ := hscr2.2.2.2.1
            obtain ⟨ft0, ht0⟩ := hscr2.1
            refine V_aload_n0 X dX12_truth_83 ?_
            refine V_iload_4 X dX12_truth_84 ?_
            refine V_cV1I X dX12_truth_86 kX12_182 (m_truthBy l G ad wk hO2 (by omega) h60 Ln hl2 K kg Js hJ2 fs0 fq0 ft0 hs0 hq0 ht0 o2 hla a e5) (by assumption) (by rfl) (Nat.le_of_ble_eq_true rfl) ⟨⟨Nat.le_of_ble_eq_true rfl, Nat.le_of_ble_eq_true rfl⟩, Nat.le_of_ble_eq_true rfl, Nat.le_of_ble_eq_true rfl⟩ (fun r ws2 hc => ?_)
            obtain ⟨hr2, h31, h33, ⟨fs1, fq1, hs1, hq1⟩, hf3⟩ := hc
            generalize ws2 = w3 at h31 h33 hs1 hq1 hf3 ⊢
            have hM3 : RM w3 n K kg mm Ln np pg nj Js pn Pe hn U (tr + 1) kk km kp kh rd := ⟨⟨rm2, sa2, sd2, hs2, hf3.get (by decide) hO2⟩, MJ_king hJ2 hf3 (by decide) h31 (by decide), hsz, hl2.fr hf3 (by decide), hpg2.fr hf3 (by decide), hPe2.fr hf3 (by decide), hU2.fr hf3 (by decide), hkk2.fr hf3 (by decide), hkl2.fr hf3 (by decide), hkp2.fr hf3 (by decide), hkh2.fr hf3 (by decide), scr_gen hscr2 hf3 (Or.inr h33.ex) (Or.inl (by decide)) (Or.inr ⟨fs1, hs1⟩) (Or.inr ⟨fq1, hq1⟩) (Or.inl (by decide)) (Or.inl (by decide))⟩
            have hfk3 : fr [29, 31, 33, 37, 38] ws w3 := hfk.trans (hf3.mono (by decide))
            have go : ∀ b : Bool, (b = true → bestA n K nj Js kg (Ln (mm - 1)) (a + 1) = (truthT n K nj Js kg (Ln (mm - 1)) a).map (fun y => (y, a)) ∧ (truthT n K nj Js kg (Ln (mm - 1)) a).isSome = true) → (b = false → bestA n K nj Js kg (Ln (mm - 1)) (a + 1) = bestA n K nj Js kg (Ln (mm - 1)) a) → (b = true ↔ ¬ bsI (bestA n K nj Js kg (Ln (mm - 1)) a) ≤ r) → V p l e (rmm (9) 0 0) s m args below meth c 0 0 (MQ below (QQ G A (pI ad (fun r ws2 => r = (if x = 0 then (R_pair n K nj Js (Ln (mm - 1)) kg).1 else (R_pair n K nj Js (Ln (mm - 1)) kg).2) ∧ (okTruth mm tr x → RM ws2 n K kg mm Ln np pg nj Js pn Pe hn U (tr + 1) kk km kp kh rd) ∧ (¬ okTruth mm tr x → RM ws2 n K kg mm Ln np pg nj Js pn Pe hn U tr kk km kp kh rd) ∧ fr ref18 ws ws2))) args s 0 0 A) G A 6 ad w3 89 [some (.ref 29), some (.int x), some (.int (bsI (bestA n K nj Js kg (Ln (mm - 1)) a))), some (.int (bfI (bestA n K nj Js kg (Ln (mm - 1)) a))), some (.int (nI a)), w5] [.int r] := by
              intro b hb1 hb2 hbr
              cases b with
              | true =>
                obtain ⟨hb1, hb3⟩ := hb1 rfl
                have hlt := hbr.mp rfl
                obtain ⟨y, hy⟩ := Option.isSome_iff_exists.mp hb3
                rw [hy] at hb1 hr2
                refine V_istore_5 X dX12_truth_89 (Nat.le_of_ble_eq_true rfl) rfl ?_
                refine V_iload_5 X dX12_truth_91 ?_
                refine V_iload_n2 X dX12_truth_93 ?_
                refine V_icmp_ge X 102 dX12_truth_94 (by decide) (fun g2 => ?_) (fun g2 => ?_)
                · exact absurd g2 hlt
                · refine V_iload_4 X dX12_truth_97 ?_
                  refine V_goto X 103 dX12_truth_99 (by decide) ?_
                  refine V_istore_n3 X dX12_truth_103 (Nat.le_of_ble_eq_true rfl) rfl ?_
                  refine V_iload_5 X dX12_truth_104 ?_
                  refine V_iload_n2 X dX12_truth_106 ?_
                  refine V_icmp_ge X 115 dX12_truth_107 (by decide) (fun g3 => ?_) (fun g3 => ?_)
                  · exact absurd g3 hlt
                  · refine V_iload_5 X dX12_truth_110 ?_
                    refine V_goto X 116 dX12_truth_112 (by decide) ?_
                    refine V_istore_n2 X dX12_truth_116 (Nat.le_of_ble_eq_true rfl) rfl ?_
                    refine V_iinc_4 X dX12_truth_117 (Nat.le_of_ble_eq_true rfl) rfl (inc1 _) ?_
                    refine V_goto X 74 dX12_truth_120 (by decide) ?_
                    exact ih (k - 1) _ _ (by omega) ⟨a + 1, _, by omega, hM3, hfk3, by rw [hb1, hr2]; rfl⟩
              | false =>
                have hb1 := hb2 rfl
                have hlt : bsI (bestA n K nj Js kg (Ln (mm - 1)) a) ≤ r := by
                  by_cases q : bsI (bestA n K nj Js kg (Ln (mm - 1)) a) ≤ r
                  · exact q
                  · exact absurd (hbr.mpr q) (by decide)
                refine V_istore_5 X dX12_truth_89 (Nat.le_of_ble_eq_true rfl) rfl ?_
                refine V_iload_5 X dX12_truth_91 ?_
                refine V_iload_n2 X dX12_truth_93 ?_
                refine V_icmp_ge X 102 dX12_truth_94 (by decide) (fun g2 => ?_) (fun g2 => ?_)
                · refine V_iload_n3 X dX12_truth_102 ?_
                  refine V_istore_n3 X dX12_truth_103 (Nat.le_of_ble_eq_true rfl) rfl ?_
                  refine V_iload_5 X dX12_truth_104 ?_
                  refine V_iload_n2 X dX12_truth_106 ?_
                  refine V_icmp_ge X 115 dX12_truth_107 (by decide) (fun g3 => ?_) (fun g3 => ?_)
                  · refine V_iload_n2 X dX12_truth_115 ?_
                    refine V_istore_n2 X dX12_truth_116 (Nat.le_of_ble_eq_true rfl) rfl ?_
                    refine V_iinc_4 X dX12_truth_117 (Nat.le_of_ble_eq_true rfl) rfl (inc1 _) ?_
                    refine V_goto X 74 dX12_truth_120 (by decide) ?_
                    exact ih (k - 1) _ _ (by omega) ⟨a + 1, _, by omega, hM3, hfk3, by rw [hb1]⟩
                  · exact absurd hlt g3
                · exact absurd hlt g2
            cases ht : truthT n K nj Js kg (Ln (mm - 1)) a with
            | none =>
              rw [ht] at hr2 go
              refine go false (fun q => by cases q) (fun _ => by rw [bestA, ht]) ⟨(fun q => by cases q), fun q => absurd ?_ q⟩
              rw [hr2]
              cases hb : bestA n K nj Js kg (Ln (mm - 1)) a with
              | none => exact Int32.le_refl _
              | some q2 =>
                have := bestA_lt hb
                exact (nI_leI (by omega) (by decide)).mpr (by omega)
            | some y =>
              rw [ht] at hr2 go
              have hy := truthT_lt ht
              cases hb : bestA n K nj Js kg (Ln (mm - 1)) a with
              | none =>
                rw [hb] at go
                refine go true (fun _ => ⟨by rw [bestA, ht, hb]; rfl, rfl⟩) (fun q => by cases q) ⟨fun _ => ?_, fun _ => rfl⟩
                rw [hr2]
                intro q
                have := (nI_leI (a := 1000000) (b := y) (by decide) (by omega)).mp q
                omega
              | some q2 =>
                rw [hb] at go
                have hq2 := bestA_lt hb
                by_cases hlt : y < q2.1
                · refine go true (fun _ => ⟨by rw [bestA, ht, hb]; exact if_pos hlt, rfl⟩) (fun q => by cases q) ⟨fun _ => ?_, fun _ => rfl⟩
                  rw [hr2]
                  intro q
                  have := (nI_leI (a := q2.1) (b := y) (by omega) (by omega)).mp q
                  omega
                · refine go false (fun q => by cases q) (fun _ => by rw [bestA, ht, hb]; exact if_neg hlt) ⟨(fun q => by cases q), fun q => absurd ?_ q⟩
                  rw [hr2]
                  exact (nI_leI (by omega) (by omega)).mpr (by omega)
        · have e6 := c_eq h4
          have hp : R_pair n K nj Js (Ln (mm - 1)) kg = (nI 0, (-1)) := by rw [R_pair, if_pos e6]
          rw [hp]
          refine V_iload_n1 X dX12_truth_56 ?_
          refine V_if_ne X 64 dX12_truth_57 (by decide) (fun g => ?_) (fun g => ?_)
          · refine V_iconstE X (-1) dX12_truth_64 (by decide +kernel) ?_
            exact V_iret X dX12_truth_65 ⟨by rw [if_neg g], fun _ => hM1, fun q => absurd hok q, hf1.mono (ks2 := ref18) (by decide)⟩
          · refine V_iconstE X (nI 0) dX12_truth_60 (by decide +kernel) ?_
            refine V_goto X 65 dX12_truth_61 (by decide) ?_
            exact V_iret X dX12_truth_65 ⟨by rw [if_pos g], fun _ => hM1, fun q => absurd hok q, hf1.mono (ks2 := ref18) (by decide)⟩
      · have e7 := c_eq h3
        refine V_bipushE X (-103) dX12_truth_32 (by decide +kernel) ?_
        exact V_iret X dX12_truth_34 ⟨by rw [R_truth, if_neg e9, if_pos e8, if_neg (by omega)], fun q => by have := q.2.2; omega, fun _ => hM0, fr.rfl⟩
    · have e8 := of_decide_eq_false (b_of0 h2)
      refine V_bipushE X (-102) dX12_truth_20 (by decide +kernel) ?_
      exact V_iret X dX12_truth_22 ⟨by rw [R_truth, if_neg e9, if_neg e8], fun q => absurd q.2.1 e8, fun _ => hM0, fr.rfl⟩
  · have e9 := of_decide_eq_true (b_of1 h)
    refine V_bipushE X (-103) dX12_truth_7 (by decide +kernel) ?_
    exact V_iret X dX12_truth_9 ⟨by rw [R_truth, if_pos e9], fun q => by have := q.1; omega, fun _ => hM0, fr.rfl⟩
