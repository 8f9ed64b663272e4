/-! seekTruth -/
def truS (n : Nat) (K : Nat → Nat) (nj : Nat) (Js : Nat → JD) : Nat → Nat → Nat → List (Nat × Nat) → Int32 × Int32
  | 0, _, _, _ => ((-1), (-1))
  | k + 1, y, th, L => if hasP (passS n K nj Js (agedP n K th) (decide (y = 1)) L) (agedP n K th) then (nI y, firstI (passS n K nj Js (agedP n K th) (decide (y = 1)) L) (agedP n K th)) else truS n K nj Js k (y + 1) (agedP n K th) (passS n K nj Js (agedP n K th) (decide (y = 1)) L)
def seekI (n : Nat) (K : Nat → Nat) (nj : Nat) (Js : Nat → JD) (la kg : Nat) : Int32 × Int32 := if la = kg then (nI 0, (-1)) else truS n K nj Js 12 1 kg [(0, la)]
theorem SR.put {ws : List CE} {kr ke rd : Nat} {L : List (Nat × Nat)} {ty ft : Int32} {fe : Nat → Int32} (h : SR ws kr ke rd L ty ft fe) (ty2 ft2 : Int32) : SR (ws.set 13 (SObj kr ke rd L.length ty2 ft2)) kr ke rd L ty2 ft2 fe := by
  obtain ⟨h1, h2, h3, h4, fs, fw, h5, h6, h7, h8⟩ := h
  exact ⟨h1, h2, gset h3, h4, fs, fw, gne (by decide) h5, gne (by omega) h6, gne (by omega) h7, h8⟩
theorem nI_m1' {q : Nat} (h : q < 10000) : ¬ (-1 : Int32) = nI q := fun e => nI_m1 h e.symm
set_option maxHeartbeats 2000000 in
theorem t_seek (l : Launch) (G : GX) (ad : Nat → Nat) (ws : List CE) (n nj : Nat) (K : Nat → Nat) (Js : Nat → JD) (kr ke rd : Nat) (L0 : Nat) (ty ft : Int32) (fe : Nat → Int32) (hL : LooksAt ws n K) (hM : MarksAt ws n nj Js) (hB : BitsAt ws n nj Js) (hS : SV ws kr ke rd L0 ty ft fe) (hrd : rd + 20 < 1000000000) (hkP : ad kP = G.2.2.2) (la kg : Nat) (hla : la < 10 ^ n) (hk : kg < 10 ^ n) : Ct l G yX9_seekTruth cX9_seekTruth 5 none 9 0 0 ad ws [.ref 13, .int (nI la), .int (nI kg)] (pV ad (fun ws2 => (∃ kr2 ke2 rd2 L2 fe2, rd2 ≤ rd + 14 ∧ SR ws2 kr2 ke2 rd2 L2 (seekI n K nj Js la kg).1 (seekI n K nj Js la kg).2 fe2) ∧ fr sea4 ws ws2)) := by
  refine Ct.of [some (.ref 13), some (.int (nI la)), some (.int (nI kg)), none, none] (by decide +kernel) (Nat.le_of_ble_eq_true rfl) rfl ?_
  intro p e s m args below meth c A X
  have hn := hL.1
  have h104 := pow_le4 hn
  have tail : ∀ ty0 : Int32, (ty0 = (-1) ∧ ¬ la = kg) ∨ (ty0 = nI 0 ∧ la = kg) → V p l e (rmm 9 0 0) s m args below meth c 0 0 (MQ below (QQ G A (pV ad (fun ws2 => (∃ kr2 ke2 rd2 L2 fe2, rd2 ≤ rd + 14 ∧ SR ws2 kr2 ke2 rd2 L2 (seekI n K nj Js la kg).1 (seekI n K nj Js la kg).2 fe2) ∧ fr sea4 ws ws2))) args s 0 0 A) G A 5 ad ws 11 [some (.ref 13), some (.int (nI la)), some (.int (nI kg)), none, none] [.int ty0, .ref 13] := by
    intro ty0 hty0
    have z13 := hS.obj
    refine V_putf X dX9_seekTruth_11 fX9_28 (by assumption) (Nat.le_of_ble_eq_true rfl) rfl rfl ?_
    refine V_eqW (ws2 := ws.set 13 (SObj kr ke rd L0 ty0 ft)) rfl ?_
    have hS1 := hS.put ty0 ft
    have z13 := hS1.obj
    refine V_aload_n0 X dX9_seekTruth_14 ?_
    refine V_iconstE X (-1) dX9_seekTruth_15 (by decide +kernel) ?_
    refine V_putf X dX9_seekTruth_16 fX9_31 (by assumption) (Nat.le_of_ble_eq_true rfl) rfl rfl ?_
    refine V_eqW (ws2 := (ws.set 13 (SObj kr ke rd L0 ty0 ft)).set 13 (SObj kr ke rd L0 ty0 (-1))) rfl ?_
    have hS2 := hS1.put ty0 (-1)
    have hf2 : fr sea4 ws ((ws.set 13 (SObj kr ke rd L0 ty0 ft)).set 13 (SObj kr ke rd L0 ty0 (-1))) := (fr.rfl.set (by decide)).set (by decide)
    generalize (ws.set 13 (SObj kr ke rd L0 ty0 ft)).set 13 (SObj kr ke rd L0 ty0 (-1)) = wa at hS2 hf2 ⊢
    have z13 := hS2.obj
    obtain ⟨fw9, hS9⟩ := hS2
    refine V_aload_n0 X dX9_seekTruth_19 ?_
    refine V_cV0V X dX9_seekTruth_20 kX9_42 (t_startRound0 l G ad wa kr ke rd L0 ty0 (-1) fw9 fe hS9 (by omega)) (by assumption) (by rfl) (Nat.le_of_ble_eq_true rfl) ⟨⟨Nat.le_of_ble_eq_true rfl, Nat.le_of_ble_eq_true rfl⟩, Nat.le_of_ble_eq_true rfl, Nat.le_of_ble_eq_true rfl⟩ (fun ws2 hc => ?_)
    obtain ⟨hS3, hf3⟩ := hc
    have z13 := hS3.2.2.1
    have hf3 := hf2.trans hf3
    generalize ws2 = wb at hS3 hf3 z13 ⊢
    refine V_aload_n0 X dX9_seekTruth_23 ?_
    refine V_iload_n1 X dX9_seekTruth_24 ?_
    refine V_iconstE X (nI 0) dX9_seekTruth_25 (by decide +kernel) ?_
    refine V_cV2V X dX9_seekTruth_26 kX9_45 (t_reach l G ad wb kr ke (rd + 1) [] ty0 (-1) fe hS3 la 0 (by omega) (by omega) rfl) (by assumption) (by rfl) (Nat.le_of_ble_eq_true rfl) ⟨⟨Nat.le_of_ble_eq_true rfl, Nat.le_of_ble_eq_true rfl⟩, Nat.le_of_ble_eq_true rfl, Nat.le_of_ble_eq_true rfl⟩ (fun ws2 hc => ?_)
    obtain ⟨hS4, hf4⟩ := hc
    have hf4 := hf3.trans hf4
    generalize ws2 = wc at hS4 hf4 ⊢
    refine V_iload_n2 X dX9_seekTruth_29 ?_
    refine V_istore_n3 X dX9_seekTruth_30 (Nat.le_of_ble_eq_true rfl) rfl ?_
    refine V_iconstE X (nI 1) dX9_seekTruth_31 (by decide +kernel) ?_
    refine V_istore_4 X dX9_seekTruth_32 (Nat.le_of_ble_eq_true rfl) rfl ?_
    refine V_loop (fun k wk lv2 => ∃ (y th : Nat) (L : List (Nat × Nat)) (kr2 ke2 rd2 : Nat) (fe2 : Nat → Int32) (ty2 ft2 : Int32), y + k = 13 ∧ 1 ≤ y ∧ th < 10 ^ n ∧ bndL n L ∧ rd2 ≤ rd + y ∧ lv2 = [some (.ref 13), some (.int (nI la)), some (.int (nI kg)), some (.int (nI th)), some (.int (nI y))] ∧ fr sea4 ws wk ∧ SR wk kr2 ke2 rd2 L ty2 ft2 fe2 ∧ ((ty2 = (-1) ∧ ft2 = (-1) ∧ truS n K nj Js k y th L = seekI n K nj Js la kg) ∨ (¬ ty2 = (-1) ∧ (ty2, ft2) = seekI n K nj Js la kg))) 12 ⟨1, kg, [(0, la)], kr, ke, rd + 1, fe, ty0, (-1), by omega, by omega, hk, ?_, by omega, rfl, hf4, hS4, ?_⟩ ?_
    · intro e he; simp at he; subst he; exact hla
    · rcases hty0 with ⟨rfl, h9⟩ | ⟨rfl, h9⟩
      · exact Or.inl ⟨rfl, rfl, by rw [seekI, if_neg h9]⟩
      · exact Or.inr ⟨nI_m1 (by decide), by rw [seekI, if_pos h9]⟩
    rintro k wk _ ⟨y, th, L, kr2, ke2, rd2, fe2, ty2, ft2, hy, hy1, hth, hbL, hr2, rfl, hfk, hSk, hres⟩ ih
    have z13 := hSk.2.2.1
    refine V_iload_4 X dX9_seekTruth_34 ?_
    refine V_bipushE X (nI 12) dX9_seekTruth_36 (by decide +kernel) ?_
    refine V_icmp_gt X 103 dX9_seekTruth_38 (by decide) (fun h6 => ?_) (fun h6 => ?_)
    · have e9 : 12 < y := (nI_ltI (a := 12) (by omega) (by omega)).mp h6
      have e10 : k = 0 := by omega
      subst e10
      rcases hres with ⟨rfl, rfl, hres⟩ | ⟨_, hres⟩
      · exact V_vret X dX9_seekTruth_103 ⟨⟨kr2, ke2, rd2, L, fe2, by omega, by rw [← hres]; exact hSk⟩, hfk⟩
      · exact V_vret X dX9_seekTruth_103 ⟨⟨kr2, ke2, rd2, L, fe2, by omega, by rw [← hres]; exact hSk⟩, hfk⟩
    · have e9 : y ≤ 12 := by
        rcases Nat.lt_or_ge 12 y with q9 | q9
        · exact absurd ((nI_ltI (a := 12) (by omega) (by omega)).mpr q9) h6
        · exact q9
      refine V_aload_n0 X dX9_seekTruth_41 ?_
      refine V_getf X dX9_seekTruth_42 fX9_28 (by assumption) (by rfl) ?_
      refine V_iconstE X (-1) dX9_seekTruth_45 (by decide +kernel) ?_
      refine V_icmp_ne X 103 dX9_seekTruth_46 (by decide) (fun h7 => ?_) (fun h7 => ?_)
      · rcases hres with ⟨rfl, rfl, hres⟩ | ⟨_, hres⟩
        · exact absurd rfl h7
        · exact V_vret X dX9_seekTruth_103 ⟨⟨kr2, ke2, rd2, L, fe2, by omega, by rw [← hres]; exact hSk⟩, hfk⟩
      · subst h7
        rcases hres with ⟨_, rfl, hres⟩ | ⟨h8, _⟩
        · obtain ⟨k, rfl⟩ : ∃ k2, k = k2 + 1 := ⟨k - 1, by omega⟩
          have hLk := hL.fr hfk (by decide)
          have hMk := hM.fr hfk (by decide) (by decide)
          have hBk := hB.fr hfk (by decide) (by decide) (by decide)
          have q1 := hLk.2.1
          have hag := agedP_lt (K := K) hth
          refine V_aload_n0 X dX9_seekTruth_49 ?_
          refine V_getf X dX9_seekTruth_50 fX9_34 (by assumption) (by rfl) ?_
          refine V_iload_n3 X dX9_seekTruth_53 ?_
          refine V_cV1I X dX9_seekTruth_54 kX9_71 (t_Laged l G ad wk n K hLk hkP th hth) (by assumption) (by rfl) (Nat.le_of_ble_eq_true rfl) ⟨⟨Nat.le_of_ble_eq_true rfl, Nat.le_of_ble_eq_true rfl⟩, Nat.le_of_ble_eq_true rfl, Nat.le_of_ble_eq_true rfl⟩ (fun r ws2 hc => ?_)
          obtain ⟨rfl, hw9⟩ := hc
          obtain rfl := hw9.symm
          rw [truS] at hres
          generalize hLn : passS n K nj Js (agedP n K th) (decide (y = 1)) L = Ln at hres
          have hbn : bndL n Ln := by rw [← hLn]; exact bnd_pass hbL
          have after : ∀ (wy : List CE) (fe3 : Nat → Int32), SR wy ke2 kr2 (rd2 + 1) Ln (-1) (-1) fe3 → fr sea4 ws wy → V p l e (rmm 9 0 0) s m args below meth c 0 0 (MQ below (QQ G A (pV ad (fun ws2 => (∃ kr2 ke2 rd2 L2 fe2, rd2 ≤ rd + 14 ∧ SR ws2 kr2 ke2 rd2 L2 (seekI n K nj Js la kg).1 (seekI n K nj Js la kg).2 fe2) ∧ fr sea4 ws ws2))) args s 0 0 A) G A 5 ad wy 74 [some (.ref 13), some (.int (nI la)), some (.int (nI kg)), some (.int (nI (agedP n K th))), some (.int (nI y))] [] := by
            intro wy fe3 hSy hfy
            have y13 := hSy.2.2.1
            have hrdy := hSy.2.1
            refine V_aload_n0 X dX9_seekTruth_74 ?_
            refine V_iload_n3 X dX9_seekTruth_75 ?_
            refine V_cV1I X dX9_seekTruth_76 kX9_52 (t_isReached l G ad wy ke2 kr2 (rd2 + 1) Ln (-1) (-1) fe3 hSy (agedP n K th) (by omega)) (by assumption) (by rfl) (Nat.le_of_ble_eq_true rfl) ⟨⟨Nat.le_of_ble_eq_true rfl, Nat.le_of_ble_eq_true rfl⟩, Nat.le_of_ble_eq_true rfl, Nat.le_of_ble_eq_true rfl⟩ (fun r ws2 hc => ?_)
            obtain ⟨rfl, hw9⟩ := hc
            obtain rfl := hw9.symm
            refine V_if_eq X 97 dX9_seekTruth_79 (by decide) (fun h9 => ?_) (fun h9 => ?_)
            · have e11 : hasP Ln (agedP n K th) = false := b_of0 h9
              rw [if_neg (by rw [e11]; decide)] at hres
              refine V_iinc_4 X dX9_seekTruth_97 (Nat.le_of_ble_eq_true rfl) rfl (inc1 _) ?_
              refine V_goto X 34 dX9_seekTruth_100 (by decide) ?_
              exact ih k _ _ (by omega) ⟨y + 1, agedP n K th, Ln, ke2, kr2, rd2 + 1, fe3, (-1), (-1), by omega, by omega, hag, hbn, by omega, rfl, hfy, hSy, Or.inl ⟨rfl, rfl, hres⟩⟩
            · have e11 : hasP Ln (agedP n K th) = true := b_of1 h9
              rw [if_pos e11] at hres
              refine V_aload_n0 X dX9_seekTruth_82 ?_
              refine V_iload_4 X dX9_seekTruth_83 ?_
              refine V_putf X dX9_seekTruth_85 fX9_28 (by assumption) (Nat.le_of_ble_eq_true rfl) rfl rfl ?_
              refine V_eqW (ws2 := wy.set 13 (SObj ke2 kr2 (rd2 + 1) Ln.length (nI y) (-1))) rfl ?_
              have hSx := hSy.put (nI y) (-1)
              have hfx : fr sea4 ws (wy.set 13 (SObj ke2 kr2 (rd2 + 1) Ln.length (nI y) (-1))) := hfy.set (by decide)
              generalize wy.set 13 (SObj ke2 kr2 (rd2 + 1) Ln.length (nI y) (-1)) = wx at hSx hfx ⊢
              have x13 := hSx.2.2.1
              refine V_aload_n0 X dX9_seekTruth_88 ?_
              refine V_aload_n0 X dX9_seekTruth_89 ?_
              refine V_iload_n3 X dX9_seekTruth_90 ?_
              refine V_cV1I X dX9_seekTruth_91 kX9_79 (t_firstOf l G ad wx ke2 kr2 (rd2 + 1) Ln (nI y) (-1) fe3 hSx (agedP n K th) (by omega)) (by assumption) (by rfl) (Nat.le_of_ble_eq_true rfl) ⟨⟨Nat.le_of_ble_eq_true rfl, Nat.le_of_ble_eq_true rfl⟩, Nat.le_of_ble_eq_true rfl, Nat.le_of_ble_eq_true rfl⟩ (fun r ws2 hc => ?_)
              obtain ⟨rfl, hw9⟩ := hc
              obtain rfl := hw9.symm
              refine V_putf X dX9_seekTruth_94 fX9_31 (by assumption) (Nat.le_of_ble_eq_true rfl) rfl rfl ?_
              refine V_eqW (ws2 := wx.set 13 (SObj ke2 kr2 (rd2 + 1) Ln.length (nI y) (firstI Ln (agedP n K th)))) rfl ?_
              have hSv := hSx.put (nI y) (firstI Ln (agedP n K th))
              refine V_iinc_4 X dX9_seekTruth_97 (Nat.le_of_ble_eq_true rfl) rfl (inc1 _) ?_
              refine V_goto X 34 dX9_seekTruth_100 (by decide) ?_
              exact ih k _ _ (by omega) ⟨y + 1, agedP n K th, Ln, ke2, kr2, rd2 + 1, fe3, nI y, firstI Ln (agedP n K th), by omega, by omega, hag, hbn, by omega, rfl, hfx.set (by decide), hSv, Or.inr ⟨nI_m1 (by omega), hres⟩⟩
          refine V_istore_n3 X dX9_seekTruth_57 (Nat.le_of_ble_eq_true rfl) rfl ?_
          refine V_aload_n0 X dX9_seekTruth_58 ?_
          refine V_iload_n3 X dX9_seekTruth_59 ?_
          refine V_iload_4 X dX9_seekTruth_60 ?_
          refine V_iconstE X (nI 1) dX9_seekTruth_62 (by decide +kernel) ?_
          refine V_icmp_ne X 70 dX9_seekTruth_63 (by decide) (fun h9 => ?_) (fun h9 => ?_)
          · have e11 : ¬ y = 1 := fun q => h9 (by rw [q])
            refine V_iconstE X (nI 0) dX9_seekTruth_70 (by decide +kernel) ?_
            refine V_eqS (st2 := [.int (bI (decide (y = 1))), .int (nI (agedP n K th)), .ref 13]) (by rw [decide_eq_false e11]; rfl) ?_
            refine V_cV2V X dX9_seekTruth_71 kX9_75 (t_passYear l G ad wk n nj K Js kr2 ke2 rd2 L (-1) (-1) fe2 hLk hMk hBk hSk (by omega) hkP (agedP n K th) hag (decide (y = 1)) hbL) (by assumption) (by rfl) (Nat.le_of_ble_eq_true rfl) ⟨⟨Nat.le_of_ble_eq_true rfl, Nat.le_of_ble_eq_true rfl⟩, Nat.le_of_ble_eq_true rfl, Nat.le_of_ble_eq_true rfl⟩ (fun ws2 hc => ?_)
            obtain ⟨⟨fe3, hS5⟩, hf5⟩ := hc
            exact after ws2 fe3 (by rw [hLn] at hS5; exact hS5) (hfk.trans hf5)
          · have e11 : y = 1 := (nI_eq (b := 1) (by omega) (by omega)).mp h9
            refine V_iconstE X (nI 1) dX9_seekTruth_66 (by decide +kernel) ?_
            refine V_goto X 71 dX9_seekTruth_67 (by decide) ?_
            refine V_eqS (st2 := [.int (bI (decide (y = 1))), .int (nI (agedP n K th)), .ref 13]) (by rw [decide_eq_true e11]; rfl) ?_
            refine V_cV2V X dX9_seekTruth_71 kX9_75 (t_passYear l G ad wk n nj K Js kr2 ke2 rd2 L (-1) (-1) fe2 hLk hMk hBk hSk (by omega) hkP (agedP n K th) hag (decide (y = 1)) hbL) (by assumption) (by rfl) (Nat.le_of_ble_eq_true rfl) ⟨⟨Nat.le_of_ble_eq_true rfl, Nat.le_of_ble_eq_true rfl⟩, Nat.le_of_ble_eq_true rfl, Nat.le_of_ble_eq_true rfl⟩ (fun ws2 hc => ?_)
            obtain ⟨⟨fe3, hS5⟩, hf5⟩ := hc
            exact after ws2 fe3 (by rw [hLn] at hS5; exact hS5) (hfk.trans hf5)
        · exact absurd rfl h8
  refine V_aload_n0 X dX9_seekTruth_0 ?_
  refine V_iload_n1 X dX9_seekTruth_1 ?_
  refine V_iload_n2 X dX9_seekTruth_2 ?_
  refine V_icmp_ne X 10 dX9_seekTruth_3 (by decide) (fun h => ?_) (fun h => ?_)
  · refine V_iconstE X (-1) dX9_seekTruth_10 (by decide +kernel) ?_
    exact tail _ (Or.inl ⟨rfl, fun q => h (by rw [q])⟩)
  · refine V_iconstE X (nI 0) dX9_seekTruth_6 (by decide +kernel) ?_
    refine V_goto X 11 dX9_seekTruth_7 (by decide) ?_
    exact tail _ (Or.inr ⟨rfl, (nI_eq (by omega) (by omega)).mp h⟩)
