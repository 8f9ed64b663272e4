/-! words of letters -/
theorem wb_tb (n : Nat) : (lN n).toBitVec = BitVec.ofNat 64 n := rfl
theorem wb_inj {a b : Int64} (h : a.toBitVec = b.toBitVec) : a = b := Int64.toBitVec_inj.mp h
theorem wb_tn {n : Nat} (h : n < 2 ^ 64) : (lN n).toBitVec.toNat = n := by rw [wb_tb, BitVec.toNat_ofNat, Nat.mod_eq_of_lt h]
theorem wb_of (x : Int64) : ∃ n, n < 2 ^ 64 ∧ x = lN n := ⟨x.toBitVec.toNat, x.toBitVec.isLt, wb_inj (by rw [wb_tb]; simp)⟩
theorem wb_cu : ∀ k, k < 64 → ((nI k).toInt64.toUInt64 &&& Int64.toUInt64 63) = UInt64.ofNat k := by decide +kernel
theorem wb_shr {n k : Nat} (hn : n < 2 ^ 64) (hk : k < 64) : ((lN n).toUInt64 >>> ((nI k).toInt64.toUInt64 &&& Int64.toUInt64 63)).toInt64 = lN (n / 2 ^ k) := by
  rw [wb_cu k hk]
  apply wb_inj
  apply BitVec.eq_of_toNat_eq
  show ((lN n).toUInt64 >>> UInt64.ofNat k).toNat = (BitVec.ofNat 64 _).toNat
  have h1 : (UInt64.ofNat k).toNat = k := by
    show (BitVec.ofNat 64 k).toNat = k
    rw [BitVec.toNat_ofNat, Nat.mod_eq_of_lt (by omega)]
  have h2 : (lN n).toUInt64.toNat = n := wb_tn hn
  rw [UInt64.toNat_shiftRight, h1, h2, Nat.mod_eq_of_lt hk, Nat.shiftRight_eq_div_pow, BitVec.toNat_ofNat, Nat.mod_eq_of_lt (Nat.lt_of_le_of_lt (Nat.div_le_self _ _) hn)]
def letN (W i : Nat) : Nat := W / 2 ^ (8 * i) % 256
theorem and255 (m : Nat) : m &&& 255 = m % 256 := Nat.and_two_pow_sub_one_eq_mod m 8
theorem t_letterIn (l : Launch) (G : GX) (ad : Nat → Nat) (ws : List CE) (W i : Nat) (hW : W < 2 ^ 64) (hi : i < 8) : Ct l G yX11_letterIn cX11_letterIn 3 (some .int) 0 0 0 ad ws [.long (lN W), .int (nI i)] (pI ad (fun r ws2 => r = nI (letN W i) ∧ ws2 = ws)) := by
  refine Ct.of [some (.long (lN W)), none, some (.int (nI i))] (by decide +kernel) (Nat.le_of_ble_eq_true rfl) rfl ?_
  intro p e s m args below meth c A X
  refine V_lload_n0 X dX11_letterIn_0 ?_
  refine V_bipushE X (nI 8) dX11_letterIn_1 (by decide +kernel) ?_
  refine V_iload_n2 X dX11_letterIn_3 ?_
  refine V_imul X dX11_letterIn_4 ?_
  rw [pk_mul]
  refine V_lushr X dX11_letterIn_5 ?_
  rw [wb_shr hW (by omega)]
  refine V_l2i X dX11_letterIn_6 ?_
  rw [lN_i]
  refine V_sipushE X (nI 255) dX11_letterIn_7 (by decide +kernel) ?_
  refine V_iand X dX11_letterIn_10 ?_
  rw [nI_and, and255]
  exact V_iret X dX11_letterIn_11 ⟨rfl, rfl⟩
def letTo (lt : Nat → Nat) : Nat → Option Nat
  | 0 => some 0
  | i + 1 => match letTo lt i with
    | none => none
    | some q => if 126 < lt i ∨ (lt i ≠ 0 ∧ q < i) then none else some (if lt i = 0 then q else q + 1)
theorem letTo_no {lt : Nat → Nat} {i : Nat} (h : letTo lt i = none) : ∀ k, letTo lt (i + k) = none
  | 0 => h
  | k + 1 => by rw [show i + (k + 1) = i + k + 1 by omega, letTo, letTo_no h k]
theorem letTo_le {lt : Nat → Nat} : ∀ {i q : Nat}, letTo lt i = some q → q ≤ i
  | 0, q, h => by cases h; exact Nat.le_refl _
  | i + 1, q, h => by
    rw [letTo] at h
    cases hs : letTo lt i with
    | none => rw [hs] at h; cases h
    | some q2 =>
      rw [hs] at h
      simp only at h
      have := letTo_le hs
      split at h
      · cases h
      · cases h; split <;> omega
set_option maxHeartbeats 1000000 in
theorem t_lettersIn (l : Launch) (G : GX) (ad : Nat → Nat) (ws : List CE) (W : Nat) (hW : W < 2 ^ 64) : Ct l G yX11_lettersIn cX11_lettersIn 5 (some .int) 1 0 0 ad ws [.long (lN W)] (pI ad (fun r ws2 => r = optI (letTo (letN W) 8) ∧ ws2 = ws)) := by
  refine Ct.of [some (.long (lN W)), none, none, none, none] (by decide +kernel) (Nat.le_of_ble_eq_true rfl) rfl ?_
  intro p e s m args below meth c A X
  refine V_iconstE X (nI 0) dX11_lettersIn_0 (by decide +kernel) ?_
  refine V_istore_n2 X dX11_lettersIn_1 (Nat.le_of_ble_eq_true rfl) rfl ?_
  refine V_iconstE X (nI 0) dX11_lettersIn_2 (by decide +kernel) ?_
  refine V_istore_n3 X dX11_lettersIn_3 (Nat.le_of_ble_eq_true rfl) rfl ?_
  refine V_loopP (fun k lv2 => ∃ (i q : Nat) (w4 : Option Value), i + k = 8 ∧ letTo (letN W) i = some q ∧ lv2 = [some (.long (lN W)), none, some (.int (nI q)), some (.int (nI i)), w4]) 8 ⟨0, 0, none, by omega, rfl, rfl⟩ ?_
  rintro k _ ⟨i, q, w4, hi, hq, rfl⟩ ih
  have hqi := letTo_le hq
  refine V_iload_n3 X dX11_lettersIn_4 ?_
  refine V_bipushE X (nI 8) dX11_lettersIn_5 (by decide +kernel) ?_
  refine V_icmp_ge X 50 dX11_lettersIn_7 (by decide) (fun h => ?_) (fun h => ?_)
  · have e9 : i = 8 := by have := (nI_leI (a := 8) (b := i) (by omega) (by omega)).mp h; omega
    subst e9
    refine V_iload_n2 X dX11_lettersIn_50 ?_
    exact V_iret X dX11_lettersIn_51 ⟨by rw [hq]; rfl, rfl⟩
  · have e9 : i < 8 := by
      rcases Nat.lt_or_ge i 8 with q9 | q9
      · exact q9
      · exact absurd ((nI_leI (a := 8) (b := i) (by omega) (by omega)).mpr q9) h
    have hlt : letN W i < 256 := Nat.mod_lt _ (by decide)
    have bad : (126 < letN W i ∨ (letN W i ≠ 0 ∧ q < i)) → V p l e (rmm 1 0 0) s m args below meth c 0 0 (MQ below (QQ G A (pI ad (fun r ws2 => r = optI (letTo (letN W) 8) ∧ ws2 = ws))) args s 0 0 A) G A 5 ad ws 34 [some (.long (lN W)), none, some (.int (nI q)), some (.int (nI i)), some (.int (nI (letN W i)))] [] := by
      intro hb
      have h1 : letTo (letN W) (i + 1) = none := by rw [letTo, hq]; simp only; rw [if_pos hb]
      have h2 := letTo_no h1 (8 - (i + 1))
      rw [show i + 1 + (8 - (i + 1)) = 8 by omega] at h2
      refine V_iconstE X (-1) dX11_lettersIn_34 (by decide +kernel) ?_
      exact V_iret X dX11_lettersIn_35 ⟨by rw [h2]; rfl, rfl⟩
    have good : ¬ (126 < letN W i ∨ (letN W i ≠ 0 ∧ q < i)) → V p l e (rmm 1 0 0) s m args below meth c 0 0 (MQ below (QQ G A (pI ad (fun r ws2 => r = optI (letTo (letN W) 8) ∧ ws2 = ws))) args s 0 0 A) G A 5 ad ws 36 [some (.long (lN W)), none, some (.int (nI q)), some (.int (nI i)), some (.int (nI (letN W i)))] [] := by
      intro hb
      have h1 : letTo (letN W) (i + 1) = some (if letN W i = 0 then q else q + 1) := by rw [letTo, hq]; simp only; rw [if_neg hb]
      refine V_iload_4 X dX11_lettersIn_36 ?_
      refine V_if_eq X 44 dX11_lettersIn_38 (by decide) (fun h6 => ?_) (fun h6 => ?_)
      · have e10 : letN W i = 0 := (nI_eq (b := 0) (by omega) (by omega)).mp h6
        rw [if_pos e10] at h1
        refine V_iinc_3 X dX11_lettersIn_44 (Nat.le_of_ble_eq_true rfl) rfl (inc1 _) ?_
        refine V_goto X 4 dX11_lettersIn_47 (by decide) ?_
        exact ih (k - 1) _ (by omega) ⟨i + 1, q, _, by omega, h1, rfl⟩
      · have e10 : ¬ letN W i = 0 := fun q9 => h6 (by rw [q9]; rfl)
        rw [if_neg e10] at h1
        refine V_iinc_2 X dX11_lettersIn_41 (Nat.le_of_ble_eq_true rfl) rfl (inc1 _) ?_
        refine V_iinc_3 X dX11_lettersIn_44 (Nat.le_of_ble_eq_true rfl) rfl (inc1 _) ?_
        refine V_goto X 4 dX11_lettersIn_47 (by decide) ?_
        exact ih (k - 1) _ (by omega) ⟨i + 1, q + 1, _, by omega, h1, rfl⟩
    refine V_lload_n0 X dX11_lettersIn_10 ?_
    refine V_iload_n3 X dX11_lettersIn_11 ?_
    refine V_cS2I X dX11_lettersIn_12 kX11_155 (t_letterIn l G ad ws W i hW e9) (Nat.le_of_ble_eq_true rfl) ⟨⟨Nat.le_of_ble_eq_true rfl, Nat.le_of_ble_eq_true rfl⟩, Nat.le_of_ble_eq_true rfl, Nat.le_of_ble_eq_true rfl⟩ (fun r ws2 hc => ?_)
    obtain ⟨rfl, hw9⟩ := hc
    obtain rfl := hw9.symm
    refine V_istore_4 X dX11_lettersIn_15 (Nat.le_of_ble_eq_true rfl) rfl ?_
    refine V_iload_4 X dX11_lettersIn_17 ?_
    refine V_bipushE X (nI 126) dX11_lettersIn_19 (by decide +kernel) ?_
    refine V_icmp_gt X 34 dX11_lettersIn_21 (by decide) (fun h6 => ?_) (fun h6 => ?_)
    · exact bad (Or.inl ((nI_ltI (a := 126) (by omega) (by omega)).mp h6))
    · have e10 : ¬ 126 < letN W i := fun q9 => h6 ((nI_ltI (a := 126) (by omega) (by omega)).mpr q9)
      refine V_iload_4 X dX11_lettersIn_24 ?_
      refine V_if_eq X 36 dX11_lettersIn_26 (by decide) (fun h7 => ?_) (fun h7 => ?_)
      · have e11 : letN W i = 0 := (nI_eq (b := 0) (by omega) (by omega)).mp h7
        exact good (fun q9 => q9.elim e10 (fun q8 => q8.1 e11))
      · have e11 : ¬ letN W i = 0 := fun q9 => h7 (by rw [q9]; rfl)
        refine V_iload_n2 X dX11_lettersIn_29 ?_
        refine V_iload_n3 X dX11_lettersIn_30 ?_
        refine V_icmp_ge X 36 dX11_lettersIn_31 (by decide) (fun h8 => ?_) (fun h8 => ?_)
        · have e12 := (nI_leI (by omega) (by omega)).mp h8
          exact good (fun q9 => q9.elim e10 (fun q8 => by omega))
        · have e12 : q < i := by
            rcases Nat.lt_or_ge q i with q9 | q9
            · exact q9
            · exact absurd ((nI_leI (by omega) (by omega)).mpr q9) h8
          exact bad (Or.inr ⟨e11, e12⟩)
/-! a judge's text -/
def isDg (x least : Nat) : Bool := decide (48 + least ≤ x) && decide (x ≤ 57)
theorem t_isDigit (l : Launch) (G : GX) (ad : Nat → Nat) (ws : List CE) (x le : Nat) (hx : x < 1000) (hle : le < 1000) : Ct l G yX11_isDigit cX11_isDigit 2 (some .boolean) 0 0 0 ad ws [.int (nI x), .int (nI le)] (pI ad (fun r ws2 => r = bI (isDg x le) ∧ ws2 = ws)) := by
  refine Ct.of [some (.int (nI x)), some (.int (nI le))] (by decide +kernel) (Nat.le_of_ble_eq_true rfl) rfl ?_
  intro p e s m args below meth c A X
  refine V_iload_n0 X dX11_isDigit_0 ?_
  refine V_bipushE X (nI 48) dX11_isDigit_1 (by decide +kernel) ?_
  refine V_iload_n1 X dX11_isDigit_3 ?_
  refine V_iadd X dX11_isDigit_4 ?_
  rw [nI_add]
  refine V_icmp_lt X 18 dX11_isDigit_5 (by decide) (fun h => ?_) (fun h => ?_)
  · have e9 : ¬ 48 + le ≤ x := by have := (nI_ltI (by omega) (by omega)).mp h; omega
    refine V_iconstE X (nI 0) dX11_isDigit_18 (by decide +kernel) ?_
    exact V_zret X dX11_isDigit_19 rfl ⟨by simp [isDg, bI, e9], rfl⟩
  · have e9 : 48 + le ≤ x := by
      rcases Nat.lt_or_ge x (48 + le) with q9 | q9
      · exact absurd ((nI_ltI (by omega) (by omega)).mpr q9) h
      · exact q9
    refine V_iload_n0 X dX11_isDigit_8 ?_
    refine V_bipushE X (nI 57) dX11_isDigit_9 (by decide +kernel) ?_
    refine V_icmp_gt X 18 dX11_isDigit_11 (by decide) (fun h2 => ?_) (fun h2 => ?_)
    · have e10 : ¬ x ≤ 57 := by have := (nI_ltI (a := 57) (by omega) (by omega)).mp h2; omega
      refine V_iconstE X (nI 0) dX11_isDigit_18 (by decide +kernel) ?_
      exact V_zret X dX11_isDigit_19 rfl ⟨by simp [isDg, bI, e10], rfl⟩
    · have e10 : x ≤ 57 := by
        rcases Nat.lt_or_ge 57 x with q9 | q9
        · exact absurd ((nI_ltI (a := 57) (by omega) (by omega)).mpr q9) h2
        · exact q9
      refine V_iconstE X (nI 1) dX11_isDigit_14 (by decide +kernel) ?_
      refine V_goto X 19 dX11_isDigit_15 (by decide) ?_
      exact V_zret X dX11_isDigit_19 rfl ⟨by simp [isDg, bI, e9, e10], rfl⟩
def scanD (pg : Nat → Nat) : Nat → Nat → Nat
  | 0, i => i
  | k + 1, i => if isDg (pg i) 0 then scanD pg k (i + 1) else i
def bangP (np : Nat) (pg : Nat → Nat) (i : Nat) : Nat := if i < np ∧ pg i = 33 then i + 1 else i
def faultT (n np : Nat) (pg : Nat → Nat) (i : Nat) : Nat := if i < n then i else if i < np ∧ pg i = 43 then (if i + 1 = np ∨ isDg (pg (i + 1)) 1 = false then i + 1 else bangP np pg (i + 2)) else bangP np pg i
def faultP (n np : Nat) (pg : Nat → Nat) : Nat := faultT n np pg (scanD pg (min np n) 0)
set_option maxHeartbeats 1000000 in
theorem t_firstFault (l : Launch) (G : GX) (ad : Nat → Nat) (ws : List CE) (n np : Nat) (pg : Nat → Nat) (hR : RowN ws 21 22 10 np pg) (hn : n ≤ 4) (hpg : ∀ i, i < np → pg i < 256) : Ct l G yX11_firstFault cX11_firstFault 4 (some .int) 2 0 0 ad ws [.ref 21, .int (nI n)] (pI ad (fun r ws2 => r = nI (faultP n np pg) ∧ ws2 = ws)) := by
  refine Ct.of [some (.ref 21), some (.int (nI n)), none, none] (by decide +kernel) (Nat.le_of_ble_eq_true rfl) rfl ?_
  intro p e s m args below meth c A X
  obtain ⟨fp, hR1, hR2⟩ := hR
  have z21 := hR1.1
  have hnp := hR1.2.2.1
  refine V_aload_n0 X dX11_firstFault_0 ?_
  refine V_cV0I X dX11_firstFault_1 kX11_154 (t_Rsize l G ad ws 21 22 10 np fp hR1) (by assumption) (by rfl) (Nat.le_of_ble_eq_true rfl) ⟨⟨Nat.le_of_ble_eq_true rfl, Nat.le_of_ble_eq_true rfl⟩, Nat.le_of_ble_eq_true rfl, Nat.le_of_ble_eq_true rfl⟩ (fun r ws2 hc => ?_)
  obtain ⟨rfl, hw9⟩ := hc
  obtain rfl := hw9.symm
  refine V_istore_n2 X dX11_firstFault_4 (Nat.le_of_ble_eq_true rfl) rfl ?_
  refine V_iconstE X (nI 0) dX11_firstFault_5 (by decide +kernel) ?_
  refine V_istore_n3 X dX11_firstFault_6 (Nat.le_of_ble_eq_true rfl) rfl ?_
  have bang : ∀ i, i ≤ np + 2 → bangP np pg i = faultP n np pg → V p l e (rmm 2 0 0) s m args below meth c 0 0 (MQ below (QQ G A (pI ad (fun r ws2 => r = nI (faultP n np pg) ∧ ws2 = ws))) args s 0 0 A) G A 4 ad ws 82 [some (.ref 21), some (.int (nI n)), some (.int (nI np)), some (.int (nI i))] [] := by
    intro i hi hb
    unfold bangP at hb
    refine V_iload_n3 X dX11_firstFault_82 ?_
    refine V_iload_n2 X dX11_firstFault_83 ?_
    refine V_icmp_ge X 100 dX11_firstFault_84 (by decide) (fun h6 => ?_) (fun h6 => ?_)
    · have e10 := (nI_leI (by omega) (by omega)).mp h6
      rw [if_neg (fun q9 => by omega)] at hb
      refine V_iload_n3 X dX11_firstFault_100 ?_
      exact V_iret X dX11_firstFault_101 ⟨by rw [hb], rfl⟩
    · have e10 : i < np := by
        rcases Nat.lt_or_ge i np with q9 | q9
        · exact q9
        · exact absurd ((nI_leI (by omega) (by omega)).mpr q9) h6
      have hx := hpg i e10
      refine V_aload_n0 X dX11_firstFault_87 ?_
      refine V_iload_n3 X dX11_firstFault_88 ?_
      refine V_cV1I X dX11_firstFault_89 kX11_147 (t_Rget l G ad ws 21 22 10 np fp hR1 _) (by assumption) (by rfl) (Nat.le_of_ble_eq_true rfl) ⟨⟨Nat.le_of_ble_eq_true rfl, Nat.le_of_ble_eq_true rfl⟩, Nat.le_of_ble_eq_true rfl, Nat.le_of_ble_eq_true rfl⟩ (fun r ws2 hc => ?_)
      obtain ⟨rfl, hw9⟩ := hc
      obtain rfl := hw9.symm
      rw [getR_nI (by omega) e10, hR2 i e10]
      refine V_bipushE X (nI 33) dX11_firstFault_92 (by decide +kernel) ?_
      refine V_icmp_ne X 100 dX11_firstFault_94 (by decide) (fun h7 => ?_) (fun h7 => ?_)
      · have e11 : ¬ pg i = 33 := fun q9 => h7 (by rw [q9])
        rw [if_neg (fun q9 => e11 q9.2)] at hb
        refine V_iload_n3 X dX11_firstFault_100 ?_
        exact V_iret X dX11_firstFault_101 ⟨by rw [hb], rfl⟩
      · have e11 : pg i = 33 := (nI_eq (b := 33) (by omega) (by omega)).mp h7
        rw [if_pos ⟨e10, e11⟩] at hb
        refine V_iinc_3 X dX11_firstFault_97 (Nat.le_of_ble_eq_true rfl) rfl (inc1 _) ?_
        refine V_iload_n3 X dX11_firstFault_100 ?_
        exact V_iret X dX11_firstFault_101 ⟨by rw [hb], rfl⟩
  have tail : ∀ i, i ≤ np → faultT n np pg i = faultP n np pg → V p l e (rmm 2 0 0) s m args below meth c 0 0 (MQ below (QQ G A (pI ad (fun r ws2 => r = nI (faultP n np pg) ∧ ws2 = ws))) args s 0 0 A) G A 4 ad ws 35 [some (.ref 21), some (.int (nI n)), some (.int (nI np)), some (.int (nI i))] [] := by
    intro i hi hb
    unfold faultT at hb
    refine V_iload_n3 X dX11_firstFault_35 ?_
    refine V_iload_n1 X dX11_firstFault_36 ?_
    refine V_icmp_ge X 42 dX11_firstFault_37 (by decide) (fun h6 => ?_) (fun h6 => ?_)
    · have e10 := (nI_leI (by omega) (by omega)).mp h6
      rw [if_neg (by omega)] at hb
      refine V_iload_n3 X dX11_firstFault_42 ?_
      refine V_iload_n2 X dX11_firstFault_43 ?_
      refine V_icmp_ge X 82 dX11_firstFault_44 (by decide) (fun h7 => ?_) (fun h7 => ?_)
      · have e11 := (nI_leI (by omega) (by omega)).mp h7
        rw [if_neg (fun q9 => by omega)] at hb
        exact bang i (by omega) hb
      · have e11 : i < np := by
          rcases Nat.lt_or_ge i np with q9 | q9
          · exact q9
          · exact absurd ((nI_leI (by omega) (by omega)).mpr q9) h7
        have hx := hpg i e11
        refine V_aload_n0 X dX11_firstFault_47 ?_
        refine V_iload_n3 X dX11_firstFault_48 ?_
        refine V_cV1I X dX11_firstFault_49 kX11_147 (t_Rget l G ad ws 21 22 10 np fp hR1 _) (by assumption) (by rfl) (Nat.le_of_ble_eq_true rfl) ⟨⟨Nat.le_of_ble_eq_true rfl, Nat.le_of_ble_eq_true rfl⟩, Nat.le_of_ble_eq_true rfl, Nat.le_of_ble_eq_true rfl⟩ (fun r ws2 hc => ?_)
        obtain ⟨rfl, hw9⟩ := hc
        obtain rfl := hw9.symm
        rw [getR_nI (by omega) e11, hR2 i e11]
        refine V_bipushE X (nI 43) dX11_firstFault_52 (by decide +kernel) ?_
        refine V_icmp_ne X 82 dX11_firstFault_54 (by decide) (fun h8 => ?_) (fun h8 => ?_)
        · have e12 : ¬ pg i = 43 := fun q9 => h8 (by rw [q9])
          rw [if_neg (fun q9 => e12 q9.2)] at hb
          exact bang i (by omega) hb
        · have e12 : pg i = 43 := (nI_eq (b := 43) (by omega) (by omega)).mp h8
          rw [if_pos ⟨e11, e12⟩] at hb
          refine V_iinc_3 X dX11_firstFault_57 (Nat.le_of_ble_eq_true rfl) rfl (inc1 _) ?_
          refine V_iload_n3 X dX11_firstFault_60 ?_
          refine V_iload_n2 X dX11_firstFault_61 ?_
          refine V_icmp_eq X 77 dX11_firstFault_62 (by decide) (fun h9 => ?_) (fun h9 => ?_)
          · have e13 : i + 1 = np := (nI_eq (by omega) (by omega)).mp h9
            rw [if_pos (Or.inl e13)] at hb
            refine V_iload_n3 X dX11_firstFault_77 ?_
            exact V_iret X dX11_firstFault_78 ⟨by rw [hb], rfl⟩
          · have e13 : ¬ i + 1 = np := fun q9 => h9 (by rw [q9])
            have hx2 := hpg (i + 1) (by omega)
            refine V_aload_n0 X dX11_firstFault_65 ?_
            refine V_iload_n3 X dX11_firstFault_66 ?_
            refine V_cV1I X dX11_firstFault_67 kX11_147 (t_Rget l G ad ws 21 22 10 np fp hR1 _) (by assumption) (by rfl) (Nat.le_of_ble_eq_true rfl) ⟨⟨Nat.le_of_ble_eq_true rfl, Nat.le_of_ble_eq_true rfl⟩, Nat.le_of_ble_eq_true rfl, Nat.le_of_ble_eq_true rfl⟩ (fun r ws2 hc => ?_)
            obtain ⟨rfl, hw9⟩ := hc
            obtain rfl := hw9.symm
            rw [getR_nI (by omega) (by omega), hR2 (i + 1) (by omega)]
            refine V_iconstE X (nI 1) dX11_firstFault_70 (by decide +kernel) ?_
            refine V_cS2I X dX11_firstFault_71 kX11_265 (t_isDigit l G ad ws (pg (i + 1)) 1 (by omega) (by omega)) (Nat.le_of_ble_eq_true rfl) ⟨⟨Nat.le_of_ble_eq_true rfl, Nat.le_of_ble_eq_true rfl⟩, Nat.le_of_ble_eq_true rfl, Nat.le_of_ble_eq_true rfl⟩ (fun r ws2 hc => ?_)
            obtain ⟨rfl, hw9⟩ := hc
            obtain rfl := hw9.symm
            refine V_if_ne X 79 dX11_firstFault_74 (by decide) (fun h10 => ?_) (fun h10 => ?_)
            · have e14 := b_of1 h10
              rw [if_neg (fun q9 => q9.elim e13 (fun q8 => by rw [e14] at q8; cases q8))] at hb
              refine V_iinc_3 X dX11_firstFault_79 (Nat.le_of_ble_eq_true rfl) rfl (inc1 _) ?_
              exact bang (i + 1 + 1) (by omega) hb
            · have e14 := b_of0 h10
              rw [if_pos (Or.inr e14)] at hb
              refine V_iload_n3 X dX11_firstFault_77 ?_
              exact V_iret X dX11_firstFault_78 ⟨by rw [hb], rfl⟩
    · have e10 : i < n := by
        rcases Nat.lt_or_ge i n with q9 | q9
        · exact q9
        · exact absurd ((nI_leI (by omega) (by omega)).mpr q9) h6
      rw [if_pos e10] at hb
      refine V_iload_n3 X dX11_firstFault_40 ?_
      exact V_iret X dX11_firstFault_41 ⟨by rw [hb], rfl⟩
  refine V_loopP (fun k lv2 => ∃ i : Nat, i + k = min np n ∧ scanD pg k i = scanD pg (min np n) 0 ∧ lv2 = [some (.ref 21), some (.int (nI n)), some (.int (nI np)), some (.int (nI i))]) (min np n) ⟨0, by omega, rfl, rfl⟩ ?_
  rintro k _ ⟨i, hi, hsc, rfl⟩ ih
  refine V_iload_n3 X dX11_firstFault_7 ?_
  refine V_iload_n2 X dX11_firstFault_8 ?_
  refine V_icmp_ge X 35 dX11_firstFault_9 (by decide) (fun h => ?_) (fun h => ?_)
  · have e9 := (nI_leI (by omega) (by omega)).mp h
    have e10 : k = 0 := by omega
    subst e10
    exact tail i (by omega) (by rw [faultP, ← hsc]; rfl)
  · have e9 : i < np := by
      rcases Nat.lt_or_ge i np with q9 | q9
      · exact q9
      · exact absurd ((nI_leI (by omega) (by omega)).mpr q9) h
    refine V_iload_n3 X dX11_firstFault_12 ?_
    refine V_iload_n1 X dX11_firstFault_13 ?_
    refine V_icmp_ge X 35 dX11_firstFault_14 (by decide) (fun h2 => ?_) (fun h2 => ?_)
    · have e10 := (nI_leI (by omega) (by omega)).mp h2
      have e11 : k = 0 := by omega
      subst e11
      exact tail i (by omega) (by rw [faultP, ← hsc]; rfl)
    · have e10 : i < n := by
        rcases Nat.lt_or_ge i n with q9 | q9
        · exact q9
        · exact absurd ((nI_leI (by omega) (by omega)).mpr q9) h2
      obtain ⟨k, rfl⟩ : ∃ k2, k = k2 + 1 := ⟨k - 1, by omega⟩
      rw [scanD] at hsc
      have hx := hpg i e9
      refine V_aload_n0 X dX11_firstFault_17 ?_
      refine V_iload_n3 X dX11_firstFault_18 ?_
      refine V_cV1I X dX11_firstFault_19 kX11_147 (t_Rget l G ad ws 21 22 10 np fp hR1 _) (by assumption) (by rfl) (Nat.le_of_ble_eq_true rfl) ⟨⟨Nat.le_of_ble_eq_true rfl, Nat.le_of_ble_eq_true rfl⟩, Nat.le_of_ble_eq_true rfl, Nat.le_of_ble_eq_true rfl⟩ (fun r ws2 hc => ?_)
      obtain ⟨rfl, hw9⟩ := hc
      obtain rfl := hw9.symm
      rw [getR_nI (by omega) e9, hR2 i e9]
      refine V_iconstE X (nI 0) dX11_firstFault_22 (by decide +kernel) ?_
      refine V_cS2I X dX11_firstFault_23 kX11_265 (t_isDigit l G ad ws (pg i) 0 (by omega) (by omega)) (Nat.le_of_ble_eq_true rfl) ⟨⟨Nat.le_of_ble_eq_true rfl, Nat.le_of_ble_eq_true rfl⟩, Nat.le_of_ble_eq_true rfl, Nat.le_of_ble_eq_true rfl⟩ (fun r ws2 hc => ?_)
      obtain ⟨rfl, hw9⟩ := hc
      obtain rfl := hw9.symm
      refine V_if_eq X 35 dX11_firstFault_26 (by decide) (fun h3 => ?_) (fun h3 => ?_)
      · have e11 := b_of0 h3
        rw [if_neg (by rw [e11]; decide)] at hsc
        exact tail i (by omega) (by rw [faultP, ← hsc])
      · have e11 := b_of1 h3
        rw [if_pos e11] at hsc
        refine V_iinc_3 X dX11_firstFault_29 (Nat.le_of_ble_eq_true rfl) rfl (inc1 _) ?_
        refine V_goto X 7 dX11_firstFault_32 (by decide) ?_
        exact ih k _ (by omega) ⟨i + 1, by omega, hsc, rfl⟩
theorem scanD_le (pg : Nat → Nat) : ∀ k i, scanD pg k i ≤ i + k
  | 0, i => Nat.le_refl _
  | k + 1, i => by
    rw [scanD]
    split
    · have := scanD_le pg k (i + 1); omega
    · omega
theorem faultP_le {n np : Nat} {pg : Nat → Nat} (hn : n ≤ 4) (hp : np ≤ 10) : faultP n np pg ≤ 12 := by
  have := scanD_le pg (min np n) 0
  unfold faultP faultT bangP
  split
  · omega
  · split
    · split
      · omega
      · split <;> omega
    · split <;> omega
def isJ (n np : Nat) (pg : Nat → Nat) : Bool := decide (n ≤ np) && decide (faultP n np pg = np) && decide (¬ pg (np - 1) = 43)
theorem t_isJudge (l : Launch) (G : GX) (ad : Nat → Nat) (ws : List CE) (n np : Nat) (pg : Nat → Nat) (hR : RowN ws 21 22 10 np pg) (hn : n ≤ 4) (hn0 : 0 < n) (hpg : ∀ i, i < np → pg i < 256) : Ct l G yX11_isJudge cX11_isJudge 3 (some .boolean) 3 0 0 ad ws [.ref 21, .int (nI n)] (pI ad (fun r ws2 => r = bI (isJ n np pg) ∧ ws2 = ws)) := by
  refine Ct.of [some (.ref 21), some (.int (nI n)), none] (by decide +kernel) (Nat.le_of_ble_eq_true rfl) rfl ?_
  intro p e s m args below meth c A X
  have hR0 := hR
  obtain ⟨fp, hR1, hR2⟩ := hR
  have z21 := hR1.1
  have hnp := hR1.2.2.1
  have hfl := faultP_le (n := n) (np := np) (pg := pg) hn (by omega)
  refine V_aload_n0 X dX11_isJudge_0 ?_
  refine V_cV0I X dX11_isJudge_1 kX11_154 (t_Rsize l G ad ws 21 22 10 np fp hR1) (by assumption) (by rfl) (Nat.le_of_ble_eq_true rfl) ⟨⟨Nat.le_of_ble_eq_true rfl, Nat.le_of_ble_eq_true rfl⟩, Nat.le_of_ble_eq_true rfl, Nat.le_of_ble_eq_true rfl⟩ (fun r ws2 hc => ?_)
  obtain ⟨rfl, hw9⟩ := hc
  obtain rfl := hw9.symm
  refine V_istore_n2 X dX11_isJudge_4 (Nat.le_of_ble_eq_true rfl) rfl ?_
  refine V_iload_n2 X dX11_isJudge_5 ?_
  refine V_iload_n1 X dX11_isJudge_6 ?_
  refine V_icmp_lt X 32 dX11_isJudge_7 (by decide) (fun h => ?_) (fun h => ?_)
  · have e9 : ¬ n ≤ np := by have := (nI_ltI (by omega) (by omega)).mp h; omega
    refine V_iconstE X (nI 0) dX11_isJudge_32 (by decide +kernel) ?_
    exact V_zret X dX11_isJudge_33 rfl ⟨by simp [isJ, bI, e9], rfl⟩
  · have e9 : n ≤ np := by
      rcases Nat.lt_or_ge np n with q9 | q9
      · exact absurd ((nI_ltI (by omega) (by omega)).mpr q9) h
      · exact q9
    refine V_aload_n0 X dX11_isJudge_10 ?_
    refine V_iload_n1 X dX11_isJudge_11 ?_
    refine V_cS2I X dX11_isJudge_12 kX11_162 (t_firstFault l G ad ws n np pg hR0 hn hpg) (Nat.le_of_ble_eq_true rfl) ⟨⟨Nat.le_of_ble_eq_true rfl, Nat.le_of_ble_eq_true rfl⟩, Nat.le_of_ble_eq_true rfl, Nat.le_of_ble_eq_true rfl⟩ (fun r ws2 hc => ?_)
    obtain ⟨rfl, hw9⟩ := hc
    obtain rfl := hw9.symm
    refine V_iload_n2 X dX11_isJudge_15 ?_
    refine V_icmp_ne X 32 dX11_isJudge_16 (by decide) (fun h2 => ?_) (fun h2 => ?_)
    · have e10 : ¬ faultP n np pg = np := fun q9 => h2 (by rw [q9])
      refine V_iconstE X (nI 0) dX11_isJudge_32 (by decide +kernel) ?_
      exact V_zret X dX11_isJudge_33 rfl ⟨by simp [isJ, bI, e10], rfl⟩
    · have e10 : faultP n np pg = np := (nI_eq (by omega) (by omega)).mp h2
      have hx := hpg (np - 1) (by omega)
      refine V_aload_n0 X dX11_isJudge_19 ?_
      refine V_cV0I X dX11_isJudge_20 kX11_138 (t_Rlast l G ad ws 21 22 10 np fp hR1 (by omega)) (by assumption) (by rfl) (Nat.le_of_ble_eq_true rfl) ⟨⟨Nat.le_of_ble_eq_true rfl, Nat.le_of_ble_eq_true rfl⟩, Nat.le_of_ble_eq_true rfl, Nat.le_of_ble_eq_true rfl⟩ (fun r ws2 hc => ?_)
      obtain ⟨rfl, hw9⟩ := hc
      obtain rfl := hw9.symm
      rw [hR2 _ (by omega)]
      refine V_bipushE X (nI 43) dX11_isJudge_23 (by decide +kernel) ?_
      refine V_icmp_eq X 32 dX11_isJudge_25 (by decide) (fun h3 => ?_) (fun h3 => ?_)
      · have e11 : pg (np - 1) = 43 := (nI_eq (b := 43) (by omega) (by omega)).mp h3
        refine V_iconstE X (nI 0) dX11_isJudge_32 (by decide +kernel) ?_
        exact V_zret X dX11_isJudge_33 rfl ⟨by simp [isJ, bI, e11], rfl⟩
      · have e11 : ¬ pg (np - 1) = 43 := fun q9 => h3 (by rw [q9])
        refine V_iconstE X (nI 1) dX11_isJudge_28 (by decide +kernel) ?_
        refine V_goto X 33 dX11_isJudge_29 (by decide) ?_
        exact V_zret X dX11_isJudge_33 rfl ⟨by simp [isJ, bI, e9, e10, e11], rfl⟩
