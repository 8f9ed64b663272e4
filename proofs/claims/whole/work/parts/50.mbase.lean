/-! the reference: its object, its rows, the small things -/
abbrev MO (n mm np : Nat) (rm sa : Int32) (nj tr : Nat) (sd : Int32) (pn hn : Nat) (kl kp kh : Int32) (hs : Int64) : CE := oB 12 [.int (nI n), .ref 30, .ref 31, .int (nI mm), .ref 32, .ref 33, .ref 34, .int (nI np), .int rm, .int sa, .ref 35, .int (nI nj), .ref 36, .ref 37, .ref 38, .int (nI tr), .int sd, .int (nI pn), .int (nI hn), .ref 39, .ref 40, .ref 41, .ref 42, .int kl, .int kp, .int kh, .ref 43, .ref 44, .ref 45, .ref 46, .long hs]
def AI (ws : List CE) (k N m : Nat) (U : Nat → Nat) : Prop := ∃ f : Nat → Int32, ws[k]? = some (iA N f) ∧ ∀ i, i < m → f i = nI (U i)
theorem AI.fr {ks : List Nat} {ws ws2 : List CE} {k N m : Nat} {U : Nat → Nat} (h : AI ws k N m U) (hf : fr ks ws ws2) (hk : k ∉ ks) : AI ws2 k N m U := by
  obtain ⟨f, h1, h2⟩ := h
  exact ⟨f, hf.get hk h1, h2⟩
theorem c_le {a b : Nat} (h : nI a ≤ nI b) (ha : a < 2147483648 := by omega) (hb : b < 2147483648 := by omega) : a ≤ b := (nI_leI (by omega) (by omega)).mp h
theorem c_nle {a b : Nat} (h : ¬ nI a ≤ nI b) (ha : a < 2147483648 := by omega) (hb : b < 2147483648 := by omega) : b < a := by
  rcases Nat.lt_or_ge b a with q | q
  · exact q
  · exact absurd ((nI_leI (by omega) (by omega)).mpr q) h
theorem c_lt {a b : Nat} (h : nI a < nI b) (ha : a < 2147483648 := by omega) (hb : b < 2147483648 := by omega) : a < b := (nI_ltI (by omega) (by omega)).mp h
theorem c_nlt {a b : Nat} (h : ¬ nI a < nI b) (ha : a < 2147483648 := by omega) (hb : b < 2147483648 := by omega) : b ≤ a := by
  rcases Nat.lt_or_ge a b with q | q
  · exact absurd ((nI_ltI (by omega) (by omega)).mpr q) h
  · exact q
theorem c_eq {a b : Nat} (h : nI a = nI b) (ha : a < 2147483648 := by omega) (hb : b < 2147483648 := by omega) : a = b := (nI_eq (by omega) (by omega)).mp h
theorem c_ne {a b : Nat} (h : ¬ nI a = nI b) : a ≠ b := fun e => h (by rw [e])
theorem c_eq0 {a : Nat} (h : nI a = 0) (ha : a < 2147483648 := by omega) : a = 0 := by
  rcases Nat.eq_zero_or_pos a with q | q
  · exact q
  · exact absurd h (nI_ne0 q (by omega))
theorem c_ne0 {a : Nat} (h : ¬ nI a = 0) : 0 < a := by
  rcases Nat.eq_zero_or_pos a with q | q
  · exact absurd (by rw [q]; exact nI_0) h
  · exact q
theorem c_le0 {a : Nat} (h : nI a ≤ 0) (ha : a < 2147483648 := by omega) : a = 0 := by
  rcases Nat.eq_zero_or_pos a with q | q
  · exact q
  · exact absurd h (nI_nle q (by omega))
theorem c_nle0 {a : Nat} (h : ¬ nI a ≤ 0) : 0 < a := by
  rcases Nat.eq_zero_or_pos a with q | q
  · exact absurd (by rw [q]; decide +kernel) h
  · exact q
def inL (a lo hi : Int64) : Bool := decide (¬ a < lo) && decide (¬ hi < a)
theorem inL_int (a lo hi : Int64) : inL a lo hi = decide (lo.toInt ≤ a.toInt ∧ a.toInt ≤ hi.toInt) := by
  rw [Bool.eq_iff_iff]
  simp only [inL, Bool.and_eq_true, decide_eq_true_eq, Int64.lt_iff_toInt_lt, Int.not_lt]
theorem inR_int {n : Nat} (hn : n < 2147483648) (x : Int32) : inR n x = decide (0 ≤ x.toInt ∧ x.toInt < n) := by
  rw [Bool.eq_iff_iff]
  simp only [inR, Bool.and_eq_true, decide_eq_true_eq, Int32.lt_iff_toInt_lt, Int32.le_iff_toInt_le, nI_toInt (show n < 2 ^ 31 by omega), Int.not_lt, Int.not_le]
  rfl
theorem nb_bI (b : Bool) : narrow .boolean (.int (bI b)) = .int (bI b) := by cases b <;> rfl
theorem inL_n {n : Nat} (hn : n < 1000000000) (x : Int32) : inL x.toInt64 (lN 0) ((nI n - nI 1).toInt64) = inR n x := by
  rw [inL_int, inR_int (by omega), Int32.toInt_toInt64, Int32.toInt_toInt64, pk_sub_toInt (by omega) (by decide), pk_lT (by decide)]
  congr 1
  apply propext
  constructor <;> intro h <;> omega
theorem inL_k {x : Int32} {n : Nat} {hi : Int64} (hn : n < 1000000000) (h : hi.toInt = (n : Int) - 1) : inL x.toInt64 (lN 0) hi = inR n x := by
  rw [inL_int, inR_int (by omega), Int32.toInt_toInt64, h, pk_lT (by decide)]
  congr 1
  apply propext
  constructor <;> intro h <;> omega
theorem m_in (l : Launch) (G : GX) (ad : Nat → Nat) (ws : List CE) (a lo hi : Int64) : Ct l G yX12_in cX12_in 6 (some .boolean) 0 0 0 ad ws [.long a, .long lo, .long hi] (pI ad (fun r ws2 => r = bI (inL a lo hi) ∧ ws2 = ws)) := by
  refine Ct.of [some (.long a), none, some (.long lo), none, some (.long hi), none] (by decide +kernel) (Nat.le_of_ble_eq_true rfl) rfl ?_
  intro p e s m args below meth c A X
  refine V_lload_n0 X dX12_in_0 ?_
  refine V_lload_n2 X dX12_in_1 ?_
  refine V_lcmp X dX12_in_2 ?_
  refine V_if_lt X 17 dX12_in_3 (by decide) (fun h => ?_) (fun h => ?_)
  · have h1 := (lg_cmp_lt _ _).mp h
    refine V_iconstE X (nI 0) dX12_in_17 (by decide +kernel) ?_
    exact V_zret X dX12_in_18 rfl ⟨by simp [inL, h1, bI], rfl⟩
  · have h1 := fun q => h ((lg_cmp_lt _ _).mpr q)
    refine V_lload_n0 X dX12_in_6 ?_
    refine V_lload_4 X dX12_in_7 ?_
    refine V_lcmp X dX12_in_9 ?_
    refine V_if_gt X 17 dX12_in_10 (by decide) (fun h2 => ?_) (fun h2 => ?_)
    · have h3 := (lg_cmp_gt _ _).mp h2
      refine V_iconstE X (nI 0) dX12_in_17 (by decide +kernel) ?_
      exact V_zret X dX12_in_18 rfl ⟨by simp [inL, h3, bI], rfl⟩
    · have h3 := fun q => h2 ((lg_cmp_gt _ _).mpr q)
      refine V_iconstE X (nI 1) dX12_in_13 (by decide +kernel) ?_
      refine V_goto X 18 dX12_in_14 (by decide) ?_
      exact V_zret X dX12_in_18 rfl ⟨by rw [inL, decide_eq_true (show ¬ a < lo from h1), decide_eq_true (show ¬ hi < a from h3)]; rfl, rfl⟩
theorem m_isFeature (l : Launch) (G : GX) (ad : Nat → Nat) (ws : List CE) {n mm np : Nat} {rm sa : Int32} {nj tr : Nat} {sd : Int32} {pn hn : Nat} {kl kp kh : Int32} {hs : Int64} (hO : ws[29]? = some (MO n mm np rm sa nj tr sd pn hn kl kp kh hs)) (h4 : n ≤ 4) (x : Int32) : Ct l G yX12_isFeature cX12_isFeature 2 (some .boolean) 1 0 0 ad ws [.ref 29, .int x] (pI ad (fun r ws2 => r = bI (inR n x) ∧ ws2 = ws)) := by
  refine Ct.of [some (.ref 29), some (.int x)] (by decide +kernel) (Nat.le_of_ble_eq_true rfl) rfl ?_
  intro p e s m args below meth c A X
  refine V_iload_n1 X dX12_isFeature_0 ?_
  refine V_i2l X dX12_isFeature_1 ?_
  refine V_lconstE X (lN 0) dX12_isFeature_2 (by decide +kernel) ?_
  refine V_aload_n0 X dX12_isFeature_3 ?_
  refine V_getf X dX12_isFeature_4 fX12_65 (by assumption) (by rfl) ?_
  refine V_iconstE X (nI 1) dX12_isFeature_7 (by decide +kernel) ?_
  refine V_isub X dX12_isFeature_8 ?_
  refine V_i2l X dX12_isFeature_9 ?_
  refine V_cS3I X dX12_isFeature_10 kX12_68 (m_in l G ad ws _ _ _) (Nat.le_of_ble_eq_true rfl) ⟨⟨Nat.le_of_ble_eq_true rfl, Nat.le_of_ble_eq_true rfl⟩, Nat.le_of_ble_eq_true rfl, Nat.le_of_ble_eq_true rfl⟩ (fun r ws2 hc => ?_)
  obtain ⟨rfl, hw9⟩ := hc
  obtain rfl := hw9.symm
  rw [inL_n (by omega)]
  exact V_zret X dX12_isFeature_13 (nb_bI _) ⟨rfl, rfl⟩
theorem m_lacks (l : Launch) (G : GX) (ad : Nat → Nat) (ws : List CE) {n mm np : Nat} {rm sa : Int32} {nj tr : Nat} {sd : Int32} {pn hn : Nat} {kl kp kh : Int32} {hs : Int64} (hO : ws[29]? = some (MO n mm np rm sa nj tr sd pn hn kl kp kh hs)) (h6 : mm ≤ 60) : Ct l G yX12_lacks cX12_lacks 1 (some .boolean) 0 0 0 ad ws [.ref 29] (pI ad (fun r ws2 => r = bI (decide (mm = 0)) ∧ ws2 = ws)) := by
  refine Ct.of [some (.ref 29)] (by decide +kernel) (Nat.le_of_ble_eq_true rfl) rfl ?_
  intro p e s m args below meth c A X
  refine V_aload_n0 X dX12_lacks_0 ?_
  refine V_getf X dX12_lacks_1 fX12_72 (by assumption) (by rfl) ?_
  refine V_if_ne X 11 dX12_lacks_4 (by decide) (fun h => ?_) (fun h => ?_)
  · have := c_ne0 h
    refine V_iconstE X (nI 0) dX12_lacks_11 (by decide +kernel) ?_
    exact V_zret X dX12_lacks_12 rfl ⟨by simp [bI, show ¬ mm = 0 by omega], rfl⟩
  · have := c_eq0 h
    refine V_iconstE X (nI 1) dX12_lacks_7 (by decide +kernel) ?_
    refine V_goto X 12 dX12_lacks_8 (by decide) ?_
    exact V_zret X dX12_lacks_12 rfl ⟨by simp [bI, this], rfl⟩
theorem m_portraits (l : Launch) (G : GX) (ad : Nat → Nat) (ws : List CE) {n mm np : Nat} {rm sa : Int32} {nj tr : Nat} {sd : Int32} {pn hn : Nat} {kl kp kh : Int32} {hs : Int64} (hO : ws[29]? = some (MO n mm np rm sa nj tr sd pn hn kl kp kh hs)) (h4 : n ≤ 4) : Ct l G yX12_portraits cX12_portraits 3 (some .int) 0 0 0 ad ws [.ref 29] (pI ad (fun r ws2 => r = nI (10 ^ n) ∧ ws2 = ws)) := by
  refine Ct.of [some (.ref 29), none, none] (by decide +kernel) (Nat.le_of_ble_eq_true rfl) rfl ?_
  intro p e s m args below meth c A X
  refine V_iconstE X (nI 1) dX12_portraits_0 (by decide +kernel) ?_
  refine V_istore_n1 X dX12_portraits_1 (Nat.le_of_ble_eq_true rfl) rfl ?_
  refine V_iconstE X (nI 0) dX12_portraits_2 (by decide +kernel) ?_
  refine V_istore_n2 X dX12_portraits_3 (Nat.le_of_ble_eq_true rfl) rfl ?_
  refine V_loopP (fun k lv2 => ∃ f, f + k = n ∧ lv2 = [some (.ref 29), some (.int (nI (10 ^ f))), some (.int (nI f))]) n ⟨0, by omega, rfl⟩ ?_
  rintro k _ ⟨f, hf, rfl⟩ ih
  refine V_iload_n2 X dX12_portraits_4 ?_
  refine V_aload_n0 X dX12_portraits_5 ?_
  refine V_getf X dX12_portraits_6 fX12_65 (by assumption) (by rfl) ?_
  refine V_icmp_ge X 23 dX12_portraits_9 (by decide) (fun h => ?_) (fun h => ?_)
  · have e9 : f = n := by have := c_le h; omega
    subst e9
    refine V_iload_n1 X dX12_portraits_23 ?_
    exact V_iret X dX12_portraits_24 ⟨rfl, rfl⟩
  · have e9 := c_nle h
    refine V_iload_n1 X dX12_portraits_12 ?_
    refine V_bipushE X (nI 10) dX12_portraits_13 (by decide +kernel) ?_
    refine V_imul X dX12_portraits_15 ?_
    refine V_istore_n1 X dX12_portraits_16 (Nat.le_of_ble_eq_true rfl) rfl ?_
    refine V_iinc_2 X dX12_portraits_17 (Nat.le_of_ble_eq_true rfl) rfl (inc1 _) ?_
    refine V_goto X 4 dX12_portraits_20 (by decide) ?_
    exact ih (k - 1) _ (by omega) ⟨f + 1, by omega, by rw [pk_mul]; rfl⟩
theorem m_isPortrait (l : Launch) (G : GX) (ad : Nat → Nat) (ws : List CE) {n mm np : Nat} {rm sa : Int32} {nj tr : Nat} {sd : Int32} {pn hn : Nat} {kl kp kh : Int32} {hs : Int64} (hO : ws[29]? = some (MO n mm np rm sa nj tr sd pn hn kl kp kh hs)) (h4 : n ≤ 4) (x : Int32) : Ct l G yX12_isPortrait cX12_isPortrait 2 (some .boolean) 1 0 0 ad ws [.ref 29, .int x] (pI ad (fun r ws2 => r = bI (inR (10 ^ n) x) ∧ ws2 = ws)) := by
  refine Ct.of [some (.ref 29), some (.int x)] (by decide +kernel) (Nat.le_of_ble_eq_true rfl) rfl ?_
  intro p e s m args below meth c A X
  have := pow_le4 h4
  refine V_iload_n1 X dX12_isPortrait_0 ?_
  refine V_i2l X dX12_isPortrait_1 ?_
  refine V_lconstE X (lN 0) dX12_isPortrait_2 (by decide +kernel) ?_
  refine V_aload_n0 X dX12_isPortrait_3 ?_
  refine V_cV0I X dX12_isPortrait_4 kX12_83 (m_portraits l G ad ws hO h4) (by assumption) (by rfl) (Nat.le_of_ble_eq_true rfl) ⟨⟨Nat.le_of_ble_eq_true rfl, Nat.le_of_ble_eq_true rfl⟩, Nat.le_of_ble_eq_true rfl, Nat.le_of_ble_eq_true rfl⟩ (fun r ws2 hc => ?_)
  obtain ⟨rfl, hw9⟩ := hc
  obtain rfl := hw9.symm
  refine V_iconstE X (nI 1) dX12_isPortrait_7 (by decide +kernel) ?_
  refine V_isub X dX12_isPortrait_8 ?_
  refine V_i2l X dX12_isPortrait_9 ?_
  refine V_cS3I X dX12_isPortrait_10 kX12_68 (m_in l G ad ws _ _ _) (Nat.le_of_ble_eq_true rfl) ⟨⟨Nat.le_of_ble_eq_true rfl, Nat.le_of_ble_eq_true rfl⟩, Nat.le_of_ble_eq_true rfl, Nat.le_of_ble_eq_true rfl⟩ (fun r ws2 hc => ?_)
  obtain ⟨rfl, hw9⟩ := hc
  obtain rfl := hw9.symm
  rw [inL_n (by omega)]
  exact V_zret X dX12_isPortrait_13 (nb_bI _) ⟨rfl, rfl⟩
theorem m_sizeOf (l : Launch) (G : GX) (ad : Nat → Nat) (ws : List CE) (a f : Nat) (ha : a < 2147483648) (hf : f < 5) : Ct l G yX12_sizeOf cX12_sizeOf 4 (some .int) 0 0 0 ad ws [.int (nI a), .int (nI f)] (pI ad (fun r ws2 => r = nI (dg a f) ∧ ws2 = ws)) := by
  refine Ct.of [some (.int (nI a)), some (.int (nI f)), none, none] (by decide +kernel) (Nat.le_of_ble_eq_true rfl) rfl ?_
  intro p e s m args below meth c A X
  refine V_iload_n0 X dX12_sizeOf_0 ?_
  refine V_istore_n2 X dX12_sizeOf_1 (Nat.le_of_ble_eq_true rfl) rfl ?_
  refine V_iconstE X (nI 0) dX12_sizeOf_2 (by decide +kernel) ?_
  refine V_istore_n3 X dX12_sizeOf_3 (Nat.le_of_ble_eq_true rfl) rfl ?_
  refine V_loopP (fun k lv2 => ∃ g, g + k = f ∧ lv2 = [some (.int (nI a)), some (.int (nI f)), some (.int (nI (a / 10 ^ g))), some (.int (nI g))]) f ⟨0, by omega, by rw [Nat.pow_zero, Nat.div_one]⟩ ?_
  rintro k _ ⟨g, hg, rfl⟩ ih
  refine V_iload_n3 X dX12_sizeOf_4 ?_
  refine V_iload_n1 X dX12_sizeOf_5 ?_
  refine V_icmp_ge X 20 dX12_sizeOf_6 (by decide) (fun h => ?_) (fun h => ?_)
  · have e9 : g = f := by have := c_le h; omega
    subst e9
    refine V_iload_n2 X dX12_sizeOf_20 ?_
    refine V_bipushE X (nI 10) dX12_sizeOf_21 (by decide +kernel) ?_
    refine V_irem X dX12_sizeOf_23 (by decide +kernel) ?_
    exact V_iret X dX12_sizeOf_24 ⟨i32_rem10 ha, rfl⟩
  · have e9 := c_nle h
    refine V_iload_n2 X dX12_sizeOf_9 ?_
    refine V_bipushE X (nI 10) dX12_sizeOf_10 (by decide +kernel) ?_
    refine V_idiv X dX12_sizeOf_12 (by decide +kernel) ?_
    refine V_istore_n2 X dX12_sizeOf_13 (Nat.le_of_ble_eq_true rfl) rfl ?_
    refine V_iinc_3 X dX12_sizeOf_14 (Nat.le_of_ble_eq_true rfl) rfl (inc1 _) ?_
    refine V_goto X 4 dX12_sizeOf_17 (by decide) ?_
    exact ih (k - 1) _ (by omega) ⟨g + 1, by omega, by rw [i32_div10 ha]⟩
theorem m_unit (l : Launch) (G : GX) (ad : Nat → Nat) (ws : List CE) (f : Nat) (hf : f < 4) : Ct l G yX12_unit cX12_unit 1 (some .int) 0 0 0 ad ws [.int (nI f)] (pI ad (fun r ws2 => r = nI (10 ^ f) ∧ ws2 = ws)) := by
  refine Ct.of [some (.int (nI f))] (by decide +kernel) (Nat.le_of_ble_eq_true rfl) rfl ?_
  intro p e s m args below meth c A X
  refine V_iload_n0 X dX12_unit_0 ?_
  refine V_if_ne X 8 dX12_unit_1 (by decide) (fun h => ?_) (fun h => ?_)
  · refine V_iload_n0 X dX12_unit_8 ?_
    refine V_iconstE X (nI 1) dX12_unit_9 (by decide +kernel) ?_
    refine V_icmp_ne X 18 dX12_unit_10 (by decide) (fun h2 => ?_) (fun h2 => ?_)
    · refine V_iload_n0 X dX12_unit_18 ?_
      refine V_iconstE X (nI 2) dX12_unit_19 (by decide +kernel) ?_
      refine V_icmp_ne X 28 dX12_unit_20 (by decide) (fun h3 => ?_) (fun h3 => ?_)
      · have e1 := c_ne0 h
        have e2 := c_ne h2
        have e3 := c_ne h3
        obtain rfl : f = 3 := by omega
        refine V_sipushE X (nI 1000) dX12_unit_28 (by decide +kernel) ?_
        exact V_iret X dX12_unit_31 ⟨rfl, rfl⟩
      · obtain rfl := c_eq h3
        refine V_bipushE X (nI 100) dX12_unit_23 (by decide +kernel) ?_
        refine V_goto X 31 dX12_unit_25 (by decide) ?_
        exact V_iret X dX12_unit_31 ⟨rfl, rfl⟩
    · obtain rfl := c_eq h2
      refine V_bipushE X (nI 10) dX12_unit_13 (by decide +kernel) ?_
      refine V_goto X 31 dX12_unit_15 (by decide) ?_
      exact V_iret X dX12_unit_31 ⟨rfl, rfl⟩
  · obtain rfl := c_eq0 h
    refine V_iconstE X (nI 1) dX12_unit_4 (by decide +kernel) ?_
    refine V_goto X 31 dX12_unit_5 (by decide) ?_
    exact V_iret X dX12_unit_31 ⟨rfl, rfl⟩
