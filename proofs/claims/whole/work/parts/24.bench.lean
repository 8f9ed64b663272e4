/-! bits: judge j's is 2 ^ j -/
def bits (P : Nat → Bool) : Nat → Nat
  | 0 => 0
  | n + 1 => bits P n + (if P n then 2 ^ n else 0)
def cnt (P : Nat → Bool) : Nat → Nat
  | 0 => 0
  | n + 1 => cnt P n + (if P n then 1 else 0)
theorem bits_lt (P : Nat → Bool) : ∀ n, bits P n < 2 ^ n
  | 0 => by simp [bits]
  | n + 1 => by
    have := bits_lt P n
    rw [bits, Nat.pow_succ]
    split <;> omega
theorem bits_tb (P : Nat → Bool) : ∀ n i, (bits P n).testBit i = (decide (i < n) && P i)
  | 0, i => by simp [bits]
  | n + 1, i => by
    have h := bits_lt P n
    rw [bits]
    by_cases hp : P n = true
    · rw [if_pos hp, Nat.add_comm]
      by_cases hi : i = n
      · subst hi
        rw [Nat.testBit_two_pow_add_eq, Nat.testBit_lt_two_pow h]
        simp [hp]
      · rcases Nat.lt_or_gt_of_ne hi with hi2 | hi2
        · rw [Nat.testBit_two_pow_add_gt hi2, bits_tb P n i]
          simp [hi2, Nat.lt_succ_of_lt hi2]
        · have h2 : 2 ^ n + bits P n < 2 ^ i := by
            have : 2 ^ (n + 1) ≤ 2 ^ i := Nat.pow_le_pow_right (by decide) hi2
            rw [Nat.pow_succ] at this
            omega
          rw [Nat.testBit_lt_two_pow h2]
          have : ¬ i < n + 1 := by omega
          simp [this]
    · rw [if_neg hp, Nat.add_zero, bits_tb P n i]
      by_cases hi : i = n
      · subst hi
        simp [hp]
      · have : (i < n + 1) ↔ (i < n) := by omega
        simp [this]
theorem bits_and (P P2 : Nat → Bool) (n : Nat) : bits P n &&& bits P2 n = bits (fun j => P j && P2 j) n := by
  apply Nat.eq_of_testBit_eq
  intro i
  rw [Nat.testBit_and, bits_tb, bits_tb, bits_tb]
  cases decide (i < n) <;> simp
theorem bits_congr {P P2 : Nat → Bool} : ∀ {n}, (∀ j, j < n → P j = P2 j) → bits P n = bits P2 n
  | 0, _ => rfl
  | n + 1, h => by rw [bits, bits, bits_congr (fun j hj => h j (by omega)), h n (by omega)]
theorem cnt_congr {P P2 : Nat → Bool} : ∀ {n}, (∀ j, j < n → P j = P2 j) → cnt P n = cnt P2 n
  | 0, _ => rfl
  | n + 1, h => by rw [cnt, cnt, cnt_congr (fun j hj => h j (by omega)), h n (by omega)]
theorem cnt_le (P : Nat → Bool) : ∀ n, cnt P n ≤ n
  | 0 => by simp [cnt]
  | n + 1 => by
    have := cnt_le P n
    rw [cnt]; split <;> omega
theorem bits_all : ∀ n, bits (fun _ => true) n = 2 ^ n - 1
  | 0 => rfl
  | n + 1 => by
    rw [bits, bits_all n, if_pos rfl, Nat.pow_succ]
    have : 0 < 2 ^ n := Nat.pow_pos (by decide)
    omega
theorem nI_and (a b : Nat) : nI a &&& nI b = nI (a &&& b) := by
  apply Int32.toBitVec_inj.1
  show BitVec.ofNat 32 a &&& BitVec.ofNat 32 b = BitVec.ofNat 32 (a &&& b)
  apply BitVec.eq_of_getLsbD_eq
  intro i hi
  simp [hi]
theorem nI_or (a b : Nat) : nI a ||| nI b = nI (a ||| b) := by
  apply Int32.toBitVec_inj.1
  show BitVec.ofNat 32 a ||| BitVec.ofNat 32 b = BitVec.ofNat 32 (a ||| b)
  apply BitVec.eq_of_getLsbD_eq
  intro i hi
  simp [hi]
theorem f_andN : ∀ a, a < 32 → ∀ b, b < 32 → nI a &&& (nI b ^^^ (-1)) = nI (a &&& (31 ^^^ b)) := by decide +kernel
theorem bits_lt32 (P : Nat → Bool) {n : Nat} (h : n ≤ 5) : bits P n < 32 := Nat.lt_of_lt_of_le (bits_lt P n) (show 2 ^ n ≤ 2 ^ 5 from Nat.pow_le_pow_right (by decide) h)
theorem bits_andN (P P2 : Nat → Bool) {n : Nat} (h : n ≤ 5) : nI (bits P n) &&& (nI (bits P2 n) ^^^ (-1)) = nI (bits (fun j => P j && !P2 j) n) := by
  rw [f_andN _ (bits_lt32 P h) _ (bits_lt32 P2 h)]
  congr 1
  apply Nat.eq_of_testBit_eq
  intro i
  rw [Nat.testBit_and, Nat.testBit_xor, bits_tb, bits_tb, bits_tb]
  by_cases hi : i < n
  · have : Nat.testBit 31 i = true := by
      have : ∀ i, i < 5 → Nat.testBit 31 i = true := by decide
      exact this i (by omega)
    simp [hi, this]
  · simp [hi]
theorem bits_or1 (P : Nat → Bool) (n : Nat) : bits P n ||| 2 ^ n = bits P n + 2 ^ n := by
  have h := bits_lt P n
  have := Nat.two_pow_add_eq_or_of_lt h 1
  rw [Nat.mul_one] at this
  rw [Nat.or_comm, ← this, Nat.add_comm]
def bcI (x0 : Int32) : Int32 :=
  let x1 := x0 - ((x0.toUInt32 >>> ((nI 1).toUInt32 &&& Int32.toUInt32 31)).toInt32 &&& 1431655765)
  let x2 := (x1 &&& 858993459) + ((x1.toUInt32 >>> ((nI 2).toUInt32 &&& Int32.toUInt32 31)).toInt32 &&& 858993459)
  let x3 := (x2 + (x2.toUInt32 >>> ((nI 4).toUInt32 &&& Int32.toUInt32 31)).toInt32) &&& 252645135
  let x4 := x3 + (x3.toUInt32 >>> ((nI 8).toUInt32 &&& Int32.toUInt32 31)).toInt32
  let x5 := x4 + (x4.toUInt32 >>> ((nI 16).toUInt32 &&& Int32.toUInt32 31)).toInt32
  x5 &&& nI 63
def popc (b : Nat) : Nat := b % 2 + b / 2 % 2 + b / 4 % 2 + b / 8 % 2 + b / 16 % 2
theorem f_bc : ∀ b, b < 32 → bcI (nI b) = nI (popc b) := by decide +kernel
theorem popc_bits (P : Nat → Bool) {n : Nat} (h : n ≤ 5) : popc (bits P n) = cnt P n := by
  rcases (show n = 0 ∨ n = 1 ∨ n = 2 ∨ n = 3 ∨ n = 4 ∨ n = 5 by omega) with rfl | rfl | rfl | rfl | rfl | rfl
  · simp [bits, cnt, popc]
  all_goals
    simp only [bits, cnt]
    cases P 0 <;> (try cases P 1) <;> (try cases P 2) <;> (try cases P 3) <;> (try cases P 4) <;> decide
theorem bc_bits (P : Nat → Bool) {n : Nat} (h : n ≤ 5) : bcI (nI (bits P n)) = nI (cnt P n) := by rw [f_bc _ (bits_lt32 P h), popc_bits P h]
theorem t_bc (l : Launch) (G : GX) (ad : Nat → Nat) (ws : List CE) (x0 : Int32) : Ct l G yJ6_bitCount_0f7a4 cJ6_bitCount_0f7a4 1 (some .int) 0 0 0 ad ws [.int x0] (pI ad (fun r ws2 => r = bcI x0 ∧ ws2 = ws)) := by
  refine Ct.of [some (.int x0)] (by decide +kernel) (Nat.le_of_ble_eq_true rfl) rfl ?_
  intro p e s m args below meth c A X
  refine V_iload_n0 X dJ6_bitCount_0f7a4_0 ?_
  refine V_iload_n0 X dJ6_bitCount_0f7a4_1 ?_
  refine V_iconstE X (nI 1) dJ6_bitCount_0f7a4_2 (by decide +kernel) ?_
  refine V_iushr X dJ6_bitCount_0f7a4_3 ?_
  refine V_ldcw X dJ6_bitCount_0f7a4_4 w_472 ?_
  refine V_iand X dJ6_bitCount_0f7a4_7 ?_
  refine V_isub X dJ6_bitCount_0f7a4_8 ?_
  refine V_istore_n0 X dJ6_bitCount_0f7a4_9 (Nat.le_of_ble_eq_true rfl) rfl ?_
  refine V_iload_n0 X dJ6_bitCount_0f7a4_10 ?_
  refine V_ldcw X dJ6_bitCount_0f7a4_11 w_473 ?_
  refine V_iand X dJ6_bitCount_0f7a4_14 ?_
  refine V_iload_n0 X dJ6_bitCount_0f7a4_15 ?_
  refine V_iconstE X (nI 2) dJ6_bitCount_0f7a4_16 (by decide +kernel) ?_
  refine V_iushr X dJ6_bitCount_0f7a4_17 ?_
  refine V_ldcw X dJ6_bitCount_0f7a4_18 w_473 ?_
  refine V_iand X dJ6_bitCount_0f7a4_21 ?_
  refine V_iadd X dJ6_bitCount_0f7a4_22 ?_
  refine V_istore_n0 X dJ6_bitCount_0f7a4_23 (Nat.le_of_ble_eq_true rfl) rfl ?_
  refine V_iload_n0 X dJ6_bitCount_0f7a4_24 ?_
  refine V_iload_n0 X dJ6_bitCount_0f7a4_25 ?_
  refine V_iconstE X (nI 4) dJ6_bitCount_0f7a4_26 (by decide +kernel) ?_
  refine V_iushr X dJ6_bitCount_0f7a4_27 ?_
  refine V_iadd X dJ6_bitCount_0f7a4_28 ?_
  refine V_ldcw X dJ6_bitCount_0f7a4_29 w_474 ?_
  refine V_iand X dJ6_bitCount_0f7a4_32 ?_
  refine V_istore_n0 X dJ6_bitCount_0f7a4_33 (Nat.le_of_ble_eq_true rfl) rfl ?_
  refine V_iload_n0 X dJ6_bitCount_0f7a4_34 ?_
  refine V_iload_n0 X dJ6_bitCount_0f7a4_35 ?_
  refine V_bipushE X (nI 8) dJ6_bitCount_0f7a4_36 (by decide +kernel) ?_
  refine V_iushr X dJ6_bitCount_0f7a4_38 ?_
  refine V_iadd X dJ6_bitCount_0f7a4_39 ?_
  refine V_istore_n0 X dJ6_bitCount_0f7a4_40 (Nat.le_of_ble_eq_true rfl) rfl ?_
  refine V_iload_n0 X dJ6_bitCount_0f7a4_41 ?_
  refine V_iload_n0 X dJ6_bitCount_0f7a4_42 ?_
  refine V_bipushE X (nI 16) dJ6_bitCount_0f7a4_43 (by decide +kernel) ?_
  refine V_iushr X dJ6_bitCount_0f7a4_45 ?_
  refine V_iadd X dJ6_bitCount_0f7a4_46 ?_
  refine V_istore_n0 X dJ6_bitCount_0f7a4_47 (Nat.le_of_ble_eq_true rfl) rfl ?_
  refine V_iload_n0 X dJ6_bitCount_0f7a4_48 ?_
  refine V_bipushE X (nI 63) dJ6_bitCount_0f7a4_49 (by decide +kernel) ?_
  refine V_iand X dJ6_bitCount_0f7a4_51 ?_
  exact V_iret X dJ6_bitCount_0f7a4_52 ⟨rfl, rfl⟩
/-! Bench: a judge is his digits, his tens (0: none), whether he is bound -/
abbrev JD : Type := (Nat → Nat) × Nat × Bool
def markI (n : Nat) (q : JD) (w : Nat) : Int32 := if w < 4 then (if w < n then nI (q.1 w) else (-1)) else if w = 4 then (if q.2.1 = 0 then (-1) else nI q.2.1) else if q.2.2 then nI 1 else nI 0
def farJ (q : JD) : Nat := if q.2.1 = 0 then 36 else 3 * q.2.1
def bndJ (q : JD) (f : Nat) : Bool := q.2.2 && decide (q.1 f = 0)
def okJ (n : Nat) (q : JD) : Prop := (∀ f, f < n → q.1 f < 10) ∧ q.2.1 < 10
def MarksAt (ws : List CE) (n nj : Nat) (Js : Nat → JD) : Prop := ws[4]? = some (oB 1 [.ref 1, .ref 5, .ref 6, .ref 7, .ref 8, .int (nI nj)]) ∧ nj ≤ 5 ∧ (∀ j, j < nj → okJ n (Js j)) ∧ ∃ fm : Nat → Int32, ws[5]? = some (iA 30 fm) ∧ ∀ j, j < nj → ∀ w, w < 6 → fm (j * 6 + w) = markI n (Js j) w
def BitsAt (ws : List CE) (n nj : Nat) (Js : Nat → JD) : Prop := ∃ fa fl fb : Nat → Int32, ws[6]? = some (iA 40 fa) ∧ ws[7]? = some (iA 37 fl) ∧ ws[8]? = some (iA 4 fb) ∧ (∀ f, f < n → ∀ g, g < 10 → fa (f * 10 + g) = nI (bits (fun j => decide (g ≤ (Js j).1 f)) nj)) ∧ (∀ g, g < 37 → fl g = nI (bits (fun j => decide (g ≤ farJ (Js j))) nj)) ∧ (∀ f, f < n → fb f = nI (bits (fun j => bndJ (Js j) f) nj)) ∧ (nj = 0 → (∀ i, i < 40 → fa i = nI 0) ∧ ∀ i, i < 4 → fb i = nI 0)
theorem farJ_lt {n : Nat} {q : JD} (h : okJ n q) : farJ q ≤ 36 := by
  unfold farJ
  have := h.2
  split <;> omega
theorem t_Bsize (l : Launch) (G : GX) (ad : Nat → Nat) (ws : List CE) (n nj : Nat) (Js : Nat → JD) (hM : MarksAt ws n nj Js) : Ct l G yX1_size cX1_size 1 (some .int) 0 0 0 ad ws [.ref 4] (pI ad (fun r ws2 => r = nI nj ∧ ws2 = ws)) := by
  refine Ct.of [some (.ref 4)] (by decide +kernel) (Nat.le_of_ble_eq_true rfl) rfl ?_
  intro p e s m args below meth c A X
  obtain ⟨h1, h2, h3, fm, h4, h5⟩ := hM
  refine V_aload_n0 X dX1_size_0 ?_
  refine V_getf X dX1_size_1 fX1_24 (by assumption) (by rfl) ?_
  exact V_iret X dX1_size_4 ⟨rfl, rfl⟩
theorem t_BisFull (l : Launch) (G : GX) (ad : Nat → Nat) (ws : List CE) (n nj : Nat) (Js : Nat → JD) (hM : MarksAt ws n nj Js) : Ct l G yX1_isFull cX1_isFull 1 (some .boolean) 0 0 0 ad ws [.ref 4] (pI ad (fun r ws2 => r = bI (decide (5 ≤ nj)) ∧ ws2 = ws)) := by
  refine Ct.of [some (.ref 4)] (by decide +kernel) (Nat.le_of_ble_eq_true rfl) rfl ?_
  intro p e s m args below meth c A X
  obtain ⟨h1, h2, h3, fm, h4, h5⟩ := hM
  refine V_aload_n0 X dX1_isFull_0 ?_
  refine V_getf X dX1_isFull_1 fX1_24 (by assumption) (by rfl) ?_
  refine V_iconstE X (nI 5) dX1_isFull_4 (by decide +kernel) ?_
  refine V_icmp_lt X 12 dX1_isFull_5 (by decide) (fun h => ?_) (fun h => ?_)
  · have h9 : ¬ 5 ≤ nj := by have := (nI_ltI (by omega) (by omega)).mp h; omega
    refine V_iconstE X (nI 0) dX1_isFull_12 (by decide +kernel) ?_
    exact V_zret X dX1_isFull_13 rfl ⟨by simp [bI, h9], rfl⟩
  · have h9 : 5 ≤ nj := by rcases Nat.lt_or_ge nj 5 with q | q; exact absurd ((nI_ltI (by omega) (by omega)).mpr q) h; exact q
    refine V_iconstE X (nI 1) dX1_isFull_8 (by decide +kernel) ?_
    refine V_goto X 13 dX1_isFull_9 (by decide) ?_
    exact V_zret X dX1_isFull_13 rfl ⟨by simp [bI, h9], rfl⟩
theorem t_Bhas (l : Launch) (G : GX) (ad : Nat → Nat) (ws : List CE) (n nj : Nat) (Js : Nat → JD) (hM : MarksAt ws n nj Js) (x : Int32) : Ct l G yX1_has cX1_has 2 (some .boolean) 0 0 0 ad ws [.ref 4, .int x] (pI ad (fun r ws2 => r = bI (inR nj x) ∧ ws2 = ws)) := by
  refine Ct.of [some (.ref 4), some (.int x)] (by decide +kernel) (Nat.le_of_ble_eq_true rfl) rfl ?_
  intro p e s m args below meth c A X
  obtain ⟨h1, h2, h3, fm, h4, h5⟩ := hM
  refine V_iload_n1 X dX1_has_0 ?_
  refine V_if_lt X 16 dX1_has_1 (by decide) (fun h => ?_) (fun h => ?_)
  · refine V_iconstE X (nI 0) dX1_has_16 (by decide +kernel) ?_
    exact V_zret X dX1_has_17 rfl ⟨by simp [bI, inR, h], rfl⟩
  · refine V_iload_n1 X dX1_has_4 ?_
    refine V_aload_n0 X dX1_has_5 ?_
    refine V_getf X dX1_has_6 fX1_24 (by assumption) (by rfl) ?_
    refine V_icmp_ge X 16 dX1_has_9 (by decide) (fun h6 => ?_) (fun h6 => ?_)
    · refine V_iconstE X (nI 0) dX1_has_16 (by decide +kernel) ?_
      exact V_zret X dX1_has_17 rfl ⟨by simp [bI, inR, h6], rfl⟩
    · refine V_iconstE X (nI 1) dX1_has_12 (by decide +kernel) ?_
      refine V_goto X 17 dX1_has_13 (by decide) ?_
      exact V_zret X dX1_has_17 rfl ⟨by simp [bI, inR, h, h6], rfl⟩
theorem t_mark (l : Launch) (G : GX) (ad : Nat → Nat) (ws : List CE) (n nj : Nat) (Js : Nat → JD) (hM : MarksAt ws n nj Js) (j w : Nat) (hj : j < nj) (hw : w < 6) : Ct l G yX1_mark cX1_mark 3 (some .int) 1 0 0 ad ws [.ref 4, .int (nI j), .int (nI w)] (pI ad (fun r ws2 => r = markI n (Js j) w ∧ ws2 = ws)) := by
  refine Ct.of [some (.ref 4), some (.int (nI j)), some (.int (nI w))] (by decide +kernel) (Nat.le_of_ble_eq_true rfl) rfl ?_
  intro p e s m args below meth c A X
  have hM0 := hM
  obtain ⟨h1, h2, h3, fm, h4, h5⟩ := hM
  have hin : inR nj (nI j) = true := by simp [inR, nI_pos (n := j) (by omega), nI_ge hj (by omega)]
  refine V_aload_n0 X dX1_mark_0 ?_
  refine V_iload_n1 X dX1_mark_1 ?_
  refine V_cV1I X dX1_mark_2 kX1_32 (t_Bhas l G ad ws n nj Js hM0 (nI j)) (by assumption) (by rfl) (Nat.le_of_ble_eq_true rfl) ⟨⟨Nat.le_of_ble_eq_true rfl, Nat.le_of_ble_eq_true rfl⟩, Nat.le_of_ble_eq_true rfl, Nat.le_of_ble_eq_true rfl⟩ (fun r ws2 hc => ?_)
  obtain ⟨rfl, hw9⟩ := hc
  obtain rfl := hw9.symm
  rw [hin]
  refine V_if_eq X 32 dX1_mark_5 (by decide) (fun h0 => ?_) (fun h0 => ?_)
  · exact absurd h0 (by decide +kernel)
  · refine V_iload_n2 X dX1_mark_8 ?_
    refine V_if_lt X 32 dX1_mark_9 (by decide) (fun h6 => ?_) (fun h6 => ?_)
    · exact absurd h6 (nI_pos (by omega))
    · refine V_iload_n2 X dX1_mark_12 ?_
      refine V_bipushE X (nI 6) dX1_mark_13 (by decide +kernel) ?_
      refine V_icmp_ge X 32 dX1_mark_15 (by decide) (fun h7 => ?_) (fun h7 => ?_)
      · exact absurd h7 (nI_ge hw (by decide))
      · refine V_aload_n0 X dX1_mark_18 ?_
        refine V_getf X dX1_mark_19 fX1_9 (by assumption) (by rfl) ?_
        refine V_iload_n1 X dX1_mark_22 ?_
        refine V_bipushE X (nI 6) dX1_mark_23 (by decide +kernel) ?_
        refine V_imul X dX1_mark_25 ?_
        refine V_iload_n2 X dX1_mark_26 ?_
        refine V_iadd X dX1_mark_27 ?_
        rw [pk_mul, nI_add]
        refine V_iald X (j * 6 + w) dX1_mark_28 (by assumption) rfl (by omega) (by omega) ?_
        refine V_goto X 33 dX1_mark_29 (by decide) ?_
        exact V_iret X dX1_mark_33 ⟨h5 j hj w hw, rfl⟩
theorem markI_d {n : Nat} {q : JD} {f : Nat} (hf : f < n) (hn : n ≤ 4) : markI n q f = nI (q.1 f) := by
  unfold markI
  rw [if_pos (by omega), if_pos hf]
theorem t_allows (l : Launch) (G : GX) (ad : Nat → Nat) (ws : List CE) (n nj : Nat) (Js : Nat → JD) (hM : MarksAt ws n nj Js) (hn : n ≤ 4) (j f g : Nat) (hj : j < nj) (hf : f < n) (hg : g < 1000) : Ct l G yX1_allows cX1_allows 4 (some .boolean) 2 0 0 ad ws [.ref 4, .int (nI j), .int (nI f), .int (nI g)] (pI ad (fun r ws2 => r = bI (decide (g ≤ (Js j).1 f)) ∧ ws2 = ws)) := by
  refine Ct.of [some (.ref 4), some (.int (nI j)), some (.int (nI f)), some (.int (nI g))] (by decide +kernel) (Nat.le_of_ble_eq_true rfl) rfl ?_
  intro p e s m args below meth c A X
  have hM0 := hM
  obtain ⟨h1, h2, h3, fm, h4, h5⟩ := hM
  refine V_iload_n3 X dX1_allows_0 ?_
  refine V_aload_n0 X dX1_allows_1 ?_
  refine V_iload_n1 X dX1_allows_2 ?_
  refine V_iload_n2 X dX1_allows_3 ?_
  refine V_cV2I X dX1_allows_4 kX1_36 (t_mark l G ad ws n nj Js hM0 j f hj (by omega)) (by assumption) (by rfl) (Nat.le_of_ble_eq_true rfl) ⟨⟨Nat.le_of_ble_eq_true rfl, Nat.le_of_ble_eq_true rfl⟩, Nat.le_of_ble_eq_true rfl, Nat.le_of_ble_eq_true rfl⟩ (fun r ws2 hc => ?_)
  obtain ⟨rfl, hw9⟩ := hc
  obtain rfl := hw9.symm
  rw [markI_d hf hn]
  have hd := (h3 j hj).1 f hf
  refine V_icmp_gt X 14 dX1_allows_7 (by decide) (fun h => ?_) (fun h => ?_)
  · have h9 : ¬ g ≤ (Js j).1 f := by have := (nI_ltI (by omega) (by omega)).mp h; omega
    refine V_iconstE X (nI 0) dX1_allows_14 (by decide +kernel) ?_
    exact V_zret X dX1_allows_15 rfl ⟨by simp [bI, h9], rfl⟩
  · have h9 : g ≤ (Js j).1 f := by rcases Nat.lt_or_ge ((Js j).1 f) g with q | q; exact absurd ((nI_ltI (by omega) (by omega)).mpr q) h; exact q
    refine V_iconstE X (nI 1) dX1_allows_10 (by decide +kernel) ?_
    refine V_goto X 15 dX1_allows_11 (by decide) ?_
    exact V_zret X dX1_allows_15 rfl ⟨by simp [bI, h9], rfl⟩
theorem t_binds (l : Launch) (G : GX) (ad : Nat → Nat) (ws : List CE) (n nj : Nat) (Js : Nat → JD) (hM : MarksAt ws n nj Js) (hn : n ≤ 4) (j f : Nat) (hj : j < nj) (hf : f < n) : Ct l G yX1_binds cX1_binds 3 (some .boolean) 2 0 0 ad ws [.ref 4, .int (nI j), .int (nI f)] (pI ad (fun r ws2 => r = bI (bndJ (Js j) f) ∧ ws2 = ws)) := by
  refine Ct.of [some (.ref 4), some (.int (nI j)), some (.int (nI f))] (by decide +kernel) (Nat.le_of_ble_eq_true rfl) rfl ?_
  intro p e s m args below meth c A X
  have hM0 := hM
  obtain ⟨h1, h2, h3, fm, h4, h5⟩ := hM
  refine V_aload_n0 X dX1_binds_0 ?_
  refine V_iload_n1 X dX1_binds_1 ?_
  refine V_iconstE X (nI 5) dX1_binds_2 (by decide +kernel) ?_
  refine V_cV2I X dX1_binds_3 kX1_36 (t_mark l G ad ws n nj Js hM0 j 5 hj (by omega)) (by assumption) (by rfl) (Nat.le_of_ble_eq_true rfl) ⟨⟨Nat.le_of_ble_eq_true rfl, Nat.le_of_ble_eq_true rfl⟩, Nat.le_of_ble_eq_true rfl, Nat.le_of_ble_eq_true rfl⟩ (fun r ws2 hc => ?_)
  obtain ⟨rfl, hw9⟩ := hc
  obtain rfl := hw9.symm
  refine V_iconstE X (nI 1) dX1_binds_6 (by decide +kernel) ?_
  have hm5 : markI n (Js j) 5 = if (Js j).2.2 then nI 1 else nI 0 := rfl
  rw [hm5]
  refine V_icmp_ne X 23 dX1_binds_7 (by decide) (fun h => ?_) (fun h => ?_)
  · have h9 : (Js j).2.2 = false := by
      cases hb : (Js j).2.2 with
      | false => rfl
      | true => rw [hb] at h; exact absurd rfl h
    refine V_iconstE X (nI 0) dX1_binds_23 (by decide +kernel) ?_
    exact V_zret X dX1_binds_24 rfl ⟨by simp [bI, bndJ, h9], rfl⟩
  · have h9 : (Js j).2.2 = true := by
      cases hb : (Js j).2.2 with
      | true => rfl
      | false => rw [hb] at h; exact absurd h (by decide +kernel)
    refine V_aload_n0 X dX1_binds_10 ?_
    refine V_iload_n1 X dX1_binds_11 ?_
    refine V_iload_n2 X dX1_binds_12 ?_
    refine V_cV2I X dX1_binds_13 kX1_36 (t_mark l G ad ws n nj Js hM0 j f hj (by omega)) (by assumption) (by rfl) (Nat.le_of_ble_eq_true rfl) ⟨⟨Nat.le_of_ble_eq_true rfl, Nat.le_of_ble_eq_true rfl⟩, Nat.le_of_ble_eq_true rfl, Nat.le_of_ble_eq_true rfl⟩ (fun r ws2 hc => ?_)
    obtain ⟨rfl, hw9⟩ := hc
    obtain rfl := hw9.symm
    rw [markI_d hf hn]
    have hd := (h3 j hj).1 f hf
    refine V_if_ne X 23 dX1_binds_16 (by decide) (fun h6 => ?_) (fun h6 => ?_)
    · have h8 : ¬ (Js j).1 f = 0 := fun q => h6 (by rw [q]; rfl)
      refine V_iconstE X (nI 0) dX1_binds_23 (by decide +kernel) ?_
      exact V_zret X dX1_binds_24 rfl ⟨by simp [bI, bndJ, h8], rfl⟩
    · have h8 : (Js j).1 f = 0 := (nI_eq (a := (Js j).1 f) (b := 0) (by omega) (by omega)).mp h6
      refine V_iconstE X (nI 1) dX1_binds_19 (by decide +kernel) ?_
      refine V_goto X 24 dX1_binds_20 (by decide) ?_
      exact V_zret X dX1_binds_24 rfl ⟨by simp [bI, bndJ, h8, h9], rfl⟩
theorem t_farthest (l : Launch) (G : GX) (ad : Nat → Nat) (ws : List CE) (n nj : Nat) (Js : Nat → JD) (hM : MarksAt ws n nj Js) (j : Nat) (hj : j < nj) : Ct l G yX1_farthest cX1_farthest 3 (some .int) 2 0 0 ad ws [.ref 4, .int (nI j)] (pI ad (fun r ws2 => r = nI (farJ (Js j)) ∧ ws2 = ws)) := by
  refine Ct.of [some (.ref 4), some (.int (nI j)), none] (by decide +kernel) (Nat.le_of_ble_eq_true rfl) rfl ?_
  intro p e s m args below meth c A X
  have hM0 := hM
  obtain ⟨h1, h2, h3, fm, h4, h5⟩ := hM
  have hd := (h3 j hj).2
  refine V_aload_n0 X dX1_farthest_0 ?_
  refine V_iload_n1 X dX1_farthest_1 ?_
  refine V_iconstE X (nI 4) dX1_farthest_2 (by decide +kernel) ?_
  refine V_cV2I X dX1_farthest_3 kX1_36 (t_mark l G ad ws n nj Js hM0 j 4 hj (by omega)) (by assumption) (by rfl) (Nat.le_of_ble_eq_true rfl) ⟨⟨Nat.le_of_ble_eq_true rfl, Nat.le_of_ble_eq_true rfl⟩, Nat.le_of_ble_eq_true rfl, Nat.le_of_ble_eq_true rfl⟩ (fun r ws2 hc => ?_)
  obtain ⟨rfl, hw9⟩ := hc
  obtain rfl := hw9.symm
  have hm4 : markI n (Js j) 4 = if (Js j).2.1 = 0 then (-1) else nI (Js j).2.1 := rfl
  rw [hm4]
  refine V_istore_n2 X dX1_farthest_6 (Nat.le_of_ble_eq_true rfl) rfl ?_
  refine V_iload_n2 X dX1_farthest_7 ?_
  refine V_iconstE X (-1) dX1_farthest_8 (by decide +kernel) ?_
  refine V_icmp_ne X 17 dX1_farthest_9 (by decide) (fun h => ?_) (fun h => ?_)
  · have h9 : ¬ (Js j).2.1 = 0 := fun q => h (if_pos q)
    rw [if_neg h9]
    refine V_iconstE X (nI 3) dX1_farthest_17 (by decide +kernel) ?_
    refine V_iload_n2 X dX1_farthest_18 ?_
    refine V_imul X dX1_farthest_19 ?_
    exact V_iret X dX1_farthest_20 ⟨by rw [pk_mul, farJ, if_neg h9], rfl⟩
  · have h9 : (Js j).2.1 = 0 := by
      rcases Nat.eq_zero_or_pos (Js j).2.1 with q | q
      · exact q
      · rw [if_neg (by omega)] at h
        have : ∀ t, t < 10 → ¬ nI t = -1 := by decide +kernel
        exact absurd h (this _ hd)
    refine V_bipushE X (nI 36) dX1_farthest_12 (by decide +kernel) ?_
    refine V_goto X 20 dX1_farthest_14 (by decide) ?_
    exact V_iret X dX1_farthest_20 ⟨by rw [farJ, if_pos h9], rfl⟩
