/-! whom a new portrait passes -/
section VM2
variable {p : Program} {l : Launch} {e : Env} {R : Room} {s : State} {m : MethodId} {args : Array Value} {below : List Frame} {meth : Method} {c : Code} {cells slots : Nat} {Q : State → Prop} {nL : Nat} {G : GX} {A : Nat → Prop} {ad : Nat → Nat} {ws : List CE} {pc : Nat} {lv : List (Option Value)} {st : List Value}
/-- a loop that leaves the world as it is -/
theorem V_loopP (I : Nat → List (Option Value) → Prop) (n : Nat) (h0 : I n lv) (hs : ∀ (n : Nat) (lv : List (Option Value)), I n lv → (∀ (n2 : Nat) (lv2 : List (Option Value)), n2 < n → I n2 lv2 → V p l e R s m args below meth c cells slots Q G A nL ad ws pc lv2 st) → V p l e R s m args below meth c cells slots Q G A nL ad ws pc lv st) : V p l e R s m args below meth c cells slots Q G A nL ad ws pc lv st := by
  have key : ∀ (n : Nat) (lv : List (Option Value)), I n lv → V p l e R s m args below meth c cells slots Q G A nL ad ws pc lv st := by
    intro n
    induction n using Nat.strongRecOn with
    | ind n ih => exact fun lv h => hs n lv h (fun n2 lv2 hn h2 => ih n2 hn lv2 h2)
  exact key n lv h0
end VM2
def stepOK (K : Nat → Nat) (q : JD) (old new kg f : Nat) : Bool := decide (gapK (K f) (dg old f) (dg new f) ≤ q.1 f) && (!bndJ q f || decide (dg new f = dg kg f))
def allOK (K : Nat → Nat) (q : JD) (old new kg : Nat) : Nat → Bool
  | 0 => true
  | f + 1 => allOK K q old new kg f && stepOK K q old new kg f
def letsJ (n : Nat) (K : Nat → Nat) (q : JD) (old new kg : Nat) : Bool := allOK K q old new kg n && decide (gapP n K old new ≤ farJ q)
theorem shl1 : ∀ j, j < 6 → nI 1 <<< (nI j &&& 31) = nI (2 ^ j) := by decide +kernel
theorem dg_next (p f : Nat) : p / 10 ^ f / 10 = p / 10 ^ (f + 1) := by rw [Nat.pow_succ, Nat.div_div_eq_div_mul]
theorem i32_rem10 {p f : Nat} (hp : p < 2147483648) : nI (p / 10 ^ f) - nI (p / 10 ^ f) / nI 10 * nI 10 = nI (dg p f) := pk_rem (Nat.lt_of_le_of_lt (Nat.div_le_self _ _) (by omega)) (by decide) (by decide)
theorem i32_div10 {p f : Nat} (hp : p < 2147483648) : nI (p / 10 ^ f) / nI 10 = nI (p / 10 ^ (f + 1)) := by
  rw [pk_div (Nat.lt_of_le_of_lt (Nat.div_le_self _ _) (by omega)) (by decide) (by decide), dg_next]
set_option maxHeartbeats 1000000 in
theorem t_willing (l : Launch) (G : GX) (ad : Nat → Nat) (ws : List CE) (n nj : Nat) (K : Nat → Nat) (Js : Nat → JD) (hL : LooksAt ws n K) (hM : MarksAt ws n nj Js) (hB : BitsAt ws n nj Js) (old new kg : Nat) (ho : old < 2147483648) (hw : new < 2147483648) (hk : kg < 2147483648) : Ct l G yX1_willing cX1_willing 13 (some .int) 5 0 0 ad ws [.ref 4, .int (nI old), .int (nI new), .int (nI kg)] (pI ad (fun r ws2 => r = nI (bits (fun j => letsJ n K (Js j) old new kg) nj) ∧ ws2 = ws)) := by
  refine Ct.of [some (.ref 4), some (.int (nI old)), some (.int (nI new)), some (.int (nI kg)), none, none, none, none, none, none, none, none, none] (by decide +kernel) (Nat.le_of_ble_eq_true rfl) rfl ?_
  intro p e s m args below meth c A X
  have hL0 := hL
  obtain ⟨hn, hl1, xs, hl2, hx4, hF⟩ := hL
  obtain ⟨h1, h2, h3, fm, h4, h5⟩ := hM
  obtain ⟨fa, fl, fb, g1, g2, g3, g4, g5, g6, g7⟩ := hB
  refine V_iconstE X (nI 1) dX1_willing_0 (by decide +kernel) ?_
  refine V_aload_n0 X dX1_willing_1 ?_
  refine V_getf X dX1_willing_2 fX1_24 (by assumption) (by rfl) ?_
  refine V_ishl X dX1_willing_5 ?_
  rw [shl1 nj (by omega)]
  refine V_iconstE X (nI 1) dX1_willing_6 (by decide +kernel) ?_
  refine V_isub X dX1_willing_7 ?_
  rw [pk_sub (Nat.pow_pos (by decide)), ← bits_all]
  refine V_istore_4 X dX1_willing_8 (Nat.le_of_ble_eq_true rfl) rfl ?_
  refine V_iconstE X (nI 0) dX1_willing_10 (by decide +kernel) ?_
  refine V_istore_5 X dX1_willing_11 (Nat.le_of_ble_eq_true rfl) rfl ?_
  refine V_iload_n1 X dX1_willing_13 ?_
  refine V_istore_6 X dX1_willing_14 (Nat.le_of_ble_eq_true rfl) rfl ?_
  refine V_iload_n2 X dX1_willing_16 ?_
  refine V_istore_7 X dX1_willing_17 (Nat.le_of_ble_eq_true rfl) rfl ?_
  refine V_iload_n3 X dX1_willing_19 ?_
  refine V_istore_8 X dX1_willing_20 (Nat.le_of_ble_eq_true rfl) rfl ?_
  refine V_aload_n0 X dX1_willing_22 ?_
  refine V_getf X dX1_willing_23 fX1_28 (by assumption) (by rfl) ?_
  refine V_cV0I X dX1_willing_26 kX1_44 (t_Lsize l G ad ws n K hL0) (by assumption) (by rfl) (Nat.le_of_ble_eq_true rfl) ⟨⟨Nat.le_of_ble_eq_true rfl, Nat.le_of_ble_eq_true rfl⟩, Nat.le_of_ble_eq_true rfl, Nat.le_of_ble_eq_true rfl⟩ (fun r ws2 hc => ?_)
  obtain ⟨rfl, hw9⟩ := hc
  obtain rfl := hw9.symm
  refine V_istore_9 X dX1_willing_29 (Nat.le_of_ble_eq_true rfl) rfl ?_
  refine V_iconstE X (nI 0) dX1_willing_31 (by decide +kernel) ?_
  refine V_istore_10 X dX1_willing_32 (Nat.le_of_ble_eq_true rfl) rfl ?_
  refine V_loopP (fun k lv2 => ∃ f w11 w12, f + k = n ∧ lv2 = [some (.ref 4), some (.int (nI old)), some (.int (nI new)), some (.int (nI kg)), some (.int (nI (bits (fun j => allOK K (Js j) old new kg f) nj))), some (.int (nI (gapP f K old new))), some (.int (nI (old / 10 ^ f))), some (.int (nI (new / 10 ^ f))), some (.int (nI (kg / 10 ^ f))), some (.int (nI n)), some (.int (nI f)), w11, w12] ∧ noL lv2 11 = true ∧ noL lv2 12 = true) n ⟨0, _, _, by omega, by simp only [Nat.pow_zero, Nat.div_one]; rfl, by rfl, by rfl⟩ ?_
  rintro k _ ⟨f, w11, w12, hf, rfl, hn11, hn12⟩ ih
  refine V_iload_10 X dX1_willing_34 ?_
  refine V_iload_9 X dX1_willing_36 ?_
  refine V_icmp_ge X 177 dX1_willing_38 (by decide) (fun h => ?_) (fun h => ?_)
  · have e9 : f = n := by have := (nI_leI (by omega) (by omega)).mp h; omega
    subst e9
    have hgl := gapP_le f K old new
    refine V_iload_5 X dX1_willing_177 ?_
    refine V_if_lt X 202 dX1_willing_179 (by decide) (fun h8 => ?_) (fun h8 => ?_)
    · exact absurd h8 (nI_pos (by omega))
    refine V_iload_5 X dX1_willing_182 ?_
    refine V_bipushE X (nI 36) dX1_willing_184 (by decide +kernel) ?_
    refine V_icmp_gt X 202 dX1_willing_186 (by decide) (fun h9 => ?_) (fun h9 => ?_)
    · exact absurd ((nI_ltI (a := 36) (by omega) (by omega)).mp h9) (by omega)
    refine V_iload_4 X dX1_willing_189 ?_
    refine V_aload_n0 X dX1_willing_191 ?_
    refine V_getf X dX1_willing_192 fX1_18 (by assumption) (by rfl) ?_
    refine V_iload_5 X dX1_willing_195 ?_
    refine V_iald X (gapP f K old new) dX1_willing_197 (by assumption) rfl (by omega) (by omega) ?_
    refine V_iand X dX1_willing_198 ?_
    rw [g5 _ (by omega), nI_and, bits_and]
    refine V_goto X 203 dX1_willing_199 (by decide) ?_
    exact V_iret X dX1_willing_203 ⟨rfl, rfl⟩
  · have e9 : f < n := by rcases Nat.lt_or_ge f n with q | q; exact q; exact absurd ((nI_leI (by omega) (by omega)).mpr q) h
    obtain ⟨hk5, q, hq1, hq2, hq3⟩ := hF f (by omega)
    have tail : ∀ (who : Nat → Bool) (w12 : Option Value), (∀ j, j < nj → who j = (allOK K (Js j) old new kg f && decide (gapK (K f) (dg old f) (dg new f) ≤ (Js j).1 f))) → V p l e (rmm 5 0 0) s m args below meth c 0 0 (MQ below (QQ G A (pI ad (fun r ws2 => r = nI (bits (fun j => letsJ n K (Js j) old new kg) nj) ∧ ws2 = ws))) args s 0 0 A) G A 13 ad ws 126 [some (.ref 4), some (.int (nI old)), some (.int (nI new)), some (.int (nI kg)), some (.int (nI (bits who nj))), some (.int (nI (gapP (f + 1) K old new))), some (.int (nI (old / 10 ^ f))), some (.int (nI (new / 10 ^ f))), some (.int (nI (kg / 10 ^ f))), some (.int (nI n)), some (.int (nI f)), some (.int (nI (dg new f))), w12] [] := by
      intro who w12 hwho
      have fin : ∀ (who2 : Nat → Bool), (∀ j, j < nj → who2 j = allOK K (Js j) old new kg (f + 1)) → V p l e (rmm 5 0 0) s m args below meth c 0 0 (MQ below (QQ G A (pI ad (fun r ws2 => r = nI (bits (fun j => letsJ n K (Js j) old new kg) nj) ∧ ws2 = ws))) args s 0 0 A) G A 13 ad ws 150 [some (.ref 4), some (.int (nI old)), some (.int (nI new)), some (.int (nI kg)), some (.int (nI (bits who2 nj))), some (.int (nI (gapP (f + 1) K old new))), some (.int (nI (old / 10 ^ f))), some (.int (nI (new / 10 ^ f))), some (.int (nI (kg / 10 ^ f))), some (.int (nI n)), some (.int (nI f)), some (.int (nI (dg new f))), w12] [] := by
        intro who2 hwho2
        refine V_iload_6 X dX1_willing_150 ?_
        refine V_bipushE X (nI 10) dX1_willing_152 (by decide +kernel) ?_
        refine V_idiv X dX1_willing_154 (by decide +kernel) ?_
        refine V_istore_6 X dX1_willing_155 (Nat.le_of_ble_eq_true rfl) rfl ?_
        refine V_iload_7 X dX1_willing_157 ?_
        refine V_bipushE X (nI 10) dX1_willing_159 (by decide +kernel) ?_
        refine V_idiv X dX1_willing_161 (by decide +kernel) ?_
        refine V_istore_7 X dX1_willing_162 (Nat.le_of_ble_eq_true rfl) rfl ?_
        refine V_iload_8 X dX1_willing_164 ?_
        refine V_bipushE X (nI 10) dX1_willing_166 (by decide +kernel) ?_
        refine V_idiv X dX1_willing_168 (by decide +kernel) ?_
        refine V_istore_8 X dX1_willing_169 (Nat.le_of_ble_eq_true rfl) rfl ?_
        refine V_iinc_10 X dX1_willing_171 (Nat.le_of_ble_eq_true rfl) rfl (inc1 _) ?_
        refine V_goto X 34 dX1_willing_174 (by decide) ?_
        refine ih (k - 1) _ (by omega) ⟨f + 1, some (.int (nI (dg new f))), w12, by omega, ?_, by rfl, by rfl⟩
        rw [i32_div10 ho, i32_div10 hw, i32_div10 hk, bits_congr hwho2]
      refine V_iload_11 X dX1_willing_126 ?_
      refine V_iload_8 X dX1_willing_128 ?_
      refine V_bipushE X (nI 10) dX1_willing_130 (by decide +kernel) ?_
      refine V_irem X dX1_willing_132 (by decide +kernel) ?_
      rw [i32_rem10 hk]
      refine V_icmp_eq X 150 dX1_willing_133 (by decide) (fun h6 => ?_) (fun h6 => ?_)
      · have e8 : dg new f = dg kg f := (nI_eq (Nat.lt_trans (dg_lt _ _) (by decide)) (Nat.lt_trans (dg_lt _ _) (by decide))).mp h6
        refine fin who (fun j hj => ?_)
        rw [hwho j hj, allOK, stepOK]
        simp [e8]
      · have e8 : ¬ dg new f = dg kg f := fun q => h6 (by rw [q])
        refine V_iload_4 X dX1_willing_136 ?_
        refine V_aload_n0 X dX1_willing_138 ?_
        refine V_getf X dX1_willing_139 fX1_21 (by assumption) (by rfl) ?_
        refine V_iload_10 X dX1_willing_142 ?_
        refine V_iald X f dX1_willing_144 (by assumption) rfl (by omega) (by omega) ?_
        refine V_iconstE X (-1) dX1_willing_145 (by decide +kernel) ?_
        refine V_ixor X dX1_willing_146 ?_
        refine V_iand X dX1_willing_147 ?_
        rw [g6 f e9, bits_andN _ _ h2]
        refine V_istore_4 X dX1_willing_148 (Nat.le_of_ble_eq_true rfl) rfl ?_
        refine fin _ (fun j hj => ?_)
        rw [hwho j hj, allOK, stepOK]
        simp [e8, Bool.and_assoc]
    refine V_iload_10 X dX1_willing_41 ?_
    refine V_iconstE X (nI 4) dX1_willing_43 (by decide +kernel) ?_
    refine V_icmp_ge X 177 dX1_willing_44 (by decide) (fun h9 => ?_) (fun h9 => ?_)
    · exact absurd h9 (nI_ge (show f < 4 by omega) (by decide))
    refine V_iload_7 X dX1_willing_47 ?_
    refine V_bipushE X (nI 10) dX1_willing_49 (by decide +kernel) ?_
    refine V_irem X dX1_willing_51 (by decide +kernel) ?_
    rw [i32_rem10 hw]
    refine V_istore_11 X dX1_willing_52 (Nat.le_of_ble_eq_true rfl) rfl ?_
    refine V_iload_11 X dX1_willing_54 ?_
    refine V_iload_6 X dX1_willing_56 ?_
    refine V_bipushE X (nI 10) dX1_willing_58 (by decide +kernel) ?_
    refine V_irem X dX1_willing_60 (by decide +kernel) ?_
    rw [i32_rem10 ho]
    refine V_icmp_eq X 126 dX1_willing_61 (by decide) (fun h6 => ?_) (fun h6 => ?_)
    · have e8 : dg new f = dg old f := (nI_eq (Nat.lt_trans (dg_lt _ _) (by decide)) (Nat.lt_trans (dg_lt _ _) (by decide))).mp h6
      have e7 : gapP (f + 1) K old new = gapP f K old new := by
        show gapP f K old new + gapK (K f) (dg old f) (dg new f) = _
        rw [e8, gapK_self]; rfl
      rw [← e7]
      refine tail _ w12 (fun j hj => ?_)
      rw [e8, gapK_self]
      simp
    · refine V_aload_n0 X dX1_willing_64 ?_
      refine V_getf X dX1_willing_65 fX1_28 (by assumption) (by rfl) ?_
      refine V_iload_10 X dX1_willing_68 ?_
      refine V_cV1R X dX1_willing_70 kX1_73 (t_Lat l G ad _ n K hL0 f (by omega)) (by assumption) (by rfl) (Nat.le_of_ble_eq_true rfl) ⟨⟨Nat.le_of_ble_eq_true rfl, Nat.le_of_ble_eq_true rfl⟩, Nat.le_of_ble_eq_true rfl, Nat.le_of_ble_eq_true rfl⟩ (fun r ws2 hc => ?_)
      obtain ⟨⟨hk6, hq⟩, hw9⟩ := hc
      obtain rfl := hw9.symm
      refine V_iload_6 X dX1_willing_73 ?_
      refine V_bipushE X (nI 10) dX1_willing_75 (by decide +kernel) ?_
      refine V_irem X dX1_willing_77 (by decide +kernel) ?_
      rw [i32_rem10 ho]
      refine V_iload_11 X dX1_willing_78 ?_
      refine VU_gap X dX1_willing_80 kX1_77_4 kX1_77_5 kX1_77_8 kX1_77_0 kX1_77_3 hk6 hq (dg_lt _ _) (dg_lt _ _) (Nat.le_of_ble_eq_true rfl) ⟨Nat.le_of_ble_eq_true rfl, Nat.le_of_ble_eq_true rfl, Nat.le_of_ble_eq_true rfl, Nat.le_of_ble_eq_true rfl⟩ ?_
      have hg := gapK_lt (k := K f) (dg_lt old f) (dg_lt new f)
      refine V_istore_12 X dX1_willing_83 (Nat.le_of_ble_eq_true rfl) rfl ?_
      refine V_iload_5 X dX1_willing_85 ?_
      refine V_iload_12 X dX1_willing_87 ?_
      refine V_iadd X dX1_willing_89 ?_
      rw [nI_add]
      refine V_istore_5 X dX1_willing_90 (Nat.le_of_ble_eq_true rfl) rfl ?_
      refine V_iload_4 X dX1_willing_92 ?_
      refine V_iload_12 X dX1_willing_94 ?_
      refine V_if_lt X 122 dX1_willing_96 (by decide) (fun h7 => ?_) (fun h7 => ?_)
      · exact absurd h7 (nI_pos (by omega))
      refine V_iload_12 X dX1_willing_99 ?_
      refine V_bipushE X (nI 10) dX1_willing_101 (by decide +kernel) ?_
      refine V_icmp_ge X 122 dX1_willing_103 (by decide) (fun h8 => ?_) (fun h8 => ?_)
      · exact absurd h8 (nI_ge hg (by decide))
      refine V_aload_n0 X dX1_willing_106 ?_
      refine V_getf X dX1_willing_107 fX1_15 (by assumption) (by rfl) ?_
      refine V_iload_10 X dX1_willing_110 ?_
      refine V_bipushE X (nI 10) dX1_willing_112 (by decide +kernel) ?_
      refine V_imul X dX1_willing_114 ?_
      refine V_iload_12 X dX1_willing_115 ?_
      refine V_iadd X dX1_willing_117 ?_
      rw [pk_mul, nI_add]
      refine V_iald X (f * 10 + gapK (K f) (dg old f) (dg new f)) dX1_willing_118 (by assumption) rfl (by omega) (by omega) ?_
      rw [g4 f e9 _ hg]
      refine V_goto X 123 dX1_willing_119 (by decide) ?_
      refine V_iand X dX1_willing_123 ?_
      rw [nI_and, bits_and]
      refine V_istore_4 X dX1_willing_124 (Nat.le_of_ble_eq_true rfl) rfl ?_
      exact tail _ _ (fun j hj => rfl)
