/-! LikeLastYears: what its calls share -/
section VS
variable {p : Program} {l : Launch} {e : Env} {R : Room} {s : State} {m : MethodId} {args : Array Value} {below : List Frame} {meth : Method} {c : Code} {cells slots : Nat} {Q : State → Prop} {cc : ByteArray} {nL : Nat} {y : MethodName} {ret : Option FieldType} {G : GX} {A : Nat → Prop} {ad : Nat → Nat} {ws : List CE} {pc : Nat} {lv : List (Option Value)} {st : List Value}
theorem V_lsw (X : CX p s m args meth c cc nL y ret G A) {dflt off : Int} {ps : Array (Int × Int)} {len : Nat} {x : Int32} (tgt : Nat) (hd : decode cc pc = .ok (.lookupswitch dflt ps, len)) (hp : (ps.toList.zip (ps.toList.drop 1)).all (fun (a, next) => a.1 < next.1) = true) (ho : Op.lookupswitch.offset ps.toList dflt x.toInt = off) (ht : (pc : Int) + off = (tgt : Int)) (k : V p l e R s m args below meth c cells slots Q G A nL ad ws tgt lv st) : V p l e R s m args below meth c cells slots Q G A nL ad ws pc lv (.int x :: st) := fun H locs ls hP hD hS hl => lv_lookup X.1.1 X.1.2.1 hd hp ho ht (k H locs ls hP hD hS hl)
end VS
abbrev CObj (kg tr kk km kp kh : Nat) : CE := oB 11 [.ref 1, .ref 4, .ref 9, .ref 13, .ref 17, .ref 21, .ref 23, .ref 25, .ref 27, .int (nI kg), .int (nI tr), .int (nI kk), .int (nI km), .int (nI kp), .int (nI kh)]
def ObjAt (ws : List CE) (kg : Nat) : Prop := ∃ tr kk km kp kh : Nat, ws[0]? = some (CObj kg tr kk km kp kh)
theorem ObjAt.fr {ks : List Nat} {ws ws2 : List CE} {kg : Nat} (h : ObjAt ws kg) (hf : fr ks ws ws2) (h0 : 0 ∉ ks) : ObjAt ws2 kg := by
  obtain ⟨a, b, c, d, e, h⟩ := h
  exact ⟨a, b, c, d, e, hf.get h0 h⟩
theorem t_hasLine (l : Launch) (G : GX) (ad : Nat → Nat) (ws : List CE) (kg mm : Nat) (Ln : Nat → Nat) (hO : ObjAt ws kg) (hR : RowN ws 23 24 60 mm Ln) : Ct l G yX11_hasLine cX11_hasLine 1 (some .boolean) 1 0 0 ad ws [.ref 0] (pI ad (fun r ws2 => r = bI (decide (0 < mm)) ∧ ws2 = ws)) := by
  refine Ct.of [some (.ref 0)] (by decide +kernel) (Nat.le_of_ble_eq_true rfl) rfl ?_
  intro p e s m args below meth c A X
  obtain ⟨tr, kk, km, kp, kh, z0⟩ := hO
  obtain ⟨fl, hR1, hR2⟩ := hR
  have z23 := hR1.1
  have hm := hR1.2.2.1
  refine V_aload_n0 X dX11_hasLine_0 ?_
  refine V_getf X dX11_hasLine_1 fX11_57 (by assumption) (by rfl) ?_
  refine V_cV0I X dX11_hasLine_4 kX11_154 (t_Rsize l G ad ws 23 24 60 mm fl hR1) (by assumption) (by rfl) (Nat.le_of_ble_eq_true rfl) ⟨⟨Nat.le_of_ble_eq_true rfl, Nat.le_of_ble_eq_true rfl⟩, Nat.le_of_ble_eq_true rfl, Nat.le_of_ble_eq_true rfl⟩ (fun r ws2 hc => ?_)
  obtain ⟨rfl, hw9⟩ := hc
  obtain rfl := hw9.symm
  refine V_if_le X 14 dX11_hasLine_7 (by decide) (fun h => ?_) (fun h => ?_)
  · have e9 : ¬ 0 < mm := fun q => nI_nle q (by omega) h
    refine V_iconstE X (nI 0) dX11_hasLine_14 (by decide +kernel) ?_
    exact V_zret X dX11_hasLine_15 rfl ⟨by simp [bI, e9], rfl⟩
  · have e9 : 0 < mm := by
      rcases Nat.eq_zero_or_pos mm with q | q
      · exact absurd (by rw [q]; decide +kernel) h
      · exact q
    refine V_iconstE X (nI 1) dX11_hasLine_10 (by decide +kernel) ?_
    refine V_goto X 15 dX11_hasLine_11 (by decide) ?_
    exact V_zret X dX11_hasLine_15 rfl ⟨by simp [bI, e9], rfl⟩
theorem t_isKind (l : Launch) (G : GX) (ad : Nat → Nat) (ws : List CE) (x : Int32) : Ct l G yX11_isKind cX11_isKind 1 (some .boolean) 0 0 0 ad ws [.int x] (pI ad (fun r ws2 => r = bI (decide (¬ x < 0) && decide (¬ nI 4 < x)) ∧ ws2 = ws)) := by
  refine Ct.of [some (.int x)] (by decide +kernel) (Nat.le_of_ble_eq_true rfl) rfl ?_
  intro p e s m args below meth c A X
  refine V_iload_n0 X dX11_isKind_0 ?_
  refine V_if_lt X 13 dX11_isKind_1 (by decide) (fun h => ?_) (fun h => ?_)
  · refine V_iconstE X (nI 0) dX11_isKind_13 (by decide +kernel) ?_
    exact V_zret X dX11_isKind_14 rfl ⟨by simp [bI, h], rfl⟩
  · refine V_iload_n0 X dX11_isKind_4 ?_
    refine V_iconstE X (nI 4) dX11_isKind_5 (by decide +kernel) ?_
    refine V_icmp_gt X 13 dX11_isKind_6 (by decide) (fun h2 => ?_) (fun h2 => ?_)
    · refine V_iconstE X (nI 0) dX11_isKind_13 (by decide +kernel) ?_
      exact V_zret X dX11_isKind_14 rfl ⟨by simp [bI, h2], rfl⟩
    · refine V_iconstE X (nI 1) dX11_isKind_9 (by decide +kernel) ?_
      refine V_goto X 14 dX11_isKind_10 (by decide) ?_
      exact V_zret X dX11_isKind_14 rfl ⟨by simp [bI, h, h2], rfl⟩
def tellI (K : Nat → Nat) (kg mm : Nat) (Ln : Nat → Nat) (f what : Nat) : Int32 := if what = 0 then nI (K f) else if what = 1 then nI (dg kg f) else if mm = 0 then (-1) else nI (dg (Ln (mm - 1)) f)
theorem t_tellAbout (l : Launch) (G : GX) (ad : Nat → Nat) (ws : List CE) (n : Nat) (K : Nat → Nat) (kg mm : Nat) (Ln : Nat → Nat) (hO : ObjAt ws kg) (hL : LooksAt ws n K) (hR : RowN ws 23 24 60 mm Ln) (hkP : ad kP = G.2.2.2) (hk : kg < 10000) (hLn : ∀ i, i < mm → Ln i < 10000) (f what : Nat) (hf : f < 4) (hw : what < 3) : Ct l G yX11_tellAbout cX11_tellAbout 3 (some .int) 5 0 0 ad ws [.ref 0, .int (nI f), .int (nI what)] (pI ad (fun r ws2 => r = tellI K kg mm Ln f what ∧ ws2 = ws)) := by
  refine Ct.of [some (.ref 0), some (.int (nI f)), some (.int (nI what))] (by decide +kernel) (Nat.le_of_ble_eq_true rfl) rfl ?_
  intro p e s m args below meth c A X
  have hO0 := hO
  have hR0 := hR
  obtain ⟨tr, kk, km, kp, kh, z0⟩ := hO
  obtain ⟨fl, hR1, hR2⟩ := hR
  have z23 := hR1.1
  have z1 := hL.2.1
  have hm := hR1.2.2.1
  refine V_iload_n2 X dX11_tellAbout_0 ?_
  rcases (show what = 0 ∨ what = 1 ∨ what = 2 by omega) with rfl | rfl | rfl
  · refine V_lsw X 28 dX11_tellAbout_1 (by decide +kernel) (off := 27) (by decide +kernel) (by decide) ?_
    refine V_aload_n0 X dX11_tellAbout_28 ?_
    refine V_getf X dX11_tellAbout_29 fX11_12 (by assumption) (by rfl) ?_
    refine V_iload_n1 X dX11_tellAbout_32 ?_
    refine V_cV1R X dX11_tellAbout_33 kX11_115 (t_Lat l G ad ws n K hL f hf) (by assumption) (by rfl) (Nat.le_of_ble_eq_true rfl) ⟨⟨Nat.le_of_ble_eq_true rfl, Nat.le_of_ble_eq_true rfl⟩, Nat.le_of_ble_eq_true rfl, Nat.le_of_ble_eq_true rfl⟩ (fun r ws2 hc => ?_)
    obtain ⟨⟨hk5, hq⟩, hw9⟩ := hc
    obtain rfl := hw9.symm
    refine VU_kind X dX11_tellAbout_36 kX11_259_4 kX11_259_5 kX11_259_8 kX11_259_0 kX11_259_3 hk5 hq (Nat.le_of_ble_eq_true rfl) ⟨Nat.le_of_ble_eq_true rfl, Nat.le_of_ble_eq_true rfl, Nat.le_of_ble_eq_true rfl, Nat.le_of_ble_eq_true rfl⟩ ?_
    exact V_iret X dX11_tellAbout_39 ⟨rfl, rfl⟩
  · refine V_lsw X 40 dX11_tellAbout_1 (by decide +kernel) (off := 39) (by decide +kernel) (by decide) ?_
    refine V_aload_n0 X dX11_tellAbout_40 ?_
    refine V_getf X dX11_tellAbout_41 fX11_66 (by assumption) (by rfl) ?_
    refine V_iload_n1 X dX11_tellAbout_44 ?_
    refine V_cS2I X dX11_tellAbout_45 kX11_262 (t_sizeIn l G ad ws hkP kg f (by omega) (by omega)) (Nat.le_of_ble_eq_true rfl) ⟨⟨Nat.le_of_ble_eq_true rfl, Nat.le_of_ble_eq_true rfl⟩, Nat.le_of_ble_eq_true rfl, Nat.le_of_ble_eq_true rfl⟩ (fun r ws2 hc => ?_)
    obtain ⟨rfl, hw9⟩ := hc
    obtain rfl := hw9.symm
    exact V_iret X dX11_tellAbout_48 ⟨rfl, rfl⟩
  · refine V_lsw X 49 dX11_tellAbout_1 (by decide +kernel) (off := 48) (by decide +kernel) (by decide) ?_
    refine V_aload_n0 X dX11_tellAbout_49 ?_
    refine V_cV0I X dX11_tellAbout_50 kX11_89 (t_hasLine l G ad ws kg mm Ln hO0 hR0) (by assumption) (by rfl) (Nat.le_of_ble_eq_true rfl) ⟨⟨Nat.le_of_ble_eq_true rfl, Nat.le_of_ble_eq_true rfl⟩, Nat.le_of_ble_eq_true rfl, Nat.le_of_ble_eq_true rfl⟩ (fun r ws2 hc => ?_)
    obtain ⟨rfl, hw9⟩ := hc
    obtain rfl := hw9.symm
    refine V_if_eq X 70 dX11_tellAbout_53 (by decide) (fun h => ?_) (fun h => ?_)
    · have e9 : mm = 0 := by have := of_decide_eq_false (b_of0 h); omega
      refine V_iconstE X (-1) dX11_tellAbout_70 (by decide +kernel) ?_
      exact V_iret X dX11_tellAbout_71 ⟨by simp [tellI, e9], rfl⟩
    · have e9 : 0 < mm := of_decide_eq_true (b_of1 h)
      refine V_aload_n0 X dX11_tellAbout_56 ?_
      refine V_getf X dX11_tellAbout_57 fX11_57 (by assumption) (by rfl) ?_
      refine V_cV0I X dX11_tellAbout_60 kX11_138 (t_Rlast l G ad ws 23 24 60 mm fl hR1 e9) (by assumption) (by rfl) (Nat.le_of_ble_eq_true rfl) ⟨⟨Nat.le_of_ble_eq_true rfl, Nat.le_of_ble_eq_true rfl⟩, Nat.le_of_ble_eq_true rfl, Nat.le_of_ble_eq_true rfl⟩ (fun r ws2 hc => ?_)
      obtain ⟨rfl, hw9⟩ := hc
      obtain rfl := hw9.symm
      rw [hR2 _ (by omega)]
      have hla := hLn (mm - 1) (by omega)
      refine V_iload_n1 X dX11_tellAbout_63 ?_
      refine V_cS2I X dX11_tellAbout_64 kX11_262 (t_sizeIn l G ad ws hkP _ f (by omega) (by omega)) (Nat.le_of_ble_eq_true rfl) ⟨⟨Nat.le_of_ble_eq_true rfl, Nat.le_of_ble_eq_true rfl⟩, Nat.le_of_ble_eq_true rfl, Nat.le_of_ble_eq_true rfl⟩ (fun r ws2 hc => ?_)
      obtain ⟨rfl, hw9⟩ := hc
      obtain rfl := hw9.symm
      refine V_goto X 71 dX11_tellAbout_67 (by decide) ?_
      exact V_iret X dX11_tellAbout_71 ⟨by simp [tellI, show ¬ mm = 0 by omega], rfl⟩
def refI (n mm N k : Nat) (x : Int32) : Int32 := if mm = 0 then (-103) else if inR (10 ^ n) x then (if N ≤ k then (-104) else nI 0) else (-102)
theorem t_refusalOf (l : Launch) (G : GX) (ad : Nat → Nat) (ws : List CE) (n : Nat) (K : Nat → Nat) (kg mm : Nat) (Ln : Nat → Nat) (hO : ObjAt ws kg) (hL : LooksAt ws n K) (hR : RowN ws 23 24 60 mm Ln) (hkP : ad kP = G.2.2.2) (x : Int32) (kr kI N k : Nat) (fr2 : Nat → Int32) (hR2 : RowAt ws kr kI N k fr2) : Ct l G yX11_refusalOf cX11_refusalOf 3 (some .int) 2 0 0 ad ws [.ref 0, .int x, .ref kr] (pI ad (fun r ws2 => r = refI n mm N k x ∧ ws2 = ws)) := by
  refine Ct.of [some (.ref 0), some (.int x), some (.ref kr)] (by decide +kernel) (Nat.le_of_ble_eq_true rfl) rfl ?_
  intro p e s m args below meth c A X
  have hO0 := hO
  have hR0 := hR
  obtain ⟨tr, kk, km, kp, kh, z0⟩ := hO
  have z1 := hL.2.1
  have zr := hR2.1
  refine V_aload_n0 X dX11_refusalOf_0 ?_
  refine V_cV0I X dX11_refusalOf_1 kX11_89 (t_hasLine l G ad ws kg mm Ln hO0 hR0) (by assumption) (by rfl) (Nat.le_of_ble_eq_true rfl) ⟨⟨Nat.le_of_ble_eq_true rfl, Nat.le_of_ble_eq_true rfl⟩, Nat.le_of_ble_eq_true rfl, Nat.le_of_ble_eq_true rfl⟩ (fun r ws2 hc => ?_)
  obtain ⟨rfl, hw9⟩ := hc
  obtain rfl := hw9.symm
  refine V_if_ne X 10 dX11_refusalOf_4 (by decide) (fun h => ?_) (fun h => ?_)
  · have e9 : ¬ mm = 0 := by have := of_decide_eq_true (b_of1 h); omega
    refine V_aload_n0 X dX11_refusalOf_10 ?_
    refine V_getf X dX11_refusalOf_11 fX11_12 (by assumption) (by rfl) ?_
    refine V_iload_n1 X dX11_refusalOf_14 ?_
    refine V_cV1I X dX11_refusalOf_15 kX11_128 (t_LisP l G ad ws n K hL hkP x) (by assumption) (by rfl) (Nat.le_of_ble_eq_true rfl) ⟨⟨Nat.le_of_ble_eq_true rfl, Nat.le_of_ble_eq_true rfl⟩, Nat.le_of_ble_eq_true rfl, Nat.le_of_ble_eq_true rfl⟩ (fun r ws2 hc => ?_)
    obtain ⟨rfl, hw9⟩ := hc
    obtain rfl := hw9.symm
    refine V_if_ne X 24 dX11_refusalOf_18 (by decide) (fun h2 => ?_) (fun h2 => ?_)
    · have e8 := b_of1 h2
      refine V_aload_n2 X dX11_refusalOf_24 ?_
      refine V_cV0I X dX11_refusalOf_25 kX11_145 (t_RisFull l G ad ws kr kI N k fr2 hR2) (by assumption) (by rfl) (Nat.le_of_ble_eq_true rfl) ⟨⟨Nat.le_of_ble_eq_true rfl, Nat.le_of_ble_eq_true rfl⟩, Nat.le_of_ble_eq_true rfl, Nat.le_of_ble_eq_true rfl⟩ (fun r ws2 hc => ?_)
      obtain ⟨rfl, hw9⟩ := hc
      obtain rfl := hw9.symm
      refine V_if_eq X 36 dX11_refusalOf_28 (by decide) (fun h3 => ?_) (fun h3 => ?_)
      · have e7 := of_decide_eq_false (b_of0 h3)
        refine V_iconstE X (nI 0) dX11_refusalOf_36 (by decide +kernel) ?_
        exact V_iret X dX11_refusalOf_37 ⟨by simp [refI, e9, e8, e7], rfl⟩
      · have e7 := of_decide_eq_true (b_of1 h3)
        refine V_bipushE X (-104) dX11_refusalOf_31 (by decide +kernel) ?_
        refine V_goto X 37 dX11_refusalOf_33 (by decide) ?_
        exact V_iret X dX11_refusalOf_37 ⟨by simp [refI, e9, e8, e7], rfl⟩
    · have e8 := b_of0 h2
      refine V_bipushE X (-102) dX11_refusalOf_21 (by decide +kernel) ?_
      exact V_iret X dX11_refusalOf_23 ⟨by simp [refI, e9, e8], rfl⟩
  · have e9 : mm = 0 := by have := of_decide_eq_false (b_of0 h); omega
    refine V_bipushE X (-103) dX11_refusalOf_7 (by decide +kernel) ?_
    exact V_iret X dX11_refusalOf_9 ⟨by simp [refI, e9], rfl⟩
def rowH (h : Int64) (f : Nat → Int32) : Nat → Int64
  | 0 => h
  | n + 1 => 31 * rowH h f n + (f n).toInt64
theorem t_withRow (l : Launch) (G : GX) (ad : Nat → Nat) (ws : List CE) (h0 : Int64) (k kI N n : Nat) (f : Nat → Int32) (hr : RowAt ws k kI N n f) : Ct l G yX11_withRow cX11_withRow 4 (some .long) 2 0 0 ad ws [.long h0, .ref k] (pL ad (fun r ws2 => r = rowH h0 f n ∧ ws2 = ws)) := by
  refine Ct.of [some (.long h0), none, some (.ref k), none] (by decide +kernel) (Nat.le_of_ble_eq_true rfl) rfl ?_
  intro p e s m args below meth c A X
  have z1 := hr.1
  have hN := hr.2.2.1
  have hN2 := hr.2.2.2.1
  refine V_iconstE X (nI 0) dX11_withRow_0 (by decide +kernel) ?_
  refine V_istore_n3 X dX11_withRow_1 (Nat.le_of_ble_eq_true rfl) rfl ?_
  refine V_loopP (fun q lv2 => ∃ i : Nat, i + q = n ∧ lv2 = [some (.long (rowH h0 f i)), none, some (.ref k), some (.int (nI i))]) n ⟨0, by omega, rfl⟩ ?_
  rintro q _ ⟨i, hi, rfl⟩ ih
  refine V_iload_n3 X dX11_withRow_2 ?_
  refine V_aload_n2 X dX11_withRow_3 ?_
  refine V_cV0I X dX11_withRow_4 kX11_154 (t_Rsize l G ad ws k kI N n f hr) (by assumption) (by rfl) (Nat.le_of_ble_eq_true rfl) ⟨⟨Nat.le_of_ble_eq_true rfl, Nat.le_of_ble_eq_true rfl⟩, Nat.le_of_ble_eq_true rfl, Nat.le_of_ble_eq_true rfl⟩ (fun r ws2 hc => ?_)
  obtain ⟨rfl, hw9⟩ := hc
  obtain rfl := hw9.symm
  refine V_icmp_ge X 29 dX11_withRow_7 (by decide) (fun h => ?_) (fun h => ?_)
  · have e9 : i = n := by have := (nI_leI (by omega) (by omega)).mp h; omega
    refine V_lload_n0 X dX11_withRow_29 ?_
    exact V_lret X dX11_withRow_30 ⟨by rw [e9], rfl⟩
  · have e9 : i < n := by
      rcases Nat.lt_or_ge i n with q9 | q9
      · exact q9
      · exact absurd ((nI_leI (by omega) (by omega)).mpr q9) h
    refine V_ldc2 X dX11_withRow_10 w_783 ?_
    refine V_lload_n0 X dX11_withRow_13 ?_
    refine V_lmul X dX11_withRow_14 ?_
    refine V_aload_n2 X dX11_withRow_15 ?_
    refine V_iload_n3 X dX11_withRow_16 ?_
    refine V_cV1I X dX11_withRow_17 kX11_147 (t_Rget l G ad ws k kI N n f hr _) (by assumption) (by rfl) (Nat.le_of_ble_eq_true rfl) ⟨⟨Nat.le_of_ble_eq_true rfl, Nat.le_of_ble_eq_true rfl⟩, Nat.le_of_ble_eq_true rfl, Nat.le_of_ble_eq_true rfl⟩ (fun r ws2 hc => ?_)
    obtain ⟨rfl, hw9⟩ := hc
    obtain rfl := hw9.symm
    rw [getR_nI (by omega) e9]
    refine V_i2l X dX11_withRow_20 ?_
    refine V_ladd X dX11_withRow_21 ?_
    refine V_lstore_n0 X dX11_withRow_22 (Nat.le_of_ble_eq_true rfl) rfl ?_
    refine V_iinc_3 X dX11_withRow_23 (Nat.le_of_ble_eq_true rfl) rfl (inc1 _) ?_
    refine V_goto X 2 dX11_withRow_26 (by decide) ?_
    exact ih (q - 1) _ (by omega) ⟨i + 1, by omega, rfl⟩
