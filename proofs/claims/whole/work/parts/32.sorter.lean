/-! Sorter -/
section VK
variable {p : Program} {l : Launch} {e : Env} {R : Room} {s : State} {m : MethodId} {args : Array Value} {below : List Frame} {meth : Method} {c : Code} {cells slots : Nat} {Q : State → Prop} {cc : ByteArray} {nL : Nat} {y : MethodName} {ret : Option FieldType} {G : GX} {A : Nat → Prop} {ad : Nat → Nat} {ws : List CE} {pc : Nat} {lv : List (Option Value)} {st : List Value}
theorem V_copy (X : CX p s m args meth c cc nL y ret G A) {idx a0 a1 n0 n1 : Nat} {f g : Nat → Int32} {sp dp n : Nat} (hd : decode cc pc = .ok (.invokestatic idx, 3)) (hl : Cond.methodLink y.cls idx arraycopyName ∈ tb) (hna : Cond.native arraycopyName ∈ tb) (hst : Cond.static arraycopyName ∈ tb) (hini : Cond.initialized "java/lang/System" ∈ tb) (h0 : ws[a0]? = some (iA n0 f)) (h1 : ws[a1]? = some (iA n1 g)) (h4 : sp + n ≤ n0) (h5 : dp + n ≤ n1) (hn0 : n0 < 2147483648) (hn1 : n1 < 2147483648) (hR : 1 ≤ R.frames) (hloc : (st.map fun v => v.category).sum + (nativeFrameWords "java/lang/System" "arraycopy" 5 + 11) ≤ R.locals)
    (kk : V p l e R s m args below meth c cells slots Q G A nL ad (ws.set a1 (iA n1 (va_cpy f g sp dp n))) (pc + 3) lv st) : V p l e R s m args below meth c cells slots Q G A nL ad ws pc lv (.int (nI n) :: .int (nI dp) :: .ref a1 :: .int (nI sp) :: .ref a0 :: st) := by
  intro H locs ls hP hD hS hl2
  have c1 : (nI n).toNatClampNeg = n := nI_clamp (by omega)
  have c2 : (nI dp).toNatClampNeg = dp := nI_clamp (by omega)
  have c3 : (nI sp).toNatClampNeg = sp := nI_clamp (by omega)
  have hcat : ((st.map (cv ad)).map fun v => v.category) = st.map fun v => v.category := by
    rw [List.map_map]
    exact List.map_congr_left (fun v _ => cv_cat ad v)
  refine va_copyi (D := G.1) (cl := vwCl) (ws := cw G ad ws) X.1.1 X.1.2.1 (by rw [X.1.2.2.1]; exact hl2.1.1.symm) X.1.2.2.2.1 (X.1.2.2.2.2 _ hl) (X.1.2.2.2.2 _ hna) (X.1.2.2.2.2 _ hst) (X.1.2.2.2.2 _ hini) X.2.1 hP hD hS a0 a1 0 0 (cw_get h0) (cw_get h1) rfl rfl rfl (nI_pos (by omega)) (nI_pos (by omega)) (nI_pos (by omega)) (by rw [c1, c3]; exact h4) (by rw [c1, c2]; exact h5) (fun i _ => rfl) hR (by rw [hcat]; exact hloc) hd (fun H1 locs1 hP1 hD1 hS1 => ?_)
  rw [c1, c2, c3] at hP1 hD1
  have hP2 : va_P G.1 vwCl (cw G ad (ws.set a1 (iA n1 (va_cpy f g sp dp n)))) H1 := by rw [← cw_set]; exact hP1
  have hD2 : va_D A (cw G ad (ws.set a1 (iA n1 (va_cpy f g sp dp n)))) := by rw [← cw_set]; exact hD1
  exact kk H1 locs1 ls hP2 hD2 hS1 hl2
end VK
def moreT (g : Nat → Nat → Nat) (pre : List Nat) (n : Nat) : Nat := match pre.getLast? with
  | none => 0
  | some a => g a n
def tryP (sz : Nat) (g : Nat → Nat → Nat) : Nat → List Nat → Nat → Nat × List Nat → Nat × List Nat
  | 0, pre, so, q => if q.1 ≤ so then q else (so, pre)
  | k + 1, pre, so, q => if q.1 ≤ so then q else (List.range sz).foldl (fun q n => if pre.contains n then q else tryP sz g k (pre ++ [n]) (so + moreT g pre n) q) q
def SorterAt (ws : List CE) (sz : Nat) (g : Nat → Nat → Nat) (q : Nat × List Nat) (pre : List Nat) : Prop := sz ≤ 6 ∧ q.1 ≤ 217 ∧ ws[17]? = some (oB 10 [.ref 1, .ref 18, .ref 19, .ref 20, .int (nI sz), .int (nI q.1)]) ∧ ∃ fg ft fb : Nat → Int32, ws[18]? = some (iA 36 fg) ∧ ws[19]? = some (iA 6 ft) ∧ ws[20]? = some (iA 6 fb) ∧ (∀ a, a < sz → ∀ b, b < sz → fg (a * 6 + b) = nI (g a b)) ∧ (∀ (i x : Nat), pre[i]? = some x → ft i = nI x) ∧ (∀ (i x : Nat), q.2[i]? = some x → fb i = nI x)
abbrev srt4 : List Nat := [17, 18, 19, 20]
theorem w_cp1 : Cond.methodLink RX10 56 arraycopyName ∈ tb := tb_mem 751 (by decide +kernel) (by decide +kernel)
theorem w_cp2 : Cond.native arraycopyName ∈ tb := tb_mem 753 (by decide +kernel) (by decide +kernel)
theorem w_cp3 : Cond.static arraycopyName ∈ tb := tb_mem 752 (by decide +kernel) (by decide +kernel)
theorem w_cp4 : Cond.initialized "java/lang/System" ∈ tb := tb_mem 67 (by decide +kernel) (by decide +kernel)
theorem f_shr : ∀ t, t < 64 → ∀ n, n < 6 → (nI t >>> (nI n &&& 31)) &&& nI 1 = nI (t / 2 ^ n % 2) := by decide +kernel
theorem bits_div (P : Nat → Bool) (N n : Nat) : bits P N / 2 ^ n % 2 = if decide (n < N) && P n then 1 else 0 := by
  have h := bits_tb P N n
  rw [← h, Nat.testBit_eq_decide_div_mod_eq]
  have : bits P N / 2 ^ n % 2 < 2 := Nat.mod_lt _ (by decide)
  generalize bits P N / 2 ^ n % 2 = x at *
  rcases (show x = 0 ∨ x = 1 by omega) with rfl | rfl <;> simp
theorem bits_orn (P : Nat → Bool) {N n : Nat} (h : n < N) : bits P N ||| 2 ^ n = bits (fun j => P j || j == n) N := by
  apply Nat.eq_of_testBit_eq
  intro i
  rw [Nat.testBit_or, bits_tb, bits_tb, Nat.testBit_two_pow]
  by_cases hi : i = n
  · subst hi; simp [h]
  · have e9 : (i == n) = false := by simpa using hi
    simp [Ne.symm hi, e9]
def takB (pre : List Nat) : Nat := bits (fun j => pre.contains j) 6
theorem takB_lt (pre : List Nat) : takB pre < 64 := bits_lt _ 6
theorem takB_add {pre : List Nat} {n : Nat} (h : n < 6) : nI (takB pre) ||| nI (2 ^ n) = nI (takB (pre ++ [n])) := by
  unfold takB
  rw [nI_or, bits_orn _ h, bits_congr (P2 := fun j => (pre ++ [n]).contains j)]
  intro j hj
  by_cases e : j = n
  · subst e; simp
  · have e9 : (j == n) = false := by simpa using e
    simp [e9, e]
theorem tryP_le (sz : Nat) (g : Nat → Nat → Nat) : ∀ (k : Nat) (pre : List Nat) (so : Nat) (q : Nat × List Nat), (tryP sz g k pre so q).1 ≤ q.1
  | 0, pre, so, q => by
    unfold tryP
    split
    · exact Nat.le_refl _
    · simp; omega
  | k + 1, pre, so, q => by
    unfold tryP
    split
    · exact Nat.le_refl _
    · have key : ∀ (l : List Nat) (q2 : Nat × List Nat), (l.foldl (fun q n => if pre.contains n then q else tryP sz g k (pre ++ [n]) (so + moreT g pre n) q) q2).1 ≤ q2.1 := by
        intro l
        induction l with
        | nil => intro q2; exact Nat.le_refl _
        | cons a l ih =>
          intro q2
          rw [List.foldl_cons]
          refine Nat.le_trans (ih _) ?_
          split
          · exact Nat.le_refl _
          · exact tryP_le sz g k _ _ _
      exact key _ q
set_option maxHeartbeats 2000000 in
theorem t_try (l : Launch) (G : GX) (ad : Nat → Nat) (sz : Nat) (g : Nat → Nat → Nat) (hg : ∀ a b, g a b ≤ 36) : ∀ (k : Nat) (ws : List CE) (pre : List Nat) (so : Nat) (q : Nat × List Nat), pre.length + k = sz → (∀ x ∈ pre, x < sz) → so ≤ 36 * pre.length → SorterAt ws sz g q pre → Ct l G yX10_tryPlaces cX10_tryPlaces 6 none (k + 1) 0 0 ad ws [.ref 17, .int (nI pre.length), .int (nI (takB pre)), .int (nI so)] (pV ad (fun ws2 => SorterAt ws2 sz g (tryP sz g k pre so q) pre ∧ fr srt4 ws ws2)) := by
  intro k
  induction k with
  | zero =>
    intro ws pre so q hk hpre hso hS
    refine Ct.of [some (.ref 17), some (.int (nI pre.length)), some (.int (nI (takB pre))), some (.int (nI so)), none, none] (by decide +kernel) (Nat.le_of_ble_eq_true rfl) rfl ?_
    intro p e s m args below meth c A X
    have hS0 := hS
    obtain ⟨h1, h2, h3, fg, ft, fb, h4, h5, h6, h7, h8, h9⟩ := hS
    refine V_iload_n3 X dX10_tryPlaces_0 ?_
    refine V_aload_n0 X dX10_tryPlaces_1 ?_
    refine V_getf X dX10_tryPlaces_2 fX10_25 (by assumption) (by rfl) ?_
    refine V_icmp_lt X 9 dX10_tryPlaces_5 (by decide) (fun h => ?_) (fun h => ?_)
    · have e9 : so < q.1 := (nI_ltI (by omega) (by omega)).mp h
      refine V_iload_n1 X dX10_tryPlaces_9 ?_
      refine V_aload_n0 X dX10_tryPlaces_10 ?_
      refine V_getf X dX10_tryPlaces_11 fX10_21 (by assumption) (by rfl) ?_
      refine V_icmp_lt X 40 dX10_tryPlaces_14 (by decide) (fun h10 => ?_) (fun h10 => ?_)
      · exact absurd ((nI_ltI (by omega) (by omega)).mp h10) (by omega)
      · refine V_aload_n0 X dX10_tryPlaces_17 ?_
        refine V_iload_n3 X dX10_tryPlaces_18 ?_
        refine V_putf X dX10_tryPlaces_19 fX10_25 (by assumption) (Nat.le_of_ble_eq_true rfl) rfl rfl ?_
        have d3 := gset (e2 := oB 10 [Value.ref 1, Value.ref 18, Value.ref 19, Value.ref 20, Value.int (nI sz), Value.int (nI so)]) h3
        have d4 := gne (k := 17) (e2 := oB 10 [Value.ref 1, Value.ref 18, Value.ref 19, Value.ref 20, Value.int (nI sz), Value.int (nI so)]) (by decide) h4
        have d5 := gne (k := 17) (e2 := oB 10 [Value.ref 1, Value.ref 18, Value.ref 19, Value.ref 20, Value.int (nI sz), Value.int (nI so)]) (by decide) h5
        have d6 := gne (k := 17) (e2 := oB 10 [Value.ref 1, Value.ref 18, Value.ref 19, Value.ref 20, Value.int (nI sz), Value.int (nI so)]) (by decide) h6
        refine V_aload_n0 X dX10_tryPlaces_22 ?_
        refine V_getf X dX10_tryPlaces_23 fX10_15 (by assumption) (by rfl) ?_
        refine V_iconstE X (nI 0) dX10_tryPlaces_26 (by decide +kernel) ?_
        refine V_aload_n0 X dX10_tryPlaces_27 ?_
        refine V_getf X dX10_tryPlaces_28 fX10_18 (by assumption) (by rfl) ?_
        refine V_iconstE X (nI 0) dX10_tryPlaces_31 (by decide +kernel) ?_
        refine V_aload_n0 X dX10_tryPlaces_32 ?_
        refine V_getf X dX10_tryPlaces_33 fX10_21 (by assumption) (by rfl) ?_
        refine V_copy X dX10_tryPlaces_36 w_cp1 w_cp2 w_cp3 w_cp4 d5 d6 (by omega) (by omega) (by omega) (by omega) (Nat.le_refl _) (by decide +kernel) ?_
        have e10 : tryP sz g 0 pre so q = (so, pre) := by rw [tryP, if_neg (by omega)]
        refine V_vret X dX10_tryPlaces_39 ⟨⟨h1, by rw [e10]; show so ≤ 217; omega, by rw [e10]; exact gne (by decide) d3, fg, ft, _, gne (by decide) d4, gne (by decide) d5, gset d6, h7, h8, ?_⟩, (fr.rfl.set (by decide)).set (by decide)⟩
        intro i x hx
        have hx : pre[i]? = some x := by rw [e10] at hx; exact hx
        have hi := (List.getElem?_eq_some_iff.mp hx).1
        rw [pk_cpy_in (by omega) (by omega)]
        simp only [Nat.sub_zero, Nat.zero_add]
        exact h8 i x hx
    · have e9 : q.1 ≤ so := by
        rcases Nat.lt_or_ge so q.1 with q9 | q9
        · exact absurd ((nI_ltI (by omega) (by omega)).mpr q9) h
        · exact q9
      exact V_vret X dX10_tryPlaces_8 ⟨by rw [tryP, if_pos e9]; exact hS0, fr.rfl⟩
  | succ k ih =>
    intro ws pre so q hk hpre hso hS
    refine Ct.of [some (.ref 17), some (.int (nI pre.length)), some (.int (nI (takB pre))), some (.int (nI so)), none, none] (by decide +kernel) (Nat.le_of_ble_eq_true rfl) rfl ?_
    intro p e s m args below meth c A X
    have hS0 := hS
    have h1 := hS.1
    have h2 := hS.2.1
    have h3 := hS.2.2.1
    refine V_iload_n3 X dX10_tryPlaces_0 ?_
    refine V_aload_n0 X dX10_tryPlaces_1 ?_
    refine V_getf X dX10_tryPlaces_2 fX10_25 (by assumption) (by rfl) ?_
    refine V_icmp_lt X 9 dX10_tryPlaces_5 (by decide) (fun h => ?_) (fun h => ?_)
    · have e9 : so < q.1 := (nI_ltI (by omega) (by omega)).mp h
      have e10 : tryP sz g (k + 1) pre so q = (List.range sz).foldl (fun q n => if pre.contains n then q else tryP sz g k (pre ++ [n]) (so + moreT g pre n) q) q := by rw [tryP, if_neg (by omega)]
      refine V_iload_n1 X dX10_tryPlaces_9 ?_
      refine V_aload_n0 X dX10_tryPlaces_10 ?_
      refine V_getf X dX10_tryPlaces_11 fX10_21 (by assumption) (by rfl) ?_
      refine V_icmp_lt X 40 dX10_tryPlaces_14 (by decide) (fun h10 => ?_) (fun h10 => ?_)
      · refine V_iconstE X (nI 0) dX10_tryPlaces_40 (by decide +kernel) ?_
        refine V_istore_4 X dX10_tryPlaces_41 (Nat.le_of_ble_eq_true rfl) rfl ?_
        refine V_loop (fun k2 wk lv2 => ∃ (n : Nat) (w5 : Option Value) (q2 : Nat × List Nat), n + k2 = sz ∧ q2 = (List.range n).foldl (fun q n => if pre.contains n then q else tryP sz g k (pre ++ [n]) (so + moreT g pre n) q) q ∧ lv2 = [some (.ref 17), some (.int (nI pre.length)), some (.int (nI (takB pre))), some (.int (nI so)), some (.int (nI n)), w5] ∧ fr srt4 ws wk ∧ SorterAt wk sz g q2 pre) sz ⟨0, none, q, by omega, rfl, rfl, fr.rfl, hS0⟩ ?_
        rintro k2 wk _ ⟨n, w5, q2, hn, hq2, rfl, hfk, hSk⟩ ih2
        have hSk0 := hSk
        obtain ⟨g1, g2, g3, fg, ft, fb, g4, g5, g6, g7, g8, g9⟩ := hSk
        refine V_iload_4 X dX10_tryPlaces_43 ?_
        refine V_aload_n0 X dX10_tryPlaces_45 ?_
        refine V_getf X dX10_tryPlaces_46 fX10_21 (by assumption) (by rfl) ?_
        refine V_icmp_ge X 121 dX10_tryPlaces_49 (by decide) (fun h11 => ?_) (fun h11 => ?_)
        · have e11 : n = sz := by have := (nI_leI (by omega) (by omega)).mp h11; omega
          exact V_vret X dX10_tryPlaces_121 ⟨by rw [e11] at hq2; rw [e10, ← hq2]; exact hSk0, hfk⟩
        · have e11 : n < sz := by
            rcases Nat.lt_or_ge n sz with q9 | q9
            · exact q9
            · exact absurd ((nI_leI (by omega) (by omega)).mpr q9) h11
          have nxt : ∀ (wy : List CE) (w5 : Option Value) (q3 : Nat × List Nat), q3 = (if pre.contains n then q2 else tryP sz g k (pre ++ [n]) (so + moreT g pre n) q2) → fr srt4 ws wy → SorterAt wy sz g q3 pre → V p l e (rmm (k + 1 + 1) 0 0) s m args below meth c 0 0 (MQ below (QQ G A (pV ad (fun ws2 => SorterAt ws2 sz g (tryP sz g (k + 1) pre so q) pre ∧ fr srt4 ws ws2))) args s 0 0 A) G A 6 ad wy 115 [some (.ref 17), some (.int (nI pre.length)), some (.int (nI (takB pre))), some (.int (nI so)), some (.int (nI n)), w5] [] := by
            intro wy w5 q3 hq3 hfy hSy
            refine V_iinc_4 X dX10_tryPlaces_115 (Nat.le_of_ble_eq_true rfl) rfl (inc1 _) ?_
            refine V_goto X 43 dX10_tryPlaces_118 (by decide) ?_
            exact ih2 (k2 - 1) _ _ (by omega) ⟨n + 1, w5, q3, by omega, by rw [List.range_succ, List.foldl_append, ← hq2, hq3]; rfl, rfl, hfy, hSy⟩
          refine V_iload_n2 X dX10_tryPlaces_52 ?_
          refine V_iload_4 X dX10_tryPlaces_53 ?_
          refine V_ishr X dX10_tryPlaces_55 ?_
          refine V_iconstE X (nI 1) dX10_tryPlaces_56 (by decide +kernel) ?_
          refine V_iand X dX10_tryPlaces_57 ?_
          have e12 : decide (n < 6) = true := decide_eq_true (by omega)
          have hsh : (nI (takB pre) >>> (nI n &&& 31)) &&& nI 1 = nI (if pre.contains n then 1 else 0) := by rw [f_shr _ (takB_lt pre) n (by omega), takB, bits_div, e12, Bool.true_and]
          rw [hsh]
          refine V_if_ne X 115 dX10_tryPlaces_58 (by decide) (fun h12 => ?_) (fun h12 => ?_)
          · have e13 : pre.contains n = true := by
              cases hb : pre.contains n with
              | true => rfl
              | false => rw [hb] at h12; exact absurd rfl h12
            exact nxt wk w5 q2 (by rw [e13]; rfl) hfk hSk0
          · have e13 : pre.contains n = false := by
              cases hb : pre.contains n with
              | false => rfl
              | true => rw [hb] at h12; exact absurd h12 (by decide +kernel)
            have hmo : moreT g pre n ≤ 36 := by
              unfold moreT
              split
              · omega
              · exact hg _ _
            have after : V p l e (rmm (k + 1 + 1) 0 0) s m args below meth c 0 0 (MQ below (QQ G A (pV ad (fun ws2 => SorterAt ws2 sz g (tryP sz g (k + 1) pre so q) pre ∧ fr srt4 ws ws2))) args s 0 0 A) G A 6 ad wk 88 [some (.ref 17), some (.int (nI pre.length)), some (.int (nI (takB pre))), some (.int (nI so)), some (.int (nI n)), w5] [.int (nI (moreT g pre n))] := by
              refine V_istore_5 X dX10_tryPlaces_88 (Nat.le_of_ble_eq_true rfl) rfl ?_
              refine V_aload_n0 X dX10_tryPlaces_90 ?_
              refine V_getf X dX10_tryPlaces_91 fX10_15 (by assumption) (by rfl) ?_
              refine V_iload_n1 X dX10_tryPlaces_94 ?_
              refine V_iload_4 X dX10_tryPlaces_95 ?_
              refine V_iast X pre.length dX10_tryPlaces_97 (by assumption) rfl (by omega) (by omega) ?_
              have b3 := gne (k := 19) (e2 := iA 6 (upd ft pre.length (nI n))) (by decide) g3
              refine V_aload_n0 X dX10_tryPlaces_98 ?_
              refine V_iload_n1 X dX10_tryPlaces_99 ?_
              refine V_iconstE X (nI 1) dX10_tryPlaces_100 (by decide +kernel) ?_
              refine V_iadd X dX10_tryPlaces_101 ?_
              rw [nI_add]
              refine V_iload_n2 X dX10_tryPlaces_102 ?_
              refine V_iconstE X (nI 1) dX10_tryPlaces_103 (by decide +kernel) ?_
              refine V_iload_4 X dX10_tryPlaces_104 ?_
              refine V_ishl X dX10_tryPlaces_106 ?_
              rw [shl1 n (by omega)]
              refine V_ior X dX10_tryPlaces_107 ?_
              rw [takB_add (by omega)]
              refine V_iload_n3 X dX10_tryPlaces_108 ?_
              refine V_iload_5 X dX10_tryPlaces_109 ?_
              refine V_iadd X dX10_tryPlaces_111 ?_
              rw [nI_add]
              have hlen2 : pre.length + 1 = (pre ++ [n]).length := by simp
              rw [hlen2]
              have hSn : SorterAt (wk.set 19 (iA 6 (upd ft pre.length (nI n)))) sz g q2 (pre ++ [n]) := by
                refine ⟨g1, g2, b3, fg, _, fb, gne (by decide) g4, gset g5, gne (by decide) g6, g7, ?_, g9⟩
                intro i x hx
                by_cases e : i = pre.length
                · subst e; simp at hx; subst hx; exact pk_us
                · rw [pk_un e]
                  apply g8 i x
                  rw [List.getElem?_append] at hx
                  split at hx
                  · exact hx
                  · next hi => rw [List.getElem?_eq_none (by simp; omega)] at hx; cases hx
              have hcall := ih (wk.set 19 (iA 6 (upd ft pre.length (nI n)))) (pre ++ [n]) (so + moreT g pre n) q2 (by simp; omega) (fun x hx => by rcases List.mem_append.mp hx with hx | hx; exact hpre x hx; simp at hx; omega) (by simp; omega) hSn
              refine V_cV3V X dX10_tryPlaces_112 kX10_52 hcall b3 rfl (Nat.le_of_ble_eq_true rfl) ⟨⟨Nat.le_refl _, by show 8 + (6 + 11) + 40 * (k + 1) ≤ 40 * (k + 1 + 1); omega⟩, Nat.le_refl _, Nat.le_refl _⟩ (fun ws2 hc => ?_)
              obtain ⟨hS5, hf5⟩ := hc
              refine nxt ws2 _ (tryP sz g k (pre ++ [n]) (so + moreT g pre n) q2) (by rw [e13]; rfl) ((hfk.set (by decide)).trans hf5) ?_
              obtain ⟨y1, y2, y3, yg, yt, yb, y4, y5, y6, y7, y8, y9⟩ := hS5
              refine ⟨y1, y2, y3, yg, yt, yb, y4, y5, y6, y7, fun i x hx => y8 i x ?_, y9⟩
              rw [List.getElem?_append_left (List.getElem?_eq_some_iff.mp hx).1]; exact hx
            refine V_iload_n1 X dX10_tryPlaces_61 ?_
            refine V_if_ne X 69 dX10_tryPlaces_62 (by decide) (fun h14 => ?_) (fun h14 => ?_)
            · have e14 : 0 < pre.length := by
                rcases Nat.eq_zero_or_pos pre.length with q9 | q9
                · exact absurd (by rw [q9]; rfl) h14
                · exact q9
              have hla : pre[pre.length - 1]? = some (pre[pre.length - 1]) := List.getElem?_eq_getElem (by omega)
              generalize hlv : pre[pre.length - 1] = a at hla
              have ha : a < sz := hpre a (List.mem_of_getElem? hla)
              have hmo2 : moreT g pre n = g a n := by
                unfold moreT
                rw [List.getLast?_eq_getElem?, hla]
              refine V_aload_n0 X dX10_tryPlaces_69 ?_
              refine V_getf X dX10_tryPlaces_70 fX10_9 (by assumption) (by rfl) ?_
              refine V_aload_n0 X dX10_tryPlaces_73 ?_
              refine V_getf X dX10_tryPlaces_74 fX10_15 (by assumption) (by rfl) ?_
              refine V_iload_n1 X dX10_tryPlaces_77 ?_
              refine V_iconstE X (nI 1) dX10_tryPlaces_78 (by decide +kernel) ?_
              refine V_isub X dX10_tryPlaces_79 ?_
              rw [pk_sub (by omega)]
              refine V_iald X (pre.length - 1) dX10_tryPlaces_80 (by assumption) rfl (by omega) (by omega) ?_
              rw [g8 _ _ hla]
              refine V_bipushE X (nI 6) dX10_tryPlaces_81 (by decide +kernel) ?_
              refine V_imul X dX10_tryPlaces_83 ?_
              refine V_iload_4 X dX10_tryPlaces_84 ?_
              refine V_iadd X dX10_tryPlaces_86 ?_
              rw [pk_mul, nI_add]
              refine V_iald X (a * 6 + n) dX10_tryPlaces_87 (by assumption) rfl (by omega) (by omega) ?_
              rw [g7 a ha n e11, ← hmo2]
              exact after
            · have e14 : pre.length = 0 := (nI_eq (a := pre.length) (b := 0) (by omega) (by omega)).mp h14
              have hmo2 : moreT g pre n = 0 := by
                unfold moreT
                rw [List.length_eq_zero_iff.mp e14]; rfl
              refine V_iconstE X (nI 0) dX10_tryPlaces_65 (by decide +kernel) ?_
              refine V_goto X 88 dX10_tryPlaces_66 (by decide) ?_
              refine V_eqS (st2 := [.int (nI (moreT g pre n))]) (by rw [hmo2]) ?_
              exact after
      · exact absurd ((nI_ltI (by omega) (by omega)).mpr (by omega)) h10
    · have e9 : q.1 ≤ so := by
        rcases Nat.lt_or_ge so q.1 with q9 | q9
        · exact absurd ((nI_ltI (by omega) (by omega)).mpr q9) h
        · exact q9
      exact V_vret X dX10_tryPlaces_8 ⟨by rw [tryP, if_pos e9]; exact hS0, fr.rfl⟩
