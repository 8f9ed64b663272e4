/-! the law: its loop -/
theorem and31 (x : Int32) : ∃ k, k < 32 ∧ x &&& nI 31 = nI k := by
  have e : x = nI x.toBitVec.toNat := by
    apply Int32.toBitVec_inj.1
    show x.toBitVec = BitVec.ofNat 32 x.toBitVec.toNat
    simp
  refine ⟨x.toBitVec.toNat % 32, Nat.mod_lt _ (by decide), ?_⟩
  have h : x.toBitVec.toNat &&& 31 = x.toBitVec.toNat % 32 := Nat.and_two_pow_sub_one_eq_mod _ 5
  rw [← h, ← nI_and, ← e]
set_option maxHeartbeats 4000000 in
theorem law_loop {p : Program} {l : Launch} {e : Env} {s : State} {m : MethodId} {b L : Nat} {xs : Nat → Int32} {below : List Frame} {meth : Method} {c : Code} {Q : State → Prop} {G : GX} {slots : Nat} (F : LF p s m b c G (fun q : Nat => s.heap.size ≤ q)) (hX : va_X b L xs s s.heap) (hbl : b < s.heap.size) (hL : L ≤ 2048) (hsl : slots ≤ 60000) (hend : ∀ (H : Heap) (ls : Array Slot), W p l e room_1 s m #[Value.ref b] below meth c H [] 600000 7302250 Q (F0 m 815 ls [.int 1])) : ∀ (n i cells : Nat) (ad : Nat → Nat) (ws : List CE) (H : Heap) (locs : List Loc) (ls : Array Slot), i ≤ L → L ≤ i + 4 * n → cells + n ≤ 1500 → LI G ad ws n → va_P G.1 vwCl (cw G ad ws) H → va_D (fun q : Nat => s.heap.size ≤ q) (cw G ad ws) → va_S (fun q : Nat => s.heap.size ≤ q) s.heap H locs → lv_has ls 4 [(0, .ref b), (1, .ref (ad 0)), (2, .ref (ad 29)), (3, .int (nI i))] → W p l e room_1 s m #[Value.ref b] below meth c H locs cells slots Q (F0 m 18 ls []) := by
  have hx := F.1.1
  have hb := F.1.2.1
  have hbA : ¬ (fun q : Nat => s.heap.size ≤ q) b := Nat.not_le.mpr hbl
  intro n
  induction n with
  | zero =>
    intro i cells ad ws H locs ls hi hin hcl hI hP hD hS hl
    refine lv_iload_n hx hb dL_law_18 rfl (lv_at hl 3 rfl) ?_
    refine lv_aload_n hx hb dL_law_19 rfl (lv_at hl 0 rfl) ?_
    refine va_slen hx hb hX hbl hbA hS dL_law_20 ?_
    refine lv_iconst (v := nI 4) hx hb dL_law_21 (by decide +kernel) ?_
    refine lv_isub hx hb dL_law_22 ?_
    refine lv_icmp_gt (tgt := 814) hx hb dL_law_23 (by decide) (fun cg => ?_) (fun cg => ?_)
    · refine lv_iconst (v := 1) hx hb dL_law_814 (by decide) ?_
      refine va_forget (fun q hq => hS.2.2 q hq) ?_
      refine W.widen (k := 600000) (n := 7302250) (by omega) (by omega) ?_
      exact hend _ _
    · have hlt : i + 4 ≤ L := by
        have h1 : ¬ (nI L - nI 4 < nI i) := cg
        rw [Int32.lt_iff_toInt_lt, pk_sub_toInt (by omega) (by decide), nI_toInt (by omega)] at h1
        omega
      omega
  | succ n ih =>
    intro i cells ad ws H locs ls hi hin hcl hI hP hD hS hl
    refine lv_iload_n hx hb dL_law_18 rfl (lv_at hl 3 rfl) ?_
    refine lv_aload_n hx hb dL_law_19 rfl (lv_at hl 0 rfl) ?_
    refine va_slen hx hb hX hbl hbA hS dL_law_20 ?_
    refine lv_iconst (v := nI 4) hx hb dL_law_21 (by decide +kernel) ?_
    refine lv_isub hx hb dL_law_22 ?_
    refine lv_icmp_gt (tgt := 814) hx hb dL_law_23 (by decide) (fun cg => ?_) (fun cg => ?_)
    · refine lv_iconst (v := 1) hx hb dL_law_814 (by decide) ?_
      refine va_forget (fun q hq => hS.2.2 q hq) ?_
      refine W.widen (k := 600000) (n := 7302250) (by omega) (by omega) ?_
      exact hend _ _
    · have hlt : i + 4 ≤ L := by
        have h1 : ¬ (nI L - nI 4 < nI i) := cg
        rw [Int32.lt_iff_toInt_lt, pk_sub_toInt (by omega) (by decide), nI_toInt (by omega)] at h1
        omega
      refine lv_aload_n hx hb dL_law_26 rfl (lv_at hl 0 rfl) ?_
      refine lv_iload_n hx hb dL_law_27 rfl (lv_at hl 3 rfl) ?_
      refine va_sld hx hb hX hbl hbA hS (vp_in_nI (show i < L by omega) (by omega)) dL_law_28 ?_
      refine lv_bipush (v := nI 31) hx hb dL_law_29 (by decide +kernel) ?_
      refine lv_iand hx hb dL_law_31 ?_
      refine lv_topi (fun t et => ?_)
      obtain ⟨k, hk, ek⟩ := and31 (xs (nI i).toNatClampNeg)
      obtain rfl : t = nI k := et.trans ek
      clear et ek
      have i1 : vp_in (nI i + nI 1) L := by rw [nI_add]; exact vp_in_nI (show i + 1 < L by omega) (by omega)
      have i2 : vp_in (nI i + nI 2) L := by rw [nI_add]; exact vp_in_nI (show i + 2 < L by omega) (by omega)
      have i3 : vp_in (nI i + nI 3) L := by rw [nI_add]; exact vp_in_nI (show i + 3 < L by omega) (by omega)
      have nxt : ∀ (ad2 : Nat → Nat) (w2 : List CE) (H1 : Heap) (locs1 : List Loc) (cells2 : Nat), LI G ad2 w2 n → ad2 0 = ad 0 → ad2 29 = ad 29 → va_P G.1 vwCl (cw G ad2 w2) H1 → va_D (fun q : Nat => s.heap.size ≤ q) (cw G ad2 w2) → va_S (fun q : Nat => s.heap.size ≤ q) s.heap H1 locs1 → cells2 ≤ cells + 1 → W p l e room_1 s m #[Value.ref b] below meth c H1 locs1 cells2 slots Q (F0 m 808 ls []) := by
        intro ad2 w2 H1 locs1 cells2 hI2 q0 q29 hP2 hD2 hS2 hc2
        rw [← q0, ← q29] at hl
        refine lv_iinc (v := nI (i + 4)) (lv' := [(3, .int (nI (i + 4))), (0, .ref b), (1, .ref (ad2 0)), (2, .ref (ad2 29))]) hx hb dL_law_808 hl (k := 3) rfl (by rw [show Int32.ofInt 4 = nI 4 by decide +kernel, nI_add]) (by decide) rfl (fun ls2 hl2 => ?_)
        refine lv_goto (tgt := 18) hx hb dL_law_811 (by decide) ?_
        exact ih (i + 4) cells2 ad2 w2 H1 locs1 ls2 hlt (by omega) (by omega) hI2 hP2 hD2 hS2 (lv_sub hl2 [1, 2, 3, 0] rfl)
      by_cases hk27 : k < 27
      · rcases (show k = 0 ∨ k = 1 ∨ k = 2 ∨ k = 3 ∨ k = 4 ∨ k = 5 ∨ k = 6 ∨ k = 7 ∨ k = 8 ∨ k = 9 ∨ k = 10 ∨ k = 11 ∨ k = 12 ∨ k = 13 ∨ k = 14 ∨ k = 15 ∨ k = 16 ∨ k = 17 ∨ k = 18 ∨ k = 19 ∨ k = 20 ∨ k = 21 ∨ k = 22 ∨ k = 23 ∨ k = 24 ∨ k = 25 ∨ k = 26 by omega) with rfl | rfl | rfl | rfl | rfl | rfl | rfl | rfl | rfl | rfl | rfl | rfl | rfl | rfl | rfl | rfl | rfl | rfl | rfl | rfl | rfl | rfl | rfl | rfl | rfl | rfl | rfl
        · refine lv_tableIn (tgt := 156) (off := 124) hx hb dL_law_32 (by decide +kernel) (by decide +kernel) (by decide +kernel) (by decide) ?_
          exact law_0 F hX hbl hl hI hP hD hS (by omega) hsl i1 i2 i3 nxt
        · refine lv_tableIn (tgt := 189) (off := 157) hx hb dL_law_32 (by decide +kernel) (by decide +kernel) (by decide +kernel) (by decide) ?_
          exact law_1 F hX hbl hl hI hP hD hS (by omega) hsl i1 i2 i3 nxt
        · refine lv_tableIn (tgt := 222) (off := 190) hx hb dL_law_32 (by decide +kernel) (by decide +kernel) (by decide +kernel) (by decide) ?_
          exact law_2 F hX hbl hl hI hP hD hS (by omega) hsl i1 i2 i3 nxt
        · refine lv_tableIn (tgt := 255) (off := 223) hx hb dL_law_32 (by decide +kernel) (by decide +kernel) (by decide +kernel) (by decide) ?_
          exact law_3 F hX hbl hl hI hP hD hS (by omega) hsl i1 i2 i3 nxt
        · refine lv_tableIn (tgt := 268) (off := 236) hx hb dL_law_32 (by decide +kernel) (by decide +kernel) (by decide +kernel) (by decide) ?_
          exact law_4 F hX hbl hl hI hP hD hS (by omega) hsl i1 i2 i3 nxt
        · refine lv_tableIn (tgt := 301) (off := 269) hx hb dL_law_32 (by decide +kernel) (by decide +kernel) (by decide +kernel) (by decide) ?_
          exact law_5 F hX hbl hl hI hP hD hS (by omega) hsl i1 i2 i3 nxt
        · refine lv_tableIn (tgt := 324) (off := 292) hx hb dL_law_32 (by decide +kernel) (by decide +kernel) (by decide +kernel) (by decide) ?_
          exact law_6 F hX hbl hl hI hP hD hS (by omega) hsl i1 i2 i3 nxt
        · refine lv_tableIn (tgt := 347) (off := 315) hx hb dL_law_32 (by decide +kernel) (by decide +kernel) (by decide +kernel) (by decide) ?_
          exact law_7 F hX hbl hl hI hP hD hS (by omega) hsl i1 i2 i3 nxt
        · refine lv_tableIn (tgt := 400) (off := 368) hx hb dL_law_32 (by decide +kernel) (by decide +kernel) (by decide +kernel) (by decide) ?_
          exact law_8 F hX hbl hl hI hP hD hS (by omega) hsl i1 i2 i3 nxt
        · refine lv_tableIn (tgt := 413) (off := 381) hx hb dL_law_32 (by decide +kernel) (by decide +kernel) (by decide +kernel) (by decide) ?_
          exact law_9 F hX hbl hl hI hP hD hS (by omega) hsl i1 i2 i3 nxt
        · refine lv_tableIn (tgt := 426) (off := 394) hx hb dL_law_32 (by decide +kernel) (by decide +kernel) (by decide +kernel) (by decide) ?_
          exact law_10 F hX hbl hl hI hP hD hS (by omega) hsl i1 i2 i3 nxt
        · refine lv_tableIn (tgt := 439) (off := 407) hx hb dL_law_32 (by decide +kernel) (by decide +kernel) (by decide +kernel) (by decide) ?_
          exact law_11 F hX hbl hl hI hP hD hS (by omega) hsl i1 i2 i3 nxt
        · refine lv_tableIn (tgt := 472) (off := 440) hx hb dL_law_32 (by decide +kernel) (by decide +kernel) (by decide +kernel) (by decide) ?_
          exact law_12 F hX hbl hl hI hP hD hS (by omega) hsl i1 i2 i3 nxt
        · refine lv_tableIn (tgt := 505) (off := 473) hx hb dL_law_32 (by decide +kernel) (by decide +kernel) (by decide +kernel) (by decide) ?_
          exact law_13 F hX hbl hl hI hP hD hS (by omega) hsl i1 i2 i3 nxt
        · refine lv_tableIn (tgt := 518) (off := 486) hx hb dL_law_32 (by decide +kernel) (by decide +kernel) (by decide +kernel) (by decide) ?_
          exact law_14 F hX hbl hl hI hP hD hS (by omega) hsl i1 i2 i3 nxt
        · refine lv_tableIn (tgt := 551) (off := 519) hx hb dL_law_32 (by decide +kernel) (by decide +kernel) (by decide +kernel) (by decide) ?_
          exact law_15 F hX hbl hl hI hP hD hS (by omega) hsl i1 i2 i3 nxt
        · refine lv_tableIn (tgt := 574) (off := 542) hx hb dL_law_32 (by decide +kernel) (by decide +kernel) (by decide +kernel) (by decide) ?_
          exact law_16 F hX hbl hl hI hP hD hS (by omega) hsl i1 i2 i3 nxt
        · refine lv_tableIn (tgt := 617) (off := 585) hx hb dL_law_32 (by decide +kernel) (by decide +kernel) (by decide +kernel) (by decide) ?_
          exact law_17 F hX hbl hl hI hP hD hS (by omega) hsl i1 i2 i3 nxt
        · refine lv_tableIn (tgt := 640) (off := 608) hx hb dL_law_32 (by decide +kernel) (by decide +kernel) (by decide +kernel) (by decide) ?_
          exact law_18 F hX hbl hl hI hP hD hS (by omega) hsl i1 i2 i3 nxt
        · refine lv_tableIn (tgt := 663) (off := 631) hx hb dL_law_32 (by decide +kernel) (by decide +kernel) (by decide +kernel) (by decide) ?_
          exact law_19 F hX hbl hl hI hP hD hS (by omega) hsl i1 i2 i3 nxt
        · refine lv_tableIn (tgt := 686) (off := 654) hx hb dL_law_32 (by decide +kernel) (by decide +kernel) (by decide +kernel) (by decide) ?_
          exact law_20 F hX hbl hl hI hP hD hS (by omega) hsl i1 i2 i3 nxt
        · refine lv_tableIn (tgt := 699) (off := 667) hx hb dL_law_32 (by decide +kernel) (by decide +kernel) (by decide +kernel) (by decide) ?_
          exact law_21 F hX hbl hl hI hP hD hS (by omega) hsl i1 i2 i3 nxt
        · refine lv_tableIn (tgt := 722) (off := 690) hx hb dL_law_32 (by decide +kernel) (by decide +kernel) (by decide +kernel) (by decide) ?_
          exact law_22 F hX hbl hl hI hP hD hS (by omega) hsl i1 i2 i3 nxt
        · refine lv_tableIn (tgt := 745) (off := 713) hx hb dL_law_32 (by decide +kernel) (by decide +kernel) (by decide +kernel) (by decide) ?_
          exact law_23 F hX hbl hl hI hP hD hS (by omega) hsl i1 i2 i3 nxt
        · refine lv_tableIn (tgt := 758) (off := 726) hx hb dL_law_32 (by decide +kernel) (by decide +kernel) (by decide +kernel) (by decide) ?_
          exact law_24 F hX hbl hl hI hP hD hS (by omega) hsl i1 i2 i3 nxt
        · refine lv_tableIn (tgt := 771) (off := 739) hx hb dL_law_32 (by decide +kernel) (by decide +kernel) (by decide +kernel) (by decide) ?_
          exact law_25 F hX hbl hl hI hP hD hS (by omega) hsl i1 i2 i3 nxt
        · refine lv_tableIn (tgt := 794) (off := 762) hx hb dL_law_32 (by decide +kernel) (by decide +kernel) (by decide +kernel) (by decide) ?_
          exact law_26 F hX hbl hl hI hP hD hS (by omega) hsl i1 i2 i3 nxt
      · refine lv_tableOut (tgt := 808) hx hb dL_law_32 (Or.inr (by rw [nI_toInt (by omega)]; omega)) (by decide) ?_
        obtain ⟨nf, K, kg, mm, Ln, np, pg, nj, Js, pn, Pe, hn, U, tr, kk, km, kp, kh, rd, hC, hM, hF, hlen, hrd, hkP⟩ := hI
        exact nxt ad ws _ _ _ ⟨nf, K, kg, mm, Ln, np, pg, nj, Js, pn, Pe, hn, U, tr, kk, km, kp, kh, rd, hC, hM, hF, hlen, by omega, hkP⟩ rfl rfl hP hD hS (by omega)
