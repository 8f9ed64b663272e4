/-! the law: feature, letters, truth, digest -/
theorem LCEQ {x z : Int64} (h : x = z) : lg_cmp x z = 0 := by rw [h]; simp [lg_cmp]
set_option maxHeartbeats 1000000 in
theorem law_0 {p : Program} {l : Launch} {e : Env} {s : State} {m : MethodId} {b L : Nat} {xs : Nat → Int32} {below : List Frame} {meth : Method} {c : Code} {Q : State → Prop} {G : GX} {ad : Nat → Nat} {ws : List CE} {H : Heap} {locs : List Loc} {ls : Array Slot} {cells slots n9 : Nat} {x3 : Int32} (F : LF p s m b c G (fun q : Nat => s.heap.size ≤ q)) (hX : va_X b L xs s s.heap) (hbl : b < s.heap.size) (hl : lv_has ls 4 [(0, .ref b), (1, .ref (ad 0)), (2, .ref (ad 29)), (3, .int x3)]) (hI : LI G ad ws (n9 + 1)) (hP : va_P G.1 vwCl (cw G ad ws) H) (hD : va_D (fun q : Nat => s.heap.size ≤ q) (cw G ad ws)) (hS : va_S (fun q : Nat => s.heap.size ≤ q) s.heap H locs) (hcl : cells + 1 ≤ 2000) (hsl : slots ≤ 60000) (i1 : vp_in (x3 + nI 1) L) (i2 : vp_in (x3 + nI 2) L) (i3 : vp_in (x3 + nI 3) L) (nxt : ∀ (ad2 : Nat → Nat) (w2 : List CE) (H1 : Heap) (locs1 : List Loc) (cells2 : Nat), LI G ad2 w2 n9 → ad2 0 = ad 0 → ad2 29 = ad 29 → va_P G.1 vwCl (cw G ad2 w2) H1 → va_D (fun q : Nat => s.heap.size ≤ q) (cw G ad2 w2) → va_S (fun q : Nat => s.heap.size ≤ q) s.heap H1 locs1 → cells2 ≤ cells + 1 → W p l e room_1 s m #[Value.ref b] below meth c H1 locs1 cells2 slots Q (F0 m 808 ls [])) : W p l e room_1 s m #[Value.ref b] below meth c H locs cells slots Q (F0 m 156 ls []) := by
  have hx := F.1.1
  have hb := F.1.2.1
  have hbA : ¬ (fun q : Nat => s.heap.size ≤ q) b := Nat.not_le.mpr hbl
  obtain ⟨n, K, kg, mm, Ln, np, pg, nj, Js, pn, Pe, hn, U, tr, kk, km, kp, kh, rd, hC, hM, hF, hlen, hrd, hkP⟩ := hI
  have hK := hC.2.2.2.2.2.2.2.2.2.2.2
  have o1 := hK.1
  have hCo := hC.1
  have hh6 := hM.2.2.1.2.2.2
  refine lv_aload_n hx hb dL_law_156 rfl (lv_at hl 1 rfl) ?_
  refine lv_aload_n hx hb dL_law_157 rfl (lv_at hl 0 rfl) ?_
  refine lv_iload_n hx hb dL_law_158 rfl (lv_at hl 3 rfl) ?_
  refine lv_iconst (v := nI 1) hx hb dL_law_159 (by decide +kernel) ?_
  refine lv_iadd hx hb dL_law_160 ?_
  refine va_sld hx hb hX hbl hbA hS i1 dL_law_161 ?_
  refine lv_aload_n hx hb dL_law_162 rfl (lv_at hl 0 rfl) ?_
  refine lv_iload_n hx hb dL_law_163 rfl (lv_at hl 3 rfl) ?_
  refine lv_iconst (v := nI 2) hx hb dL_law_164 (by decide +kernel) ?_
  refine lv_iadd hx hb dL_law_165 ?_
  refine va_sld hx hb hX hbl hbA hS i2 dL_law_166 ?_
  refine L_gV (as := [.int (xs (x3 + nI 1).toNatClampNeg), .int (xs (x3 + nI 2).toNatClampNeg)]) (rest := []) (k := 0) F dL_law_167 kL_13 (p_feature l G ad ws n K kg mm Ln np pg nj Js pn Pe hn U tr kk km kp kh rd hC hkP (RC_ok hC hM hF (by omega)) (by omega) (by rw [hlen, kP]; omega) (xs (x3 + nI 1).toNatClampNeg) (xs (x3 + nI 2).toNatClampNeg)) hCo rfl rfl (Nat.le_of_ble_eq_true rfl) ⟨⟨(Nat.le_of_ble_eq_true rfl), (Nat.le_of_ble_eq_true rfl)⟩, show cells + 1 ≤ 600000 by omega, show slots + 0 ≤ 7302250 by omega⟩ hl.1 hP hD hS (fun ad1 v1 wa H1 locs1 hp hP1 hD1 hS1 => ?_)
  obtain ⟨ag, hk1, e2, hq1⟩ := hp
  obtain rfl := e2
  have e0 := ag 0 (by omega)
  have e29 := ag 29 (by omega)
  rw [← e0, ← e29] at hl
  have hkP1 := hk1.trans hkP
  have hS := hS1
  by_cases hcd : okF n mm (xs (x3 + nI 1).toNatClampNeg) (xs (x3 + nI 2).toNatClampNeg) = true
  · rw [if_pos hcd] at hq1
    obtain ⟨hCa, hf1⟩ := hq1
    have hMa := (RM.app hM).near hf1 (by decide)
    have hFa := (FX_app hF).fr hf1 (by decide)
    have hla : wa.length = 47 + (n + 1) := by rw [hf1.1, List.length_append, hlen]; rfl
    obtain ⟨⟨rm1, sa1, sd1, hs1, hMo1⟩, -⟩ := id hMa
    refine lv_aload_n hx hb dL_law_170 rfl (lv_at hl 2 rfl) ?_
    refine lv_aload_n hx hb dL_law_171 rfl (lv_at hl 0 rfl) ?_
    refine lv_iload_n hx hb dL_law_172 rfl (lv_at hl 3 rfl) ?_
    refine lv_iconst (v := nI 1) hx hb dL_law_173 (by decide +kernel) ?_
    refine lv_iadd hx hb dL_law_174 ?_
    refine va_sld hx hb hX hbl hbA hS i1 dL_law_175 ?_
    refine lv_aload_n hx hb dL_law_176 rfl (lv_at hl 0 rfl) ?_
    refine lv_iload_n hx hb dL_law_177 rfl (lv_at hl 3 rfl) ?_
    refine lv_iconst (v := nI 2) hx hb dL_law_178 (by decide +kernel) ?_
    refine lv_iadd hx hb dL_law_179 ?_
    refine va_sld hx hb hX hbl hbA hS i2 dL_law_180 ?_
    refine L_gV (as := [.int (xs (x3 + nI 1).toNatClampNeg), .int (xs (x3 + nI 2).toNatClampNeg)]) (rest := [.int _]) (k := 29) F dL_law_181 kL_17 (q_feature l G ad1 wa n K kg mm Ln np pg nj Js pn Pe hn U tr kk km kp kh rd hMa hK (xs (x3 + nI 1).toNatClampNeg) (xs (x3 + nI 2).toNatClampNeg)) hMo1 rfl rfl (Nat.le_of_ble_eq_true rfl) ⟨⟨(Nat.le_of_ble_eq_true rfl), (Nat.le_of_ble_eq_true rfl)⟩, show cells + 1 + 0 ≤ 600000 by omega, show slots + 0 + 0 ≤ 7302250 by omega⟩ hl.1 hP1 hD1 hS1 (fun ad2 v2 wb H2 locs2 hp hP2 hD2 hS2 => ?_)
    obtain ⟨e1, r2, e2, hr2, hMb, hf2⟩ := hp
    obtain rfl := e1.symm
    obtain rfl := e2
    rw [if_pos hcd] at hMb
    have hCb := RC.far hCa hf2 (by decide)
    have hFb := hFa.fr hf2 (by decide)
    have hlb := hf2.1.trans hla
    refine lv_icmp_eq (tgt := 808) hx hb dL_law_184 (by decide) (fun _ => ?_) (fun hne => absurd hr2.symm hne)
    exact nxt ad1 wb _ _ _ ⟨(n + 1), (updN K n (valI (xs (x3 + nI 1).toNatClampNeg))), (withP kg n (valI (xs (x3 + nI 2).toNatClampNeg))), mm, Ln, np, pg, nj, Js, pn, Pe, hn, U, tr, kk, km, kp, kh, rd, hCb, hMb, hFb, hlb, by omega, hkP1⟩ e0 e29 hP2 hD2 hS2 (by omega)
  · rw [if_neg hcd] at hq1
    obtain rfl := hq1.symm
    have hCa := hC
    have hMa := hM
    have hFa := hF
    have hla := hlen
    obtain ⟨⟨rm1, sa1, sd1, hs1, hMo1⟩, -⟩ := id hMa
    refine lv_aload_n hx hb dL_law_170 rfl (lv_at hl 2 rfl) ?_
    refine lv_aload_n hx hb dL_law_171 rfl (lv_at hl 0 rfl) ?_
    refine lv_iload_n hx hb dL_law_172 rfl (lv_at hl 3 rfl) ?_
    refine lv_iconst (v := nI 1) hx hb dL_law_173 (by decide +kernel) ?_
    refine lv_iadd hx hb dL_law_174 ?_
    refine va_sld hx hb hX hbl hbA hS i1 dL_law_175 ?_
    refine lv_aload_n hx hb dL_law_176 rfl (lv_at hl 0 rfl) ?_
    refine lv_iload_n hx hb dL_law_177 rfl (lv_at hl 3 rfl) ?_
    refine lv_iconst (v := nI 2) hx hb dL_law_178 (by decide +kernel) ?_
    refine lv_iadd hx hb dL_law_179 ?_
    refine va_sld hx hb hX hbl hbA hS i2 dL_law_180 ?_
    refine L_gV (as := [.int (xs (x3 + nI 1).toNatClampNeg), .int (xs (x3 + nI 2).toNatClampNeg)]) (rest := [.int _]) (k := 29) F dL_law_181 kL_17 (q_feature l G ad1 ws n K kg mm Ln np pg nj Js pn Pe hn U tr kk km kp kh rd hMa hK (xs (x3 + nI 1).toNatClampNeg) (xs (x3 + nI 2).toNatClampNeg)) hMo1 rfl rfl (Nat.le_of_ble_eq_true rfl) ⟨⟨(Nat.le_of_ble_eq_true rfl), (Nat.le_of_ble_eq_true rfl)⟩, show cells + 1 + 0 ≤ 600000 by omega, show slots + 0 + 0 ≤ 7302250 by omega⟩ hl.1 hP1 hD1 hS1 (fun ad2 v2 wb H2 locs2 hp hP2 hD2 hS2 => ?_)
    obtain ⟨e1, r2, e2, hr2, hMb, hf2⟩ := hp
    obtain rfl := e1.symm
    obtain rfl := e2
    rw [if_neg hcd] at hMb
    have hCb := RC.far hCa hf2 (by decide)
    have hFb := hFa.fr hf2 (by decide)
    have hlb := hf2.1.trans hla
    refine lv_icmp_eq (tgt := 808) hx hb dL_law_184 (by decide) (fun _ => ?_) (fun hne => absurd hr2.symm hne)
    exact nxt ad1 wb _ _ _ ⟨n, K, kg, mm, Ln, np, pg, nj, Js, pn, Pe, hn, U, tr, kk, km, kp, kh, rd, hCb, hMb, hFb, hlb, by omega, hkP1⟩ e0 e29 hP2 hD2 hS2 (by omega)
set_option maxHeartbeats 1000000 in
theorem law_7 {p : Program} {l : Launch} {e : Env} {s : State} {m : MethodId} {b L : Nat} {xs : Nat → Int32} {below : List Frame} {meth : Method} {c : Code} {Q : State → Prop} {G : GX} {ad : Nat → Nat} {ws : List CE} {H : Heap} {locs : List Loc} {ls : Array Slot} {cells slots n9 : Nat} {x3 : Int32} (F : LF p s m b c G (fun q : Nat => s.heap.size ≤ q)) (hX : va_X b L xs s s.heap) (hbl : b < s.heap.size) (hl : lv_has ls 4 [(0, .ref b), (1, .ref (ad 0)), (2, .ref (ad 29)), (3, .int x3)]) (hI : LI G ad ws (n9 + 1)) (hP : va_P G.1 vwCl (cw G ad ws) H) (hD : va_D (fun q : Nat => s.heap.size ≤ q) (cw G ad ws)) (hS : va_S (fun q : Nat => s.heap.size ≤ q) s.heap H locs) (hcl : cells + 1 ≤ 2000) (hsl : slots ≤ 60000) (i1 : vp_in (x3 + nI 1) L) (i2 : vp_in (x3 + nI 2) L) (i3 : vp_in (x3 + nI 3) L) (nxt : ∀ (ad2 : Nat → Nat) (w2 : List CE) (H1 : Heap) (locs1 : List Loc) (cells2 : Nat), LI G ad2 w2 n9 → ad2 0 = ad 0 → ad2 29 = ad 29 → va_P G.1 vwCl (cw G ad2 w2) H1 → va_D (fun q : Nat => s.heap.size ≤ q) (cw G ad2 w2) → va_S (fun q : Nat => s.heap.size ≤ q) s.heap H1 locs1 → cells2 ≤ cells + 1 → W p l e room_1 s m #[Value.ref b] below meth c H1 locs1 cells2 slots Q (F0 m 808 ls [])) : W p l e room_1 s m #[Value.ref b] below meth c H locs cells slots Q (F0 m 347 ls []) := by
  have hx := F.1.1
  have hb := F.1.2.1
  have hbA : ¬ (fun q : Nat => s.heap.size ≤ q) b := Nat.not_le.mpr hbl
  obtain ⟨n, K, kg, mm, Ln, np, pg, nj, Js, pn, Pe, hn, U, tr, kk, km, kp, kh, rd, hC, hM, hF, hlen, hrd, hkP⟩ := hI
  have hK := hC.2.2.2.2.2.2.2.2.2.2.2
  have o1 := hK.1
  have hCo := hC.1
  have hh6 := hM.2.2.1.2.2.2
  refine lv_aload_n hx hb dL_law_347 rfl (lv_at hl 1 rfl) ?_
  refine lv_aload_n hx hb dL_law_348 rfl (lv_at hl 0 rfl) ?_
  refine lv_iload_n hx hb dL_law_349 rfl (lv_at hl 3 rfl) ?_
  refine lv_iconst (v := nI 1) hx hb dL_law_350 (by decide +kernel) ?_
  refine lv_iadd hx hb dL_law_351 ?_
  refine va_sld hx hb hX hbl hbA hS i1 dL_law_352 ?_
  refine lv_i2l hx hb dL_law_353 rfl ?_
  refine lv_bipush (v := nI 32) hx hb dL_law_354 (by decide +kernel) ?_
  refine lv_lshl hx hb dL_law_356 rfl ?_
  refine lv_aload_n hx hb dL_law_357 rfl (lv_at hl 0 rfl) ?_
  refine lv_iload_n hx hb dL_law_358 rfl (lv_at hl 3 rfl) ?_
  refine lv_iconst (v := nI 2) hx hb dL_law_359 (by decide +kernel) ?_
  refine lv_iadd hx hb dL_law_360 ?_
  refine va_sld hx hb hX hbl hbA hS i2 dL_law_361 ?_
  refine lv_i2l hx hb dL_law_362 rfl ?_
  refine lv_ldc2 hx hb F.1.2.2.2.1 (F.1.2.2.2.2 _ w_1161) dL_law_363 ?_
  refine lv_land hx hb dL_law_366 ?_
  refine lv_lor hx hb dL_law_367 ?_
  refine lv_topl (fun t1 et1 => ?_)
  obtain ⟨W9, hW9, eW⟩ := wb_of t1
  subst eW
  refine L_gV (as := [.long (lN W9)]) (rest := []) (k := 0) F dL_law_368 kL_46 (p_letters l G ad ws n K kg mm Ln np pg nj Js pn Pe hn U tr kk km kp kh rd hC hkP W9 hW9) hCo rfl rfl (Nat.le_of_ble_eq_true rfl) ⟨⟨(Nat.le_of_ble_eq_true rfl), (Nat.le_of_ble_eq_true rfl)⟩, show cells + 0 ≤ 600000 by omega, show slots + 0 ≤ 7302250 by omega⟩ hl.1 hP hD hS (fun ad1 v1 wa H1 locs1 hp hP1 hD1 hS1 => ?_)
  obtain ⟨e1, r1, e2, hr1, ⟨k9, hCa, hk9⟩, hf1⟩ := hp
  obtain rfl := e1.symm
  obtain rfl := e2
  have hk8 : k9 = addK np W9 := hk9.trans (by unfold addK; cases letTo (letN W9) 8 <;> rfl)
  rw [hk8] at hCa
  have hMa := hM.near hf1 (by decide)
  have hFa := hF.fr hf1 (by decide)
  have hla : wa.length = 47 + n := hf1.1.trans hlen
  obtain ⟨⟨rm1, sa1, sd1, hs1, hMo1⟩, -⟩ := id hMa
  have hS := hS1
  refine lv_aload_n hx hb dL_law_371 rfl (lv_at hl 2 rfl) ?_
  refine lv_aload_n hx hb dL_law_372 rfl (lv_at hl 0 rfl) ?_
  refine lv_iload_n hx hb dL_law_373 rfl (lv_at hl 3 rfl) ?_
  refine lv_iconst (v := nI 1) hx hb dL_law_374 (by decide +kernel) ?_
  refine lv_iadd hx hb dL_law_375 ?_
  refine va_sld hx hb hX hbl hbA hS i1 dL_law_376 ?_
  refine lv_i2l hx hb dL_law_377 rfl ?_
  refine lv_bipush (v := nI 32) hx hb dL_law_378 (by decide +kernel) ?_
  refine lv_lshl hx hb dL_law_380 rfl ?_
  refine lv_aload_n hx hb dL_law_381 rfl (lv_at hl 0 rfl) ?_
  refine lv_iload_n hx hb dL_law_382 rfl (lv_at hl 3 rfl) ?_
  refine lv_iconst (v := nI 2) hx hb dL_law_383 (by decide +kernel) ?_
  refine lv_iadd hx hb dL_law_384 ?_
  refine va_sld hx hb hX hbl hbA hS i2 dL_law_385 ?_
  refine lv_i2l hx hb dL_law_386 rfl ?_
  refine lv_ldc2 hx hb F.1.2.2.2.1 (F.1.2.2.2.2 _ w_1161) dL_law_387 ?_
  refine lv_land hx hb dL_law_390 ?_
  refine lv_lor hx hb dL_law_391 ?_
  refine lv_topl (fun t2 et2 => ?_)
  obtain rfl : t2 = lN W9 := et2.trans et1.symm
  refine L_gV (as := [.long (lN W9)]) (rest := [.int r1]) (k := 29) F dL_law_392 kL_50 (q_letters l G ad wa n K kg mm Ln np pg nj Js pn Pe hn U tr kk km kp kh rd hMa hK W9 hW9) hMo1 rfl rfl (Nat.le_of_ble_eq_true rfl) ⟨⟨(Nat.le_of_ble_eq_true rfl), (Nat.le_of_ble_eq_true rfl)⟩, show cells + 0 ≤ 600000 by omega, show slots + 0 ≤ 7302250 by omega⟩ hl.1 hP1 hD1 hS1 (fun ad2 v2 wb H2 locs2 hp hP2 hD2 hS2 => ?_)
  obtain ⟨e1, r2, e2, hr2, hMb, hf2⟩ := hp
  obtain rfl := e1.symm
  obtain rfl := e2
  refine lv_icmp_eq (tgt := 808) hx hb dL_law_395 (by decide) (fun _ => ?_) (fun hne => absurd (hr1.trans hr2.symm) hne)
  exact nxt ad wb _ _ _ ⟨n, K, kg, mm, Ln, (np + addK np W9), (addL pg np W9 (addK np W9)), nj, Js, pn, Pe, hn, U, tr, kk, km, kp, kh, rd, RC.far hCa hf2 (by decide), hMb, hFa.fr hf2 (by decide), hf2.1.trans hla, by omega, hkP⟩ rfl rfl hP2 hD2 hS2 (by omega)
set_option maxHeartbeats 1000000 in
theorem law_15 {p : Program} {l : Launch} {e : Env} {s : State} {m : MethodId} {b L : Nat} {xs : Nat → Int32} {below : List Frame} {meth : Method} {c : Code} {Q : State → Prop} {G : GX} {ad : Nat → Nat} {ws : List CE} {H : Heap} {locs : List Loc} {ls : Array Slot} {cells slots n9 : Nat} {x3 : Int32} (F : LF p s m b c G (fun q : Nat => s.heap.size ≤ q)) (hX : va_X b L xs s s.heap) (hbl : b < s.heap.size) (hl : lv_has ls 4 [(0, .ref b), (1, .ref (ad 0)), (2, .ref (ad 29)), (3, .int x3)]) (hI : LI G ad ws (n9 + 1)) (hP : va_P G.1 vwCl (cw G ad ws) H) (hD : va_D (fun q : Nat => s.heap.size ≤ q) (cw G ad ws)) (hS : va_S (fun q : Nat => s.heap.size ≤ q) s.heap H locs) (hcl : cells + 1 ≤ 2000) (hsl : slots ≤ 60000) (i1 : vp_in (x3 + nI 1) L) (i2 : vp_in (x3 + nI 2) L) (i3 : vp_in (x3 + nI 3) L) (nxt : ∀ (ad2 : Nat → Nat) (w2 : List CE) (H1 : Heap) (locs1 : List Loc) (cells2 : Nat), LI G ad2 w2 n9 → ad2 0 = ad 0 → ad2 29 = ad 29 → va_P G.1 vwCl (cw G ad2 w2) H1 → va_D (fun q : Nat => s.heap.size ≤ q) (cw G ad2 w2) → va_S (fun q : Nat => s.heap.size ≤ q) s.heap H1 locs1 → cells2 ≤ cells + 1 → W p l e room_1 s m #[Value.ref b] below meth c H1 locs1 cells2 slots Q (F0 m 808 ls [])) : W p l e room_1 s m #[Value.ref b] below meth c H locs cells slots Q (F0 m 551 ls []) := by
  have hx := F.1.1
  have hb := F.1.2.1
  have hbA : ¬ (fun q : Nat => s.heap.size ≤ q) b := Nat.not_le.mpr hbl
  obtain ⟨n, K, kg, mm, Ln, np, pg, nj, Js, pn, Pe, hn, U, tr, kk, km, kp, kh, rd, hC, hM, hF, hlen, hrd, hkP⟩ := hI
  have hK := hC.2.2.2.2.2.2.2.2.2.2.2
  have o1 := hK.1
  have hCo := hC.1
  have hh6 := hM.2.2.1.2.2.2
  refine lv_aload_n hx hb dL_law_551 rfl (lv_at hl 1 rfl) ?_
  refine lv_aload_n hx hb dL_law_552 rfl (lv_at hl 0 rfl) ?_
  refine lv_iload_n hx hb dL_law_553 rfl (lv_at hl 3 rfl) ?_
  refine lv_iconst (v := nI 1) hx hb dL_law_554 (by decide +kernel) ?_
  refine lv_iadd hx hb dL_law_555 ?_
  refine va_sld hx hb hX hbl hbA hS i1 dL_law_556 ?_
  refine L_gV (as := [.int (xs (x3 + nI 1).toNatClampNeg)]) (rest := []) (k := 0) F dL_law_557 kL_79 (p_truth l G ad ws n K kg mm Ln np pg nj Js pn Pe hn U tr kk km kp kh rd hC hkP (by omega) (xs (x3 + nI 1).toNatClampNeg)) hCo rfl rfl (Nat.le_of_ble_eq_true rfl) ⟨⟨(Nat.le_of_ble_eq_true rfl), (Nat.le_of_ble_eq_true rfl)⟩, show cells + 0 ≤ 600000 by omega, show slots + 0 ≤ 7302250 by omega⟩ hl.1 hP hD hS (fun ad1 v1 wa H1 locs1 hp hP1 hD1 hS1 => ?_)
  obtain ⟨e1, r1, e2, hr1, hCy, hCn, hf1⟩ := hp
  obtain rfl := e1.symm
  obtain rfl := e2
  have hMa := hM.near hf1 (by decide)
  have hFa := hF.fr hf1 (by decide)
  have hla : wa.length = 47 + n := hf1.1.trans hlen
  obtain ⟨⟨rm1, sa1, sd1, hs1, hMo1⟩, -⟩ := id hMa
  have hS := hS1
  refine lv_aload_n hx hb dL_law_560 rfl (lv_at hl 2 rfl) ?_
  refine lv_aload_n hx hb dL_law_561 rfl (lv_at hl 0 rfl) ?_
  refine lv_iload_n hx hb dL_law_562 rfl (lv_at hl 3 rfl) ?_
  refine lv_iconst (v := nI 1) hx hb dL_law_563 (by decide +kernel) ?_
  refine lv_iadd hx hb dL_law_564 ?_
  refine va_sld hx hb hX hbl hbA hS i1 dL_law_565 ?_
  refine L_gV (as := [.int (xs (x3 + nI 1).toNatClampNeg)]) (rest := [.int r1]) (k := 29) F dL_law_566 kL_82 (q_truth l G ad wa n K kg mm Ln np pg nj Js pn Pe hn U tr kk km kp kh rd hMa hK (xs (x3 + nI 1).toNatClampNeg)) hMo1 rfl rfl (Nat.le_of_ble_eq_true rfl) ⟨⟨(Nat.le_of_ble_eq_true rfl), (Nat.le_of_ble_eq_true rfl)⟩, show cells + 0 ≤ 600000 by omega, show slots + 0 ≤ 7302250 by omega⟩ hl.1 hP1 hD1 hS1 (fun ad2 v2 wb H2 locs2 hp hP2 hD2 hS2 => ?_)
  obtain ⟨e1, r2, e2, hr2, hMy, hMn, hf2⟩ := hp
  obtain rfl := e1.symm
  obtain rfl := e2
  refine lv_icmp_eq (tgt := 808) hx hb dL_law_569 (by decide) (fun _ => ?_) (fun hne => absurd (by rw [hr1, hr2, truth_one o1]) hne)
  by_cases hcd : okTruth mm tr (xs (x3 + nI 1).toNatClampNeg)
  · exact nxt ad wb _ _ _ ⟨n, K, kg, mm, Ln, np, pg, nj, Js, pn, Pe, hn, U, (tr + 1), kk, km, kp, kh, (rd + 20), RC.far (hCy hcd) hf2 (by decide), hMy hcd, hFa.fr hf2 (by decide), hf2.1.trans hla, by omega, hkP⟩ rfl rfl hP2 hD2 hS2 (by omega)
  · exact nxt ad wb _ _ _ ⟨n, K, kg, mm, Ln, np, pg, nj, Js, pn, Pe, hn, U, tr, kk, km, kp, kh, (rd + 20), RC.far (hCn hcd) hf2 (by decide), hMn hcd, hFa.fr hf2 (by decide), hf2.1.trans hla, by omega, hkP⟩ rfl rfl hP2 hD2 hS2 (by omega)
set_option maxHeartbeats 1000000 in
theorem law_26 {p : Program} {l : Launch} {e : Env} {s : State} {m : MethodId} {b L : Nat} {xs : Nat → Int32} {below : List Frame} {meth : Method} {c : Code} {Q : State → Prop} {G : GX} {ad : Nat → Nat} {ws : List CE} {H : Heap} {locs : List Loc} {ls : Array Slot} {cells slots n9 : Nat} {x3 : Int32} (F : LF p s m b c G (fun q : Nat => s.heap.size ≤ q)) (hX : va_X b L xs s s.heap) (hbl : b < s.heap.size) (hl : lv_has ls 4 [(0, .ref b), (1, .ref (ad 0)), (2, .ref (ad 29)), (3, .int x3)]) (hI : LI G ad ws (n9 + 1)) (hP : va_P G.1 vwCl (cw G ad ws) H) (hD : va_D (fun q : Nat => s.heap.size ≤ q) (cw G ad ws)) (hS : va_S (fun q : Nat => s.heap.size ≤ q) s.heap H locs) (hcl : cells + 1 ≤ 2000) (hsl : slots ≤ 60000) (i1 : vp_in (x3 + nI 1) L) (i2 : vp_in (x3 + nI 2) L) (i3 : vp_in (x3 + nI 3) L) (nxt : ∀ (ad2 : Nat → Nat) (w2 : List CE) (H1 : Heap) (locs1 : List Loc) (cells2 : Nat), LI G ad2 w2 n9 → ad2 0 = ad 0 → ad2 29 = ad 29 → va_P G.1 vwCl (cw G ad2 w2) H1 → va_D (fun q : Nat => s.heap.size ≤ q) (cw G ad2 w2) → va_S (fun q : Nat => s.heap.size ≤ q) s.heap H1 locs1 → cells2 ≤ cells + 1 → W p l e room_1 s m #[Value.ref b] below meth c H1 locs1 cells2 slots Q (F0 m 808 ls [])) : W p l e room_1 s m #[Value.ref b] below meth c H locs cells slots Q (F0 m 794 ls []) := by
  have hx := F.1.1
  have hb := F.1.2.1
  have hbA : ¬ (fun q : Nat => s.heap.size ≤ q) b := Nat.not_le.mpr hbl
  obtain ⟨n, K, kg, mm, Ln, np, pg, nj, Js, pn, Pe, hn, U, tr, kk, km, kp, kh, rd, hC, hM, hF, hlen, hrd, hkP⟩ := hI
  have hK := hC.2.2.2.2.2.2.2.2.2.2.2
  have o1 := hK.1
  have hCo := hC.1
  have hh6 := hM.2.2.1.2.2.2
  refine lv_aload_n hx hb dL_law_794 rfl (lv_at hl 1 rfl) ?_
  refine L_gV (as := []) (rest := []) (k := 0) F dL_law_795 kL_124 (p_digest l G ad ws n K kg mm Ln np pg nj Js pn Pe hn U tr kk km kp kh rd hC hkP (by omega) (fun _ j _ => pass_lt o1 _ _ _ _) (order_one o1 K hh6 U).2.2) hCo rfl rfl (Nat.le_of_ble_eq_true rfl) ⟨⟨(Nat.le_of_ble_eq_true rfl), (Nat.le_of_ble_eq_true rfl)⟩, show cells + 0 ≤ 600000 by omega, show slots + 0 ≤ 7302250 by omega⟩ hl.1 hP hD hS (fun ad1 v1 wa H1 locs1 hp hP1 hD1 hS1 => ?_)
  obtain ⟨e1, r1, e2, hr1, hCa, hf1⟩ := hp
  obtain rfl := e1.symm
  obtain rfl := e2
  have hMa := hM.near hf1 (by decide)
  have hFa := hF.fr hf1 (by decide)
  have hla : wa.length = 47 + n := hf1.1.trans hlen
  obtain ⟨⟨rm1, sa1, sd1, hs1, hMo1⟩, -⟩ := id hMa
  have hS := hS1
  refine lv_aload_n hx hb dL_law_798 rfl (lv_at hl 2 rfl) ?_
  refine L_gV (as := []) (rest := [.long r1]) (k := 29) F dL_law_799 kL_128 (q_digest l G ad wa n K kg mm Ln np pg nj Js pn Pe hn U tr kk km kp kh rd hMa hK) hMo1 rfl rfl (Nat.le_of_ble_eq_true rfl) ⟨⟨(Nat.le_of_ble_eq_true rfl), (Nat.le_of_ble_eq_true rfl)⟩, show cells + 0 ≤ 600000 by omega, show slots + 0 ≤ 7302250 by omega⟩ hl.1 hP1 hD1 hS1 (fun ad2 v2 wb H2 locs2 hp hP2 hD2 hS2 => ?_)
  obtain ⟨e1, r2, e2, hr2, hMb, hf2⟩ := hp
  obtain rfl := e1.symm
  obtain rfl := e2
  refine W.lcmp (x := r1) (y := r2) hx hb dL_law_802 ?_
  refine lv_if_eq (tgt := 808) hx hb dL_law_803 (by decide) (fun _ => ?_) (fun hne => absurd (LCEQ (by rw [hr1, hr2, dig_one o1 K kg mm Ln (fun hmm => hK.2.2.1 0 hmm) np pg nj Js pn Pe hh6 U tr])) hne)
  exact nxt ad wb _ _ _ ⟨n, K, kg, mm, Ln, np, pg, nj, Js, pn, Pe, hn, U, tr, kk, km, kp, kh, (rd + 20), RC.far hCa hf2 (by decide), hMb, hFa.fr hf2 (by decide), hf2.1.trans hla, by omega, hkP⟩ rfl rfl hP2 hD2 hS2 (by omega)
