/-! the law: a call of the script each -/
def LI (G : GX) (ad : Nat → Nat) (ws : List CE) (n9 : Nat) : Prop := ∃ (n : Nat) (K : Nat → Nat) (kg mm : Nat) (Ln : Nat → Nat) (np : Nat) (pg : Nat → Nat) (nj : Nat) (Js : Nat → JD) (pn : Nat) (Pe : Nat → Nat) (hn : Nat) (U : Nat → Nat) (tr kk km kp kh rd : Nat), RC ws n K kg mm Ln np pg nj Js pn Pe hn U tr kk km kp kh rd ∧ RM ws n K kg mm Ln np pg nj Js pn Pe hn U tr kk km kp kh rd ∧ FX ws ∧ ws.length = 47 + n ∧ rd + 20 * n9 ≤ 100000 ∧ ad kP = G.2.2.2
set_option maxHeartbeats 1000000 in
theorem law_1 {p : Program} {l : Launch} {e : Env} {s : State} {m : MethodId} {b L : Nat} {xs : Nat → Int32} {below : List Frame} {meth : Method} {c : Code} {Q : State → Prop} {G : GX} {ad : Nat → Nat} {ws : List CE} {H : Heap} {locs : List Loc} {ls : Array Slot} {cells slots n9 : Nat} {x3 : Int32} (F : LF p s m b c G (fun q : Nat => s.heap.size ≤ q)) (hX : va_X b L xs s s.heap) (hbl : b < s.heap.size) (hl : lv_has ls 4 [(0, .ref b), (1, .ref (ad 0)), (2, .ref (ad 29)), (3, .int x3)]) (hI : LI G ad ws (n9 + 1)) (hP : va_P G.1 vwCl (cw G ad ws) H) (hD : va_D (fun q : Nat => s.heap.size ≤ q) (cw G ad ws)) (hS : va_S (fun q : Nat => s.heap.size ≤ q) s.heap H locs) (hcl : cells + 1 ≤ 2000) (hsl : slots ≤ 60000) (i1 : vp_in (x3 + nI 1) L) (i2 : vp_in (x3 + nI 2) L) (i3 : vp_in (x3 + nI 3) L) (nxt : ∀ (ad2 : Nat → Nat) (w2 : List CE) (H1 : Heap) (locs1 : List Loc) (cells2 : Nat), LI G ad2 w2 n9 → ad2 0 = ad 0 → ad2 29 = ad 29 → va_P G.1 vwCl (cw G ad2 w2) H1 → va_D (fun q : Nat => s.heap.size ≤ q) (cw G ad2 w2) → va_S (fun q : Nat => s.heap.size ≤ q) s.heap H1 locs1 → cells2 ≤ cells + 1 → W p l e room_1 s m #[Value.ref b] below meth c H1 locs1 cells2 slots Q (F0 m 808 ls [])) : W p l e room_1 s m #[Value.ref b] below meth c H locs cells slots Q (F0 m 189 ls []) := by
  have hx := F.1.1
  have hb := F.1.2.1
  have hbA : ¬ (fun q : Nat => s.heap.size ≤ q) b := Nat.not_le.mpr hbl
  obtain ⟨n, K, kg, mm, Ln, np, pg, nj, Js, pn, Pe, hn, U, tr, kk, km, kp, kh, rd, hC, hM, hF, hlen, hrd, hkP⟩ := hI
  have hK := hC.2.2.2.2.2.2.2.2.2.2.2
  have o1 := hK.1
  have hCo := hC.1
  have hh6 := hM.2.2.1.2.2.2
  have h10 := hM.2.2.1.2.1
  obtain ⟨⟨rm, sa, sd, hs, hMo⟩, -⟩ := id hM
  refine lv_aload_n hx hb dL_law_189 rfl (lv_at hl 1 rfl) ?_
  refine lv_aload_n hx hb dL_law_190 rfl (lv_at hl 0 rfl) ?_
  refine lv_iload_n hx hb dL_law_191 rfl (lv_at hl 3 rfl) ?_
  refine lv_iconst (v := nI 1) hx hb dL_law_192 (by decide +kernel) ?_
  refine lv_iadd hx hb dL_law_193 ?_
  refine va_sld hx hb hX hbl hbA hS i1 dL_law_194 ?_
  refine lv_aload_n hx hb dL_law_195 rfl (lv_at hl 0 rfl) ?_
  refine lv_iload_n hx hb dL_law_196 rfl (lv_at hl 3 rfl) ?_
  refine lv_iconst (v := nI 2) hx hb dL_law_197 (by decide +kernel) ?_
  refine lv_iadd hx hb dL_law_198 ?_
  refine va_sld hx hb hX hbl hbA hS i2 dL_law_199 ?_
  refine L_gV (as := [.int (xs (x3 + nI 1).toNatClampNeg), .int (xs (x3 + nI 2).toNatClampNeg)]) (rest := []) (k := 0) F dL_law_200 kL_18 (p_about l G ad ws n K kg mm Ln np pg nj Js pn Pe hn U tr kk km kp kh rd hC hkP  (xs (x3 + nI 1).toNatClampNeg) (xs (x3 + nI 2).toNatClampNeg)) hCo rfl rfl (Nat.le_of_ble_eq_true rfl) ⟨⟨(Nat.le_of_ble_eq_true rfl), (Nat.le_of_ble_eq_true rfl)⟩, show cells + 0 ≤ 600000 by omega, show slots + 0 ≤ 7302250 by omega⟩ hl.1 hP hD hS (fun ad1 v1 wa H1 locs1 hp hP1 hD1 hS1 => ?_)
  obtain ⟨e1, r1, e2, hr1, hq1⟩ := hp
  obtain rfl := e1.symm
  obtain rfl := e2
  obtain rfl := hq1.symm
  have hS := hS1
  refine lv_aload_n hx hb dL_law_203 rfl (lv_at hl 2 rfl) ?_
  refine lv_aload_n hx hb dL_law_204 rfl (lv_at hl 0 rfl) ?_
  refine lv_iload_n hx hb dL_law_205 rfl (lv_at hl 3 rfl) ?_
  refine lv_iconst (v := nI 1) hx hb dL_law_206 (by decide +kernel) ?_
  refine lv_iadd hx hb dL_law_207 ?_
  refine va_sld hx hb hX hbl hbA hS i1 dL_law_208 ?_
  refine lv_aload_n hx hb dL_law_209 rfl (lv_at hl 0 rfl) ?_
  refine lv_iload_n hx hb dL_law_210 rfl (lv_at hl 3 rfl) ?_
  refine lv_iconst (v := nI 2) hx hb dL_law_211 (by decide +kernel) ?_
  refine lv_iadd hx hb dL_law_212 ?_
  refine va_sld hx hb hX hbl hbA hS i2 dL_law_213 ?_
  refine L_gV (as := [.int (xs (x3 + nI 1).toNatClampNeg), .int (xs (x3 + nI 2).toNatClampNeg)]) (rest := [.int r1]) (k := 29) F dL_law_214 kL_21 (q_about l G ad ws n K kg mm Ln np pg nj Js pn Pe hn U tr kk km kp kh rd hM hK  (xs (x3 + nI 1).toNatClampNeg) (xs (x3 + nI 2).toNatClampNeg)) hMo rfl rfl (Nat.le_of_ble_eq_true rfl) ⟨⟨(Nat.le_of_ble_eq_true rfl), (Nat.le_of_ble_eq_true rfl)⟩, show cells + 0 ≤ 600000 by omega, show slots + 0 ≤ 7302250 by omega⟩ hl.1 hP1 hD1 hS1 (fun ad2 v2 wb H2 locs2 hp hP2 hD2 hS2 => ?_)
  obtain ⟨e1, r2, e2, hr2, hq2⟩ := hp
  obtain rfl := e1.symm
  obtain rfl := e2
  obtain rfl := hq2.symm
  refine lv_icmp_eq (tgt := 808) hx hb dL_law_217 (by decide) (fun _ => ?_) (fun hne => absurd (hr1.trans hr2.symm) hne)
  · skip
    exact nxt ad ws _ _ _ ⟨n, K, kg, mm, Ln, np, pg, nj, Js, pn, Pe, hn, U, tr, kk, km, kp, kh, rd, hC, hM, hF, hlen, by omega, hkP⟩ rfl rfl hP2 hD2 hS2 (by omega)
set_option maxHeartbeats 1000000 in
theorem law_2 {p : Program} {l : Launch} {e : Env} {s : State} {m : MethodId} {b L : Nat} {xs : Nat → Int32} {below : List Frame} {meth : Method} {c : Code} {Q : State → Prop} {G : GX} {ad : Nat → Nat} {ws : List CE} {H : Heap} {locs : List Loc} {ls : Array Slot} {cells slots n9 : Nat} {x3 : Int32} (F : LF p s m b c G (fun q : Nat => s.heap.size ≤ q)) (hX : va_X b L xs s s.heap) (hbl : b < s.heap.size) (hl : lv_has ls 4 [(0, .ref b), (1, .ref (ad 0)), (2, .ref (ad 29)), (3, .int x3)]) (hI : LI G ad ws (n9 + 1)) (hP : va_P G.1 vwCl (cw G ad ws) H) (hD : va_D (fun q : Nat => s.heap.size ≤ q) (cw G ad ws)) (hS : va_S (fun q : Nat => s.heap.size ≤ q) s.heap H locs) (hcl : cells + 1 ≤ 2000) (hsl : slots ≤ 60000) (i1 : vp_in (x3 + nI 1) L) (i2 : vp_in (x3 + nI 2) L) (i3 : vp_in (x3 + nI 3) L) (nxt : ∀ (ad2 : Nat → Nat) (w2 : List CE) (H1 : Heap) (locs1 : List Loc) (cells2 : Nat), LI G ad2 w2 n9 → ad2 0 = ad 0 → ad2 29 = ad 29 → va_P G.1 vwCl (cw G ad2 w2) H1 → va_D (fun q : Nat => s.heap.size ≤ q) (cw G ad2 w2) → va_S (fun q : Nat => s.heap.size ≤ q) s.heap H1 locs1 → cells2 ≤ cells + 1 → W p l e room_1 s m #[Value.ref b] below meth c H1 locs1 cells2 slots Q (F0 m 808 ls [])) : W p l e room_1 s m #[Value.ref b] below meth c H locs cells slots Q (F0 m 222 ls []) := by
  have hx := F.1.1
  have hb := F.1.2.1
  have hbA : ¬ (fun q : Nat => s.heap.size ≤ q) b := Nat.not_le.mpr hbl
  obtain ⟨n, K, kg, mm, Ln, np, pg, nj, Js, pn, Pe, hn, U, tr, kk, km, kp, kh, rd, hC, hM, hF, hlen, hrd, hkP⟩ := hI
  have hK := hC.2.2.2.2.2.2.2.2.2.2.2
  have o1 := hK.1
  have hCo := hC.1
  have hh6 := hM.2.2.1.2.2.2
  have h10 := hM.2.2.1.2.1
  obtain ⟨⟨rm, sa, sd, hs, hMo⟩, -⟩ := id hM
  refine lv_aload_n hx hb dL_law_222 rfl (lv_at hl 1 rfl) ?_
  refine lv_aload_n hx hb dL_law_223 rfl (lv_at hl 0 rfl) ?_
  refine lv_iload_n hx hb dL_law_224 rfl (lv_at hl 3 rfl) ?_
  refine lv_iconst (v := nI 1) hx hb dL_law_225 (by decide +kernel) ?_
  refine lv_iadd hx hb dL_law_226 ?_
  refine va_sld hx hb hX hbl hbA hS i1 dL_law_227 ?_
  refine lv_aload_n hx hb dL_law_228 rfl (lv_at hl 0 rfl) ?_
  refine lv_iload_n hx hb dL_law_229 rfl (lv_at hl 3 rfl) ?_
  refine lv_iconst (v := nI 2) hx hb dL_law_230 (by decide +kernel) ?_
  refine lv_iadd hx hb dL_law_231 ?_
  refine va_sld hx hb hX hbl hbA hS i2 dL_law_232 ?_
  refine L_gV (as := [.int (xs (x3 + nI 1).toNatClampNeg), .int (xs (x3 + nI 2).toNatClampNeg)]) (rest := []) (k := 0) F dL_law_233 kL_22 (p_as l G ad ws n K kg mm Ln np pg nj Js pn Pe hn U tr kk km kp kh rd hC hkP  (xs (x3 + nI 1).toNatClampNeg) (xs (x3 + nI 2).toNatClampNeg)) hCo rfl rfl (Nat.le_of_ble_eq_true rfl) ⟨⟨(Nat.le_of_ble_eq_true rfl), (Nat.le_of_ble_eq_true rfl)⟩, show cells + 0 ≤ 600000 by omega, show slots + 0 ≤ 7302250 by omega⟩ hl.1 hP hD hS (fun ad1 v1 wa H1 locs1 hp hP1 hD1 hS1 => ?_)
  obtain ⟨e1, r1, e2, hr1, hq1⟩ := hp
  obtain rfl := e1.symm
  obtain rfl := e2
  obtain rfl := hq1.symm
  have hS := hS1
  refine lv_aload_n hx hb dL_law_236 rfl (lv_at hl 2 rfl) ?_
  refine lv_aload_n hx hb dL_law_237 rfl (lv_at hl 0 rfl) ?_
  refine lv_iload_n hx hb dL_law_238 rfl (lv_at hl 3 rfl) ?_
  refine lv_iconst (v := nI 1) hx hb dL_law_239 (by decide +kernel) ?_
  refine lv_iadd hx hb dL_law_240 ?_
  refine va_sld hx hb hX hbl hbA hS i1 dL_law_241 ?_
  refine lv_aload_n hx hb dL_law_242 rfl (lv_at hl 0 rfl) ?_
  refine lv_iload_n hx hb dL_law_243 rfl (lv_at hl 3 rfl) ?_
  refine lv_iconst (v := nI 2) hx hb dL_law_244 (by decide +kernel) ?_
  refine lv_iadd hx hb dL_law_245 ?_
  refine va_sld hx hb hX hbl hbA hS i2 dL_law_246 ?_
  refine L_gV (as := [.int (xs (x3 + nI 1).toNatClampNeg), .int (xs (x3 + nI 2).toNatClampNeg)]) (rest := [.int r1]) (k := 29) F dL_law_247 kL_25 (q_as l G ad ws n K kg mm Ln np pg nj Js pn Pe hn U tr kk km kp kh rd hM hK  (xs (x3 + nI 1).toNatClampNeg) (xs (x3 + nI 2).toNatClampNeg)) hMo rfl rfl (Nat.le_of_ble_eq_true rfl) ⟨⟨(Nat.le_of_ble_eq_true rfl), (Nat.le_of_ble_eq_true rfl)⟩, show cells + 0 ≤ 600000 by omega, show slots + 0 ≤ 7302250 by omega⟩ hl.1 hP1 hD1 hS1 (fun ad2 v2 wb H2 locs2 hp hP2 hD2 hS2 => ?_)
  obtain ⟨e1, r2, e2, hr2, hq2⟩ := hp
  obtain rfl := e1.symm
  obtain rfl := e2
  obtain rfl := hq2.symm
  refine lv_icmp_eq (tgt := 808) hx hb dL_law_250 (by decide) (fun _ => ?_) (fun hne => absurd (hr1.trans hr2.symm) hne)
  · skip
    exact nxt ad ws _ _ _ ⟨n, K, kg, mm, Ln, np, pg, nj, Js, pn, Pe, hn, U, tr, kk, km, kp, kh, rd, hC, hM, hF, hlen, by omega, hkP⟩ rfl rfl hP2 hD2 hS2 (by omega)
set_option maxHeartbeats 1000000 in
theorem law_3 {p : Program} {l : Launch} {e : Env} {s : State} {m : MethodId} {b L : Nat} {xs : Nat → Int32} {below : List Frame} {meth : Method} {c : Code} {Q : State → Prop} {G : GX} {ad : Nat → Nat} {ws : List CE} {H : Heap} {locs : List Loc} {ls : Array Slot} {cells slots n9 : Nat} {x3 : Int32} (F : LF p s m b c G (fun q : Nat => s.heap.size ≤ q)) (hX : va_X b L xs s s.heap) (hbl : b < s.heap.size) (hl : lv_has ls 4 [(0, .ref b), (1, .ref (ad 0)), (2, .ref (ad 29)), (3, .int x3)]) (hI : LI G ad ws (n9 + 1)) (hP : va_P G.1 vwCl (cw G ad ws) H) (hD : va_D (fun q : Nat => s.heap.size ≤ q) (cw G ad ws)) (hS : va_S (fun q : Nat => s.heap.size ≤ q) s.heap H locs) (hcl : cells + 1 ≤ 2000) (hsl : slots ≤ 60000) (i1 : vp_in (x3 + nI 1) L) (i2 : vp_in (x3 + nI 2) L) (i3 : vp_in (x3 + nI 3) L) (nxt : ∀ (ad2 : Nat → Nat) (w2 : List CE) (H1 : Heap) (locs1 : List Loc) (cells2 : Nat), LI G ad2 w2 n9 → ad2 0 = ad 0 → ad2 29 = ad 29 → va_P G.1 vwCl (cw G ad2 w2) H1 → va_D (fun q : Nat => s.heap.size ≤ q) (cw G ad2 w2) → va_S (fun q : Nat => s.heap.size ≤ q) s.heap H1 locs1 → cells2 ≤ cells + 1 → W p l e room_1 s m #[Value.ref b] below meth c H1 locs1 cells2 slots Q (F0 m 808 ls [])) : W p l e room_1 s m #[Value.ref b] below meth c H locs cells slots Q (F0 m 255 ls []) := by
  have hx := F.1.1
  have hb := F.1.2.1
  have hbA : ¬ (fun q : Nat => s.heap.size ≤ q) b := Nat.not_le.mpr hbl
  obtain ⟨n, K, kg, mm, Ln, np, pg, nj, Js, pn, Pe, hn, U, tr, kk, km, kp, kh, rd, hC, hM, hF, hlen, hrd, hkP⟩ := hI
  have hK := hC.2.2.2.2.2.2.2.2.2.2.2
  have o1 := hK.1
  have hCo := hC.1
  have hh6 := hM.2.2.1.2.2.2
  have h10 := hM.2.2.1.2.1
  obtain ⟨⟨rm, sa, sd, hs, hMo⟩, -⟩ := id hM
  refine lv_aload_n hx hb dL_law_255 rfl (lv_at hl 1 rfl) ?_
  refine L_gV (as := []) (rest := []) (k := 0) F dL_law_256 kL_26 (p_begin l G ad ws n K kg mm Ln np pg nj Js pn Pe hn U tr kk km kp kh rd hC hkP  ) hCo rfl rfl (Nat.le_of_ble_eq_true rfl) ⟨⟨(Nat.le_of_ble_eq_true rfl), (Nat.le_of_ble_eq_true rfl)⟩, show cells + 0 ≤ 600000 by omega, show slots + 0 ≤ 7302250 by omega⟩ hl.1 hP hD hS (fun ad1 v1 wa H1 locs1 hp hP1 hD1 hS1 => ?_)
  obtain ⟨e1, r1, e2, hr1, hq1⟩ := hp
  obtain rfl := e1.symm
  obtain rfl := e2
  obtain ⟨hCa, hf1⟩ := hq1
  have hMa := hM.near hf1 (by decide)
  have hFa := hF.fr hf1 (by decide)
  have hla : wa.length = 47 + n := hf1.1.trans hlen
  obtain ⟨⟨rm1, sa1, sd1, hs1, hMo1⟩, -⟩ := id hMa
  have hS := hS1
  refine lv_aload_n hx hb dL_law_259 rfl (lv_at hl 2 rfl) ?_
  refine L_gV (as := []) (rest := [.int r1]) (k := 29) F dL_law_260 kL_30 (q_begin l G ad wa n K kg mm Ln np pg nj Js pn Pe hn U tr kk km kp kh rd hMa hK  ) hMo1 rfl rfl (Nat.le_of_ble_eq_true rfl) ⟨⟨(Nat.le_of_ble_eq_true rfl), (Nat.le_of_ble_eq_true rfl)⟩, show cells + 0 ≤ 600000 by omega, show slots + 0 ≤ 7302250 by omega⟩ hl.1 hP1 hD1 hS1 (fun ad2 v2 wb H2 locs2 hp hP2 hD2 hS2 => ?_)
  obtain ⟨e1, r2, e2, hr2, hq2⟩ := hp
  obtain rfl := e1.symm
  obtain rfl := e2
  obtain ⟨hMb, hf2⟩ := hq2
  refine lv_icmp_eq (tgt := 808) hx hb dL_law_263 (by decide) (fun _ => ?_) (fun hne => absurd (hr1.trans hr2.symm) hne)
  by_cases hcd : mm = 0 ∧ 2 ≤ n
  · rw [if_pos hcd] at hCa hMb
    have hCb := RC.far hCa hf2 (by decide)
    have hFb := hFa.fr hf2 (by decide)
    have hlb := hf2.1.trans hla
    exact nxt ad wb _ _ _ ⟨n, K, kg, (1), (updN Ln 0 kg), np, pg, nj, Js, pn, Pe, hn, U, tr, kk, km, kp, kh, rd, hCb, hMb, hFb, hlb, by omega, hkP⟩ rfl rfl hP2 hD2 hS2 (by omega)
  · rw [if_neg hcd] at hCa hMb
    have hCb := RC.far hCa hf2 (by decide)
    have hFb := hFa.fr hf2 (by decide)
    have hlb := hf2.1.trans hla
    exact nxt ad wb _ _ _ ⟨n, K, kg, mm, Ln, np, pg, nj, Js, pn, Pe, hn, U, tr, kk, km, kp, kh, rd, hCb, hMb, hFb, hlb, by omega, hkP⟩ rfl rfl hP2 hD2 hS2 (by omega)
set_option maxHeartbeats 1000000 in
theorem law_4 {p : Program} {l : Launch} {e : Env} {s : State} {m : MethodId} {b L : Nat} {xs : Nat → Int32} {below : List Frame} {meth : Method} {c : Code} {Q : State → Prop} {G : GX} {ad : Nat → Nat} {ws : List CE} {H : Heap} {locs : List Loc} {ls : Array Slot} {cells slots n9 : Nat} {x3 : Int32} (F : LF p s m b c G (fun q : Nat => s.heap.size ≤ q)) (hX : va_X b L xs s s.heap) (hbl : b < s.heap.size) (hl : lv_has ls 4 [(0, .ref b), (1, .ref (ad 0)), (2, .ref (ad 29)), (3, .int x3)]) (hI : LI G ad ws (n9 + 1)) (hP : va_P G.1 vwCl (cw G ad ws) H) (hD : va_D (fun q : Nat => s.heap.size ≤ q) (cw G ad ws)) (hS : va_S (fun q : Nat => s.heap.size ≤ q) s.heap H locs) (hcl : cells + 1 ≤ 2000) (hsl : slots ≤ 60000) (i1 : vp_in (x3 + nI 1) L) (i2 : vp_in (x3 + nI 2) L) (i3 : vp_in (x3 + nI 3) L) (nxt : ∀ (ad2 : Nat → Nat) (w2 : List CE) (H1 : Heap) (locs1 : List Loc) (cells2 : Nat), LI G ad2 w2 n9 → ad2 0 = ad 0 → ad2 29 = ad 29 → va_P G.1 vwCl (cw G ad2 w2) H1 → va_D (fun q : Nat => s.heap.size ≤ q) (cw G ad2 w2) → va_S (fun q : Nat => s.heap.size ≤ q) s.heap H1 locs1 → cells2 ≤ cells + 1 → W p l e room_1 s m #[Value.ref b] below meth c H1 locs1 cells2 slots Q (F0 m 808 ls [])) : W p l e room_1 s m #[Value.ref b] below meth c H locs cells slots Q (F0 m 268 ls []) := by
  have hx := F.1.1
  have hb := F.1.2.1
  have hbA : ¬ (fun q : Nat => s.heap.size ≤ q) b := Nat.not_le.mpr hbl
  obtain ⟨n, K, kg, mm, Ln, np, pg, nj, Js, pn, Pe, hn, U, tr, kk, km, kp, kh, rd, hC, hM, hF, hlen, hrd, hkP⟩ := hI
  have hK := hC.2.2.2.2.2.2.2.2.2.2.2
  have o1 := hK.1
  have hCo := hC.1
  have hh6 := hM.2.2.1.2.2.2
  have h10 := hM.2.2.1.2.1
  obtain ⟨⟨rm, sa, sd, hs, hMo⟩, -⟩ := id hM
  refine lv_aload_n hx hb dL_law_268 rfl (lv_at hl 1 rfl) ?_
  refine lv_aload_n hx hb dL_law_269 rfl (lv_at hl 0 rfl) ?_
  refine lv_iload_n hx hb dL_law_270 rfl (lv_at hl 3 rfl) ?_
  refine lv_iconst (v := nI 1) hx hb dL_law_271 (by decide +kernel) ?_
  refine lv_iadd hx hb dL_law_272 ?_
  refine va_sld hx hb hX hbl hbA hS i1 dL_law_273 ?_
  refine lv_aload_n hx hb dL_law_274 rfl (lv_at hl 0 rfl) ?_
  refine lv_iload_n hx hb dL_law_275 rfl (lv_at hl 3 rfl) ?_
  refine lv_iconst (v := nI 2) hx hb dL_law_276 (by decide +kernel) ?_
  refine lv_iadd hx hb dL_law_277 ?_
  refine va_sld hx hb hX hbl hbA hS i2 dL_law_278 ?_
  refine L_gV (as := [.int (xs (x3 + nI 1).toNatClampNeg), .int (xs (x3 + nI 2).toNatClampNeg)]) (rest := []) (k := 0) F dL_law_279 kL_31 (p_apart l G ad ws n K kg mm Ln np pg nj Js pn Pe hn U tr kk km kp kh rd hC hkP  (xs (x3 + nI 1).toNatClampNeg) (xs (x3 + nI 2).toNatClampNeg)) hCo rfl rfl (Nat.le_of_ble_eq_true rfl) ⟨⟨(Nat.le_of_ble_eq_true rfl), (Nat.le_of_ble_eq_true rfl)⟩, show cells + 0 ≤ 600000 by omega, show slots + 0 ≤ 7302250 by omega⟩ hl.1 hP hD hS (fun ad1 v1 wa H1 locs1 hp hP1 hD1 hS1 => ?_)
  obtain ⟨e1, r1, e2, hr1, hq1⟩ := hp
  obtain rfl := e1.symm
  obtain rfl := e2
  obtain rfl := hq1.symm
  have hS := hS1
  refine lv_aload_n hx hb dL_law_282 rfl (lv_at hl 2 rfl) ?_
  refine lv_aload_n hx hb dL_law_283 rfl (lv_at hl 0 rfl) ?_
  refine lv_iload_n hx hb dL_law_284 rfl (lv_at hl 3 rfl) ?_
  refine lv_iconst (v := nI 1) hx hb dL_law_285 (by decide +kernel) ?_
  refine lv_iadd hx hb dL_law_286 ?_
  refine va_sld hx hb hX hbl hbA hS i1 dL_law_287 ?_
  refine lv_aload_n hx hb dL_law_288 rfl (lv_at hl 0 rfl) ?_
  refine lv_iload_n hx hb dL_law_289 rfl (lv_at hl 3 rfl) ?_
  refine lv_iconst (v := nI 2) hx hb dL_law_290 (by decide +kernel) ?_
  refine lv_iadd hx hb dL_law_291 ?_
  refine va_sld hx hb hX hbl hbA hS i2 dL_law_292 ?_
  refine L_gV (as := [.int (xs (x3 + nI 1).toNatClampNeg), .int (xs (x3 + nI 2).toNatClampNeg)]) (rest := [.int r1]) (k := 29) F dL_law_293 kL_34 (q_apart l G ad ws n K kg mm Ln np pg nj Js pn Pe hn U tr kk km kp kh rd hM hK  (xs (x3 + nI 1).toNatClampNeg) (xs (x3 + nI 2).toNatClampNeg)) hMo rfl rfl (Nat.le_of_ble_eq_true rfl) ⟨⟨(Nat.le_of_ble_eq_true rfl), (Nat.le_of_ble_eq_true rfl)⟩, show cells + 0 ≤ 600000 by omega, show slots + 0 ≤ 7302250 by omega⟩ hl.1 hP1 hD1 hS1 (fun ad2 v2 wb H2 locs2 hp hP2 hD2 hS2 => ?_)
  obtain ⟨e1, r2, e2, hr2, hq2⟩ := hp
  obtain rfl := e1.symm
  obtain rfl := e2
  obtain rfl := hq2.symm
  refine lv_icmp_eq (tgt := 808) hx hb dL_law_296 (by decide) (fun _ => ?_) (fun hne => absurd (hr1.trans hr2.symm) hne)
  · skip
    exact nxt ad ws _ _ _ ⟨n, K, kg, mm, Ln, np, pg, nj, Js, pn, Pe, hn, U, tr, kk, km, kp, kh, rd, hC, hM, hF, hlen, by omega, hkP⟩ rfl rfl hP2 hD2 hS2 (by omega)
set_option maxHeartbeats 1000000 in
theorem law_5 {p : Program} {l : Launch} {e : Env} {s : State} {m : MethodId} {b L : Nat} {xs : Nat → Int32} {below : List Frame} {meth : Method} {c : Code} {Q : State → Prop} {G : GX} {ad : Nat → Nat} {ws : List CE} {H : Heap} {locs : List Loc} {ls : Array Slot} {cells slots n9 : Nat} {x3 : Int32} (F : LF p s m b c G (fun q : Nat => s.heap.size ≤ q)) (hX : va_X b L xs s s.heap) (hbl : b < s.heap.size) (hl : lv_has ls 4 [(0, .ref b), (1, .ref (ad 0)), (2, .ref (ad 29)), (3, .int x3)]) (hI : LI G ad ws (n9 + 1)) (hP : va_P G.1 vwCl (cw G ad ws) H) (hD : va_D (fun q : Nat => s.heap.size ≤ q) (cw G ad ws)) (hS : va_S (fun q : Nat => s.heap.size ≤ q) s.heap H locs) (hcl : cells + 1 ≤ 2000) (hsl : slots ≤ 60000) (i1 : vp_in (x3 + nI 1) L) (i2 : vp_in (x3 + nI 2) L) (i3 : vp_in (x3 + nI 3) L) (nxt : ∀ (ad2 : Nat → Nat) (w2 : List CE) (H1 : Heap) (locs1 : List Loc) (cells2 : Nat), LI G ad2 w2 n9 → ad2 0 = ad 0 → ad2 29 = ad 29 → va_P G.1 vwCl (cw G ad2 w2) H1 → va_D (fun q : Nat => s.heap.size ≤ q) (cw G ad2 w2) → va_S (fun q : Nat => s.heap.size ≤ q) s.heap H1 locs1 → cells2 ≤ cells + 1 → W p l e room_1 s m #[Value.ref b] below meth c H1 locs1 cells2 slots Q (F0 m 808 ls [])) : W p l e room_1 s m #[Value.ref b] below meth c H locs cells slots Q (F0 m 301 ls []) := by
  have hx := F.1.1
  have hb := F.1.2.1
  have hbA : ¬ (fun q : Nat => s.heap.size ≤ q) b := Nat.not_le.mpr hbl
  obtain ⟨n, K, kg, mm, Ln, np, pg, nj, Js, pn, Pe, hn, U, tr, kk, km, kp, kh, rd, hC, hM, hF, hlen, hrd, hkP⟩ := hI
  have hK := hC.2.2.2.2.2.2.2.2.2.2.2
  have o1 := hK.1
  have hCo := hC.1
  have hh6 := hM.2.2.1.2.2.2
  have h10 := hM.2.2.1.2.1
  obtain ⟨⟨rm, sa, sd, hs, hMo⟩, -⟩ := id hM
  refine lv_aload_n hx hb dL_law_301 rfl (lv_at hl 1 rfl) ?_
  refine lv_aload_n hx hb dL_law_302 rfl (lv_at hl 0 rfl) ?_
  refine lv_iload_n hx hb dL_law_303 rfl (lv_at hl 3 rfl) ?_
  refine lv_iconst (v := nI 1) hx hb dL_law_304 (by decide +kernel) ?_
  refine lv_iadd hx hb dL_law_305 ?_
  refine va_sld hx hb hX hbl hbA hS i1 dL_law_306 ?_
  refine L_gV (as := [.int (xs (x3 + nI 1).toNatClampNeg)]) (rest := []) (k := 0) F dL_law_307 kL_35 (p_paint l G ad ws n K kg mm Ln np pg nj Js pn Pe hn U tr kk km kp kh rd hC hkP  (xs (x3 + nI 1).toNatClampNeg)) hCo rfl rfl (Nat.le_of_ble_eq_true rfl) ⟨⟨(Nat.le_of_ble_eq_true rfl), (Nat.le_of_ble_eq_true rfl)⟩, show cells + 0 ≤ 600000 by omega, show slots + 0 ≤ 7302250 by omega⟩ hl.1 hP hD hS (fun ad1 v1 wa H1 locs1 hp hP1 hD1 hS1 => ?_)
  obtain ⟨e1, r1, e2, hr1, hq1⟩ := hp
  obtain rfl := e1.symm
  obtain rfl := e2
  obtain ⟨hCa, hf1⟩ := hq1
  have hMa := hM.near hf1 (by decide)
  have hFa := hF.fr hf1 (by decide)
  have hla : wa.length = 47 + n := hf1.1.trans hlen
  obtain ⟨⟨rm1, sa1, sd1, hs1, hMo1⟩, -⟩ := id hMa
  have hS := hS1
  refine lv_aload_n hx hb dL_law_310 rfl (lv_at hl 2 rfl) ?_
  refine lv_aload_n hx hb dL_law_311 rfl (lv_at hl 0 rfl) ?_
  refine lv_iload_n hx hb dL_law_312 rfl (lv_at hl 3 rfl) ?_
  refine lv_iconst (v := nI 1) hx hb dL_law_313 (by decide +kernel) ?_
  refine lv_iadd hx hb dL_law_314 ?_
  refine va_sld hx hb hX hbl hbA hS i1 dL_law_315 ?_
  refine L_gV (as := [.int (xs (x3 + nI 1).toNatClampNeg)]) (rest := [.int r1]) (k := 29) F dL_law_316 kL_39 (q_paint l G ad wa n K kg mm Ln np pg nj Js pn Pe hn U tr kk km kp kh rd hMa hK  (xs (x3 + nI 1).toNatClampNeg)) hMo1 rfl rfl (Nat.le_of_ble_eq_true rfl) ⟨⟨(Nat.le_of_ble_eq_true rfl), (Nat.le_of_ble_eq_true rfl)⟩, show cells + 0 ≤ 600000 by omega, show slots + 0 ≤ 7302250 by omega⟩ hl.1 hP1 hD1 hS1 (fun ad2 v2 wb H2 locs2 hp hP2 hD2 hS2 => ?_)
  obtain ⟨e1, r2, e2, hr2, hq2⟩ := hp
  obtain rfl := e1.symm
  obtain rfl := e2
  obtain ⟨hMb, hf2⟩ := hq2
  refine lv_icmp_eq (tgt := 808) hx hb dL_law_319 (by decide) (fun _ => ?_) (fun hne => absurd (hr1.trans hr2.symm) hne)
  by_cases hcd : okPaint n K mm kg nj Js Ln (xs (x3 + nI 1).toNatClampNeg) = true ∧ mm < 60
  · rw [if_pos hcd] at hCa hMb
    have hCb := RC.far hCa hf2 (by decide)
    have hFb := hFa.fr hf2 (by decide)
    have hlb := hf2.1.trans hla
    exact nxt ad wb _ _ _ ⟨n, K, (agedP n K kg), (mm + 1), (updN Ln mm (valI (xs (x3 + nI 1).toNatClampNeg))), np, pg, nj, Js, pn, Pe, hn, U, tr, kk, km, kp, kh, rd, hCb, hMb, hFb, hlb, by omega, hkP⟩ rfl rfl hP2 hD2 hS2 (by omega)
  · rw [if_neg hcd] at hCa hMb
    have hCb := RC.far hCa hf2 (by decide)
    have hFb := hFa.fr hf2 (by decide)
    have hlb := hf2.1.trans hla
    exact nxt ad wb _ _ _ ⟨n, K, kg, mm, Ln, np, pg, nj, Js, pn, Pe, hn, U, tr, kk, km, kp, kh, rd, hCb, hMb, hFb, hlb, by omega, hkP⟩ rfl rfl hP2 hD2 hS2 (by omega)
set_option maxHeartbeats 1000000 in
theorem law_6 {p : Program} {l : Launch} {e : Env} {s : State} {m : MethodId} {b L : Nat} {xs : Nat → Int32} {below : List Frame} {meth : Method} {c : Code} {Q : State → Prop} {G : GX} {ad : Nat → Nat} {ws : List CE} {H : Heap} {locs : List Loc} {ls : Array Slot} {cells slots n9 : Nat} {x3 : Int32} (F : LF p s m b c G (fun q : Nat => s.heap.size ≤ q)) (hX : va_X b L xs s s.heap) (hbl : b < s.heap.size) (hl : lv_has ls 4 [(0, .ref b), (1, .ref (ad 0)), (2, .ref (ad 29)), (3, .int x3)]) (hI : LI G ad ws (n9 + 1)) (hP : va_P G.1 vwCl (cw G ad ws) H) (hD : va_D (fun q : Nat => s.heap.size ≤ q) (cw G ad ws)) (hS : va_S (fun q : Nat => s.heap.size ≤ q) s.heap H locs) (hcl : cells + 1 ≤ 2000) (hsl : slots ≤ 60000) (i1 : vp_in (x3 + nI 1) L) (i2 : vp_in (x3 + nI 2) L) (i3 : vp_in (x3 + nI 3) L) (nxt : ∀ (ad2 : Nat → Nat) (w2 : List CE) (H1 : Heap) (locs1 : List Loc) (cells2 : Nat), LI G ad2 w2 n9 → ad2 0 = ad 0 → ad2 29 = ad 29 → va_P G.1 vwCl (cw G ad2 w2) H1 → va_D (fun q : Nat => s.heap.size ≤ q) (cw G ad2 w2) → va_S (fun q : Nat => s.heap.size ≤ q) s.heap H1 locs1 → cells2 ≤ cells + 1 → W p l e room_1 s m #[Value.ref b] below meth c H1 locs1 cells2 slots Q (F0 m 808 ls [])) : W p l e room_1 s m #[Value.ref b] below meth c H locs cells slots Q (F0 m 324 ls []) := by
  have hx := F.1.1
  have hb := F.1.2.1
  have hbA : ¬ (fun q : Nat => s.heap.size ≤ q) b := Nat.not_le.mpr hbl
  obtain ⟨n, K, kg, mm, Ln, np, pg, nj, Js, pn, Pe, hn, U, tr, kk, km, kp, kh, rd, hC, hM, hF, hlen, hrd, hkP⟩ := hI
  have hK := hC.2.2.2.2.2.2.2.2.2.2.2
  have o1 := hK.1
  have hCo := hC.1
  have hh6 := hM.2.2.1.2.2.2
  have h10 := hM.2.2.1.2.1
  obtain ⟨⟨rm, sa, sd, hs, hMo⟩, -⟩ := id hM
  refine lv_aload_n hx hb dL_law_324 rfl (lv_at hl 1 rfl) ?_
  refine lv_aload_n hx hb dL_law_325 rfl (lv_at hl 0 rfl) ?_
  refine lv_iload_n hx hb dL_law_326 rfl (lv_at hl 3 rfl) ?_
  refine lv_iconst (v := nI 1) hx hb dL_law_327 (by decide +kernel) ?_
  refine lv_iadd hx hb dL_law_328 ?_
  refine va_sld hx hb hX hbl hbA hS i1 dL_law_329 ?_
  refine L_gV (as := [.int (xs (x3 + nI 1).toNatClampNeg)]) (rest := []) (k := 0) F dL_law_330 kL_40 (p_line l G ad ws n K kg mm Ln np pg nj Js pn Pe hn U tr kk km kp kh rd hC hkP  (xs (x3 + nI 1).toNatClampNeg)) hCo rfl rfl (Nat.le_of_ble_eq_true rfl) ⟨⟨(Nat.le_of_ble_eq_true rfl), (Nat.le_of_ble_eq_true rfl)⟩, show cells + 0 ≤ 600000 by omega, show slots + 0 ≤ 7302250 by omega⟩ hl.1 hP hD hS (fun ad1 v1 wa H1 locs1 hp hP1 hD1 hS1 => ?_)
  obtain ⟨e1, r1, e2, hr1, hq1⟩ := hp
  obtain rfl := e1.symm
  obtain rfl := e2
  obtain rfl := hq1.symm
  have hS := hS1
  refine lv_aload_n hx hb dL_law_333 rfl (lv_at hl 2 rfl) ?_
  refine lv_aload_n hx hb dL_law_334 rfl (lv_at hl 0 rfl) ?_
  refine lv_iload_n hx hb dL_law_335 rfl (lv_at hl 3 rfl) ?_
  refine lv_iconst (v := nI 1) hx hb dL_law_336 (by decide +kernel) ?_
  refine lv_iadd hx hb dL_law_337 ?_
  refine va_sld hx hb hX hbl hbA hS i1 dL_law_338 ?_
  refine L_gV (as := [.int (xs (x3 + nI 1).toNatClampNeg)]) (rest := [.int r1]) (k := 29) F dL_law_339 kL_43 (q_line l G ad ws n K kg mm Ln np pg nj Js pn Pe hn U tr kk km kp kh rd hM hK  (xs (x3 + nI 1).toNatClampNeg)) hMo rfl rfl (Nat.le_of_ble_eq_true rfl) ⟨⟨(Nat.le_of_ble_eq_true rfl), (Nat.le_of_ble_eq_true rfl)⟩, show cells + 0 ≤ 600000 by omega, show slots + 0 ≤ 7302250 by omega⟩ hl.1 hP1 hD1 hS1 (fun ad2 v2 wb H2 locs2 hp hP2 hD2 hS2 => ?_)
  obtain ⟨e1, r2, e2, hr2, hq2⟩ := hp
  obtain rfl := e1.symm
  obtain rfl := e2
  obtain rfl := hq2.symm
  refine lv_icmp_eq (tgt := 808) hx hb dL_law_342 (by decide) (fun _ => ?_) (fun hne => absurd (hr1.trans hr2.symm) hne)
  · skip
    exact nxt ad ws _ _ _ ⟨n, K, kg, mm, Ln, np, pg, nj, Js, pn, Pe, hn, U, tr, kk, km, kp, kh, rd, hC, hM, hF, hlen, by omega, hkP⟩ rfl rfl hP2 hD2 hS2 (by omega)
set_option maxHeartbeats 1000000 in
theorem law_8 {p : Program} {l : Launch} {e : Env} {s : State} {m : MethodId} {b L : Nat} {xs : Nat → Int32} {below : List Frame} {meth : Method} {c : Code} {Q : State → Prop} {G : GX} {ad : Nat → Nat} {ws : List CE} {H : Heap} {locs : List Loc} {ls : Array Slot} {cells slots n9 : Nat} {x3 : Int32} (F : LF p s m b c G (fun q : Nat => s.heap.size ≤ q)) (hX : va_X b L xs s s.heap) (hbl : b < s.heap.size) (hl : lv_has ls 4 [(0, .ref b), (1, .ref (ad 0)), (2, .ref (ad 29)), (3, .int x3)]) (hI : LI G ad ws (n9 + 1)) (hP : va_P G.1 vwCl (cw G ad ws) H) (hD : va_D (fun q : Nat => s.heap.size ≤ q) (cw G ad ws)) (hS : va_S (fun q : Nat => s.heap.size ≤ q) s.heap H locs) (hcl : cells + 1 ≤ 2000) (hsl : slots ≤ 60000) (i1 : vp_in (x3 + nI 1) L) (i2 : vp_in (x3 + nI 2) L) (i3 : vp_in (x3 + nI 3) L) (nxt : ∀ (ad2 : Nat → Nat) (w2 : List CE) (H1 : Heap) (locs1 : List Loc) (cells2 : Nat), LI G ad2 w2 n9 → ad2 0 = ad 0 → ad2 29 = ad 29 → va_P G.1 vwCl (cw G ad2 w2) H1 → va_D (fun q : Nat => s.heap.size ≤ q) (cw G ad2 w2) → va_S (fun q : Nat => s.heap.size ≤ q) s.heap H1 locs1 → cells2 ≤ cells + 1 → W p l e room_1 s m #[Value.ref b] below meth c H1 locs1 cells2 slots Q (F0 m 808 ls [])) : W p l e room_1 s m #[Value.ref b] below meth c H locs cells slots Q (F0 m 400 ls []) := by
  have hx := F.1.1
  have hb := F.1.2.1
  have hbA : ¬ (fun q : Nat => s.heap.size ≤ q) b := Nat.not_le.mpr hbl
  obtain ⟨n, K, kg, mm, Ln, np, pg, nj, Js, pn, Pe, hn, U, tr, kk, km, kp, kh, rd, hC, hM, hF, hlen, hrd, hkP⟩ := hI
  have hK := hC.2.2.2.2.2.2.2.2.2.2.2
  have o1 := hK.1
  have hCo := hC.1
  have hh6 := hM.2.2.1.2.2.2
  have h10 := hM.2.2.1.2.1
  obtain ⟨⟨rm, sa, sd, hs, hMo⟩, -⟩ := id hM
  refine lv_aload_n hx hb dL_law_400 rfl (lv_at hl 1 rfl) ?_
  refine L_gV (as := []) (rest := []) (k := 0) F dL_law_401 kL_51 (p_blank l G ad ws n K kg mm Ln np pg nj Js pn Pe hn U tr kk km kp kh rd hC hkP  ) hCo rfl rfl (Nat.le_of_ble_eq_true rfl) ⟨⟨(Nat.le_of_ble_eq_true rfl), (Nat.le_of_ble_eq_true rfl)⟩, show cells + 0 ≤ 600000 by omega, show slots + 0 ≤ 7302250 by omega⟩ hl.1 hP hD hS (fun ad1 v1 wa H1 locs1 hp hP1 hD1 hS1 => ?_)
  obtain ⟨e1, r1, e2, hr1, hq1⟩ := hp
  obtain rfl := e1.symm
  obtain rfl := e2
  obtain ⟨hCa, hf1⟩ := hq1
  have hMa := hM.near hf1 (by decide)
  have hFa := hF.fr hf1 (by decide)
  have hla : wa.length = 47 + n := hf1.1.trans hlen
  obtain ⟨⟨rm1, sa1, sd1, hs1, hMo1⟩, -⟩ := id hMa
  have hS := hS1
  refine lv_aload_n hx hb dL_law_404 rfl (lv_at hl 2 rfl) ?_
  refine L_gV (as := []) (rest := [.int r1]) (k := 29) F dL_law_405 kL_54 (q_blank l G ad wa n K kg mm Ln np pg nj Js pn Pe hn U tr kk km kp kh rd hMa hK  ) hMo1 rfl rfl (Nat.le_of_ble_eq_true rfl) ⟨⟨(Nat.le_of_ble_eq_true rfl), (Nat.le_of_ble_eq_true rfl)⟩, show cells + 0 ≤ 600000 by omega, show slots + 0 ≤ 7302250 by omega⟩ hl.1 hP1 hD1 hS1 (fun ad2 v2 wb H2 locs2 hp hP2 hD2 hS2 => ?_)
  obtain ⟨e1, r2, e2, hr2, hq2⟩ := hp
  obtain rfl := e1.symm
  obtain rfl := e2
  obtain ⟨hMb, hf2⟩ := hq2
  refine lv_icmp_eq (tgt := 808) hx hb dL_law_408 (by decide) (fun _ => ?_) (fun hne => absurd (hr1.trans hr2.symm) hne)
  · skip
    have hCb := RC.far hCa hf2 (by decide)
    have hFb := hFa.fr hf2 (by decide)
    have hlb := hf2.1.trans hla
    exact nxt ad wb _ _ _ ⟨n, K, kg, mm, Ln, (0), pg, nj, Js, pn, Pe, hn, U, tr, kk, km, kp, kh, rd, hCb, hMb, hFb, hlb, by omega, hkP⟩ rfl rfl hP2 hD2 hS2 (by omega)
set_option maxHeartbeats 1000000 in
theorem law_9 {p : Program} {l : Launch} {e : Env} {s : State} {m : MethodId} {b L : Nat} {xs : Nat → Int32} {below : List Frame} {meth : Method} {c : Code} {Q : State → Prop} {G : GX} {ad : Nat → Nat} {ws : List CE} {H : Heap} {locs : List Loc} {ls : Array Slot} {cells slots n9 : Nat} {x3 : Int32} (F : LF p s m b c G (fun q : Nat => s.heap.size ≤ q)) (hX : va_X b L xs s s.heap) (hbl : b < s.heap.size) (hl : lv_has ls 4 [(0, .ref b), (1, .ref (ad 0)), (2, .ref (ad 29)), (3, .int x3)]) (hI : LI G ad ws (n9 + 1)) (hP : va_P G.1 vwCl (cw G ad ws) H) (hD : va_D (fun q : Nat => s.heap.size ≤ q) (cw G ad ws)) (hS : va_S (fun q : Nat => s.heap.size ≤ q) s.heap H locs) (hcl : cells + 1 ≤ 2000) (hsl : slots ≤ 60000) (i1 : vp_in (x3 + nI 1) L) (i2 : vp_in (x3 + nI 2) L) (i3 : vp_in (x3 + nI 3) L) (nxt : ∀ (ad2 : Nat → Nat) (w2 : List CE) (H1 : Heap) (locs1 : List Loc) (cells2 : Nat), LI G ad2 w2 n9 → ad2 0 = ad 0 → ad2 29 = ad 29 → va_P G.1 vwCl (cw G ad2 w2) H1 → va_D (fun q : Nat => s.heap.size ≤ q) (cw G ad2 w2) → va_S (fun q : Nat => s.heap.size ≤ q) s.heap H1 locs1 → cells2 ≤ cells + 1 → W p l e room_1 s m #[Value.ref b] below meth c H1 locs1 cells2 slots Q (F0 m 808 ls [])) : W p l e room_1 s m #[Value.ref b] below meth c H locs cells slots Q (F0 m 413 ls []) := by
  have hx := F.1.1
  have hb := F.1.2.1
  have hbA : ¬ (fun q : Nat => s.heap.size ≤ q) b := Nat.not_le.mpr hbl
  obtain ⟨n, K, kg, mm, Ln, np, pg, nj, Js, pn, Pe, hn, U, tr, kk, km, kp, kh, rd, hC, hM, hF, hlen, hrd, hkP⟩ := hI
  have hK := hC.2.2.2.2.2.2.2.2.2.2.2
  have o1 := hK.1
  have hCo := hC.1
  have hh6 := hM.2.2.1.2.2.2
  have h10 := hM.2.2.1.2.1
  obtain ⟨⟨rm, sa, sd, hs, hMo⟩, -⟩ := id hM
  refine lv_aload_n hx hb dL_law_413 rfl (lv_at hl 1 rfl) ?_
  refine L_gV (as := []) (rest := []) (k := 0) F dL_law_414 kL_55 (p_fault l G ad ws n K kg mm Ln np pg nj Js pn Pe hn U tr kk km kp kh rd hC hkP  ) hCo rfl rfl (Nat.le_of_ble_eq_true rfl) ⟨⟨(Nat.le_of_ble_eq_true rfl), (Nat.le_of_ble_eq_true rfl)⟩, show cells + 0 ≤ 600000 by omega, show slots + 0 ≤ 7302250 by omega⟩ hl.1 hP hD hS (fun ad1 v1 wa H1 locs1 hp hP1 hD1 hS1 => ?_)
  obtain ⟨e1, r1, e2, hr1, hq1⟩ := hp
  obtain rfl := e1.symm
  obtain rfl := e2
  obtain rfl := hq1.symm
  have hS := hS1
  refine lv_aload_n hx hb dL_law_417 rfl (lv_at hl 2 rfl) ?_
  refine L_gV (as := []) (rest := [.int r1]) (k := 29) F dL_law_418 kL_58 (q_fault l G ad ws n K kg mm Ln np pg nj Js pn Pe hn U tr kk km kp kh rd hM hK  ) hMo rfl rfl (Nat.le_of_ble_eq_true rfl) ⟨⟨(Nat.le_of_ble_eq_true rfl), (Nat.le_of_ble_eq_true rfl)⟩, show cells + 0 ≤ 600000 by omega, show slots + 0 ≤ 7302250 by omega⟩ hl.1 hP1 hD1 hS1 (fun ad2 v2 wb H2 locs2 hp hP2 hD2 hS2 => ?_)
  obtain ⟨e1, r2, e2, hr2, hq2⟩ := hp
  obtain rfl := e1.symm
  obtain rfl := e2
  obtain ⟨hMb, hf2⟩ := hq2
  refine lv_icmp_eq (tgt := 808) hx hb dL_law_421 (by decide) (fun _ => ?_) (fun hne => absurd (by rw [hr1, hr2, faultM_1 n np pg o1 h10]) hne)
  · skip
    have hCb := RC.far hC hf2 (by decide)
    have hFb := hF.fr hf2 (by decide)
    have hlb := hf2.1.trans hlen
    exact nxt ad wb _ _ _ ⟨n, K, kg, mm, Ln, np, pg, nj, Js, pn, Pe, hn, U, tr, kk, km, kp, kh, rd, hCb, hMb, hFb, hlb, by omega, hkP⟩ rfl rfl hP2 hD2 hS2 (by omega)
set_option maxHeartbeats 1000000 in
theorem law_10 {p : Program} {l : Launch} {e : Env} {s : State} {m : MethodId} {b L : Nat} {xs : Nat → Int32} {below : List Frame} {meth : Method} {c : Code} {Q : State → Prop} {G : GX} {ad : Nat → Nat} {ws : List CE} {H : Heap} {locs : List Loc} {ls : Array Slot} {cells slots n9 : Nat} {x3 : Int32} (F : LF p s m b c G (fun q : Nat => s.heap.size ≤ q)) (hX : va_X b L xs s s.heap) (hbl : b < s.heap.size) (hl : lv_has ls 4 [(0, .ref b), (1, .ref (ad 0)), (2, .ref (ad 29)), (3, .int x3)]) (hI : LI G ad ws (n9 + 1)) (hP : va_P G.1 vwCl (cw G ad ws) H) (hD : va_D (fun q : Nat => s.heap.size ≤ q) (cw G ad ws)) (hS : va_S (fun q : Nat => s.heap.size ≤ q) s.heap H locs) (hcl : cells + 1 ≤ 2000) (hsl : slots ≤ 60000) (i1 : vp_in (x3 + nI 1) L) (i2 : vp_in (x3 + nI 2) L) (i3 : vp_in (x3 + nI 3) L) (nxt : ∀ (ad2 : Nat → Nat) (w2 : List CE) (H1 : Heap) (locs1 : List Loc) (cells2 : Nat), LI G ad2 w2 n9 → ad2 0 = ad 0 → ad2 29 = ad 29 → va_P G.1 vwCl (cw G ad2 w2) H1 → va_D (fun q : Nat => s.heap.size ≤ q) (cw G ad2 w2) → va_S (fun q : Nat => s.heap.size ≤ q) s.heap H1 locs1 → cells2 ≤ cells + 1 → W p l e room_1 s m #[Value.ref b] below meth c H1 locs1 cells2 slots Q (F0 m 808 ls [])) : W p l e room_1 s m #[Value.ref b] below meth c H locs cells slots Q (F0 m 426 ls []) := by
  have hx := F.1.1
  have hb := F.1.2.1
  have hbA : ¬ (fun q : Nat => s.heap.size ≤ q) b := Nat.not_le.mpr hbl
  obtain ⟨n, K, kg, mm, Ln, np, pg, nj, Js, pn, Pe, hn, U, tr, kk, km, kp, kh, rd, hC, hM, hF, hlen, hrd, hkP⟩ := hI
  have hK := hC.2.2.2.2.2.2.2.2.2.2.2
  have o1 := hK.1
  have hCo := hC.1
  have hh6 := hM.2.2.1.2.2.2
  have h10 := hM.2.2.1.2.1
  obtain ⟨⟨rm, sa, sd, hs, hMo⟩, -⟩ := id hM
  refine lv_aload_n hx hb dL_law_426 rfl (lv_at hl 1 rfl) ?_
  refine L_gV (as := []) (rest := []) (k := 0) F dL_law_427 kL_59 (p_judge l G ad ws n K kg mm Ln np pg nj Js pn Pe hn U tr kk km kp kh rd hC hkP  ) hCo rfl rfl (Nat.le_of_ble_eq_true rfl) ⟨⟨(Nat.le_of_ble_eq_true rfl), (Nat.le_of_ble_eq_true rfl)⟩, show cells + 0 ≤ 600000 by omega, show slots + 0 ≤ 7302250 by omega⟩ hl.1 hP hD hS (fun ad1 v1 wa H1 locs1 hp hP1 hD1 hS1 => ?_)
  obtain ⟨e1, r1, e2, hr1, hq1⟩ := hp
  obtain rfl := e1.symm
  obtain rfl := e2
  obtain ⟨hCa, hf1⟩ := hq1
  have hMa := hM.near hf1 (by decide)
  have hFa := hF.fr hf1 (by decide)
  have hla : wa.length = 47 + n := hf1.1.trans hlen
  obtain ⟨⟨rm1, sa1, sd1, hs1, hMo1⟩, -⟩ := id hMa
  have hS := hS1
  refine lv_aload_n hx hb dL_law_430 rfl (lv_at hl 2 rfl) ?_
  refine L_gV (as := []) (rest := [.int r1]) (k := 29) F dL_law_431 kL_62 (q_judge l G ad wa n K kg mm Ln np pg nj Js pn Pe hn U tr kk km kp kh rd hMa hK (fun hmm => faultM_2 n np pg o1 (by have := hK.2.2.2.2.2.2.1 hmm; omega) h10) ) hMo1 rfl rfl (Nat.le_of_ble_eq_true rfl) ⟨⟨(Nat.le_of_ble_eq_true rfl), (Nat.le_of_ble_eq_true rfl)⟩, show cells + 0 ≤ 600000 by omega, show slots + 0 ≤ 7302250 by omega⟩ hl.1 hP1 hD1 hS1 (fun ad2 v2 wb H2 locs2 hp hP2 hD2 hS2 => ?_)
  obtain ⟨e1, r2, e2, hr2, hq2⟩ := hp
  obtain rfl := e1.symm
  obtain rfl := e2
  obtain ⟨hMb, hf2⟩ := hq2
  refine lv_icmp_eq (tgt := 808) hx hb dL_law_434 (by decide) (fun _ => ?_) (fun hne => absurd (hr1.trans hr2.symm) hne)
  by_cases hcd : okJudge n mm np pg = true ∧ nj < 5
  · rw [if_pos hcd] at hCa hMb
    have hCb := RC.far hCa hf2 (by decide)
    have hFb := hFa.fr hf2 (by decide)
    have hlb := hf2.1.trans hla
    exact nxt ad wb _ _ _ ⟨n, K, kg, mm, Ln, (0), pg, (nj + 1), (upJ Js nj (judgeOf n np pg)), pn, Pe, hn, U, tr, kk, km, kp, kh, rd, hCb, hMb, hFb, hlb, by omega, hkP⟩ rfl rfl hP2 hD2 hS2 (by omega)
  · rw [if_neg hcd] at hCa hMb
    have hCb := RC.far hCa hf2 (by decide)
    have hFb := hFa.fr hf2 (by decide)
    have hlb := hf2.1.trans hla
    exact nxt ad wb _ _ _ ⟨n, K, kg, mm, Ln, np, pg, nj, Js, pn, Pe, hn, U, tr, kk, km, kp, kh, rd, hCb, hMb, hFb, hlb, by omega, hkP⟩ rfl rfl hP2 hD2 hS2 (by omega)
set_option maxHeartbeats 1000000 in
theorem law_11 {p : Program} {l : Launch} {e : Env} {s : State} {m : MethodId} {b L : Nat} {xs : Nat → Int32} {below : List Frame} {meth : Method} {c : Code} {Q : State → Prop} {G : GX} {ad : Nat → Nat} {ws : List CE} {H : Heap} {locs : List Loc} {ls : Array Slot} {cells slots n9 : Nat} {x3 : Int32} (F : LF p s m b c G (fun q : Nat => s.heap.size ≤ q)) (hX : va_X b L xs s s.heap) (hbl : b < s.heap.size) (hl : lv_has ls 4 [(0, .ref b), (1, .ref (ad 0)), (2, .ref (ad 29)), (3, .int x3)]) (hI : LI G ad ws (n9 + 1)) (hP : va_P G.1 vwCl (cw G ad ws) H) (hD : va_D (fun q : Nat => s.heap.size ≤ q) (cw G ad ws)) (hS : va_S (fun q : Nat => s.heap.size ≤ q) s.heap H locs) (hcl : cells + 1 ≤ 2000) (hsl : slots ≤ 60000) (i1 : vp_in (x3 + nI 1) L) (i2 : vp_in (x3 + nI 2) L) (i3 : vp_in (x3 + nI 3) L) (nxt : ∀ (ad2 : Nat → Nat) (w2 : List CE) (H1 : Heap) (locs1 : List Loc) (cells2 : Nat), LI G ad2 w2 n9 → ad2 0 = ad 0 → ad2 29 = ad 29 → va_P G.1 vwCl (cw G ad2 w2) H1 → va_D (fun q : Nat => s.heap.size ≤ q) (cw G ad2 w2) → va_S (fun q : Nat => s.heap.size ≤ q) s.heap H1 locs1 → cells2 ≤ cells + 1 → W p l e room_1 s m #[Value.ref b] below meth c H1 locs1 cells2 slots Q (F0 m 808 ls [])) : W p l e room_1 s m #[Value.ref b] below meth c H locs cells slots Q (F0 m 439 ls []) := by
  have hx := F.1.1
  have hb := F.1.2.1
  have hbA : ¬ (fun q : Nat => s.heap.size ≤ q) b := Nat.not_le.mpr hbl
  obtain ⟨n, K, kg, mm, Ln, np, pg, nj, Js, pn, Pe, hn, U, tr, kk, km, kp, kh, rd, hC, hM, hF, hlen, hrd, hkP⟩ := hI
  have hK := hC.2.2.2.2.2.2.2.2.2.2.2
  have o1 := hK.1
  have hCo := hC.1
  have hh6 := hM.2.2.1.2.2.2
  have h10 := hM.2.2.1.2.1
  obtain ⟨⟨rm, sa, sd, hs, hMo⟩, -⟩ := id hM
  refine lv_aload_n hx hb dL_law_439 rfl (lv_at hl 1 rfl) ?_
  refine lv_aload_n hx hb dL_law_440 rfl (lv_at hl 0 rfl) ?_
  refine lv_iload_n hx hb dL_law_441 rfl (lv_at hl 3 rfl) ?_
  refine lv_iconst (v := nI 1) hx hb dL_law_442 (by decide +kernel) ?_
  refine lv_iadd hx hb dL_law_443 ?_
  refine va_sld hx hb hX hbl hbA hS i1 dL_law_444 ?_
  refine lv_aload_n hx hb dL_law_445 rfl (lv_at hl 0 rfl) ?_
  refine lv_iload_n hx hb dL_law_446 rfl (lv_at hl 3 rfl) ?_
  refine lv_iconst (v := nI 2) hx hb dL_law_447 (by decide +kernel) ?_
  refine lv_iadd hx hb dL_law_448 ?_
  refine va_sld hx hb hX hbl hbA hS i2 dL_law_449 ?_
  refine L_gV (as := [.int (xs (x3 + nI 1).toNatClampNeg), .int (xs (x3 + nI 2).toNatClampNeg)]) (rest := []) (k := 0) F dL_law_450 kL_63 (p_told l G ad ws n K kg mm Ln np pg nj Js pn Pe hn U tr kk km kp kh rd hC hkP  (xs (x3 + nI 1).toNatClampNeg) (xs (x3 + nI 2).toNatClampNeg)) hCo rfl rfl (Nat.le_of_ble_eq_true rfl) ⟨⟨(Nat.le_of_ble_eq_true rfl), (Nat.le_of_ble_eq_true rfl)⟩, show cells + 0 ≤ 600000 by omega, show slots + 0 ≤ 7302250 by omega⟩ hl.1 hP hD hS (fun ad1 v1 wa H1 locs1 hp hP1 hD1 hS1 => ?_)
  obtain ⟨e1, r1, e2, hr1, hq1⟩ := hp
  obtain rfl := e1.symm
  obtain rfl := e2
  obtain rfl := hq1.symm
  have hS := hS1
  refine lv_aload_n hx hb dL_law_453 rfl (lv_at hl 2 rfl) ?_
  refine lv_aload_n hx hb dL_law_454 rfl (lv_at hl 0 rfl) ?_
  refine lv_iload_n hx hb dL_law_455 rfl (lv_at hl 3 rfl) ?_
  refine lv_iconst (v := nI 1) hx hb dL_law_456 (by decide +kernel) ?_
  refine lv_iadd hx hb dL_law_457 ?_
  refine va_sld hx hb hX hbl hbA hS i1 dL_law_458 ?_
  refine lv_aload_n hx hb dL_law_459 rfl (lv_at hl 0 rfl) ?_
  refine lv_iload_n hx hb dL_law_460 rfl (lv_at hl 3 rfl) ?_
  refine lv_iconst (v := nI 2) hx hb dL_law_461 (by decide +kernel) ?_
  refine lv_iadd hx hb dL_law_462 ?_
  refine va_sld hx hb hX hbl hbA hS i2 dL_law_463 ?_
  refine L_gV (as := [.int (xs (x3 + nI 1).toNatClampNeg), .int (xs (x3 + nI 2).toNatClampNeg)]) (rest := [.int r1]) (k := 29) F dL_law_464 kL_66 (q_told l G ad ws n K kg mm Ln np pg nj Js pn Pe hn U tr kk km kp kh rd hM hK  (xs (x3 + nI 1).toNatClampNeg) (xs (x3 + nI 2).toNatClampNeg)) hMo rfl rfl (Nat.le_of_ble_eq_true rfl) ⟨⟨(Nat.le_of_ble_eq_true rfl), (Nat.le_of_ble_eq_true rfl)⟩, show cells + 0 ≤ 600000 by omega, show slots + 0 ≤ 7302250 by omega⟩ hl.1 hP1 hD1 hS1 (fun ad2 v2 wb H2 locs2 hp hP2 hD2 hS2 => ?_)
  obtain ⟨e1, r2, e2, hr2, hq2⟩ := hp
  obtain rfl := e1.symm
  obtain rfl := e2
  obtain rfl := hq2.symm
  refine lv_icmp_eq (tgt := 808) hx hb dL_law_467 (by decide) (fun _ => ?_) (fun hne => absurd (hr1.trans hr2.symm) hne)
  · skip
    exact nxt ad ws _ _ _ ⟨n, K, kg, mm, Ln, np, pg, nj, Js, pn, Pe, hn, U, tr, kk, km, kp, kh, rd, hC, hM, hF, hlen, by omega, hkP⟩ rfl rfl hP2 hD2 hS2 (by omega)
set_option maxHeartbeats 1000000 in
theorem law_12 {p : Program} {l : Launch} {e : Env} {s : State} {m : MethodId} {b L : Nat} {xs : Nat → Int32} {below : List Frame} {meth : Method} {c : Code} {Q : State → Prop} {G : GX} {ad : Nat → Nat} {ws : List CE} {H : Heap} {locs : List Loc} {ls : Array Slot} {cells slots n9 : Nat} {x3 : Int32} (F : LF p s m b c G (fun q : Nat => s.heap.size ≤ q)) (hX : va_X b L xs s s.heap) (hbl : b < s.heap.size) (hl : lv_has ls 4 [(0, .ref b), (1, .ref (ad 0)), (2, .ref (ad 29)), (3, .int x3)]) (hI : LI G ad ws (n9 + 1)) (hP : va_P G.1 vwCl (cw G ad ws) H) (hD : va_D (fun q : Nat => s.heap.size ≤ q) (cw G ad ws)) (hS : va_S (fun q : Nat => s.heap.size ≤ q) s.heap H locs) (hcl : cells + 1 ≤ 2000) (hsl : slots ≤ 60000) (i1 : vp_in (x3 + nI 1) L) (i2 : vp_in (x3 + nI 2) L) (i3 : vp_in (x3 + nI 3) L) (nxt : ∀ (ad2 : Nat → Nat) (w2 : List CE) (H1 : Heap) (locs1 : List Loc) (cells2 : Nat), LI G ad2 w2 n9 → ad2 0 = ad 0 → ad2 29 = ad 29 → va_P G.1 vwCl (cw G ad2 w2) H1 → va_D (fun q : Nat => s.heap.size ≤ q) (cw G ad2 w2) → va_S (fun q : Nat => s.heap.size ≤ q) s.heap H1 locs1 → cells2 ≤ cells + 1 → W p l e room_1 s m #[Value.ref b] below meth c H1 locs1 cells2 slots Q (F0 m 808 ls [])) : W p l e room_1 s m #[Value.ref b] below meth c H locs cells slots Q (F0 m 472 ls []) := by
  have hx := F.1.1
  have hb := F.1.2.1
  have hbA : ¬ (fun q : Nat => s.heap.size ≤ q) b := Nat.not_le.mpr hbl
  obtain ⟨n, K, kg, mm, Ln, np, pg, nj, Js, pn, Pe, hn, U, tr, kk, km, kp, kh, rd, hC, hM, hF, hlen, hrd, hkP⟩ := hI
  have hK := hC.2.2.2.2.2.2.2.2.2.2.2
  have o1 := hK.1
  have hCo := hC.1
  have hh6 := hM.2.2.1.2.2.2
  have h10 := hM.2.2.1.2.1
  obtain ⟨⟨rm, sa, sd, hs, hMo⟩, -⟩ := id hM
  refine lv_aload_n hx hb dL_law_472 rfl (lv_at hl 1 rfl) ?_
  refine lv_aload_n hx hb dL_law_473 rfl (lv_at hl 0 rfl) ?_
  refine lv_iload_n hx hb dL_law_474 rfl (lv_at hl 3 rfl) ?_
  refine lv_iconst (v := nI 1) hx hb dL_law_475 (by decide +kernel) ?_
  refine lv_iadd hx hb dL_law_476 ?_
  refine va_sld hx hb hX hbl hbA hS i1 dL_law_477 ?_
  refine lv_aload_n hx hb dL_law_478 rfl (lv_at hl 0 rfl) ?_
  refine lv_iload_n hx hb dL_law_479 rfl (lv_at hl 3 rfl) ?_
  refine lv_iconst (v := nI 2) hx hb dL_law_480 (by decide +kernel) ?_
  refine lv_iadd hx hb dL_law_481 ?_
  refine va_sld hx hb hX hbl hbA hS i2 dL_law_482 ?_
  refine L_gV (as := [.int (xs (x3 + nI 1).toNatClampNeg), .int (xs (x3 + nI 2).toNatClampNeg)]) (rest := []) (k := 0) F dL_law_483 kL_67 (p_lets l G ad ws n K kg mm Ln np pg nj Js pn Pe hn U tr kk km kp kh rd hC hkP  (xs (x3 + nI 1).toNatClampNeg) (xs (x3 + nI 2).toNatClampNeg)) hCo rfl rfl (Nat.le_of_ble_eq_true rfl) ⟨⟨(Nat.le_of_ble_eq_true rfl), (Nat.le_of_ble_eq_true rfl)⟩, show cells + 0 ≤ 600000 by omega, show slots + 0 ≤ 7302250 by omega⟩ hl.1 hP hD hS (fun ad1 v1 wa H1 locs1 hp hP1 hD1 hS1 => ?_)
  obtain ⟨e1, r1, e2, hr1, hq1⟩ := hp
  obtain rfl := e1.symm
  obtain rfl := e2
  obtain rfl := hq1.symm
  have hS := hS1
  refine lv_aload_n hx hb dL_law_486 rfl (lv_at hl 2 rfl) ?_
  refine lv_aload_n hx hb dL_law_487 rfl (lv_at hl 0 rfl) ?_
  refine lv_iload_n hx hb dL_law_488 rfl (lv_at hl 3 rfl) ?_
  refine lv_iconst (v := nI 1) hx hb dL_law_489 (by decide +kernel) ?_
  refine lv_iadd hx hb dL_law_490 ?_
  refine va_sld hx hb hX hbl hbA hS i1 dL_law_491 ?_
  refine lv_aload_n hx hb dL_law_492 rfl (lv_at hl 0 rfl) ?_
  refine lv_iload_n hx hb dL_law_493 rfl (lv_at hl 3 rfl) ?_
  refine lv_iconst (v := nI 2) hx hb dL_law_494 (by decide +kernel) ?_
  refine lv_iadd hx hb dL_law_495 ?_
  refine va_sld hx hb hX hbl hbA hS i2 dL_law_496 ?_
  refine L_gV (as := [.int (xs (x3 + nI 1).toNatClampNeg), .int (xs (x3 + nI 2).toNatClampNeg)]) (rest := [.int r1]) (k := 29) F dL_law_497 kL_70 (q_lets l G ad ws n K kg mm Ln np pg nj Js pn Pe hn U tr kk km kp kh rd hM hK  (xs (x3 + nI 1).toNatClampNeg) (xs (x3 + nI 2).toNatClampNeg)) hMo rfl rfl (Nat.le_of_ble_eq_true rfl) ⟨⟨(Nat.le_of_ble_eq_true rfl), (Nat.le_of_ble_eq_true rfl)⟩, show cells + 0 ≤ 600000 by omega, show slots + 0 ≤ 7302250 by omega⟩ hl.1 hP1 hD1 hS1 (fun ad2 v2 wb H2 locs2 hp hP2 hD2 hS2 => ?_)
  obtain ⟨e1, r2, e2, hr2, hq2⟩ := hp
  obtain rfl := e1.symm
  obtain rfl := e2
  obtain rfl := hq2.symm
  refine lv_icmp_eq (tgt := 808) hx hb dL_law_500 (by decide) (fun _ => ?_) (fun hne => absurd (hr1.trans hr2.symm) hne)
  · skip
    exact nxt ad ws _ _ _ ⟨n, K, kg, mm, Ln, np, pg, nj, Js, pn, Pe, hn, U, tr, kk, km, kp, kh, rd, hC, hM, hF, hlen, by omega, hkP⟩ rfl rfl hP2 hD2 hS2 (by omega)
set_option maxHeartbeats 1000000 in
theorem law_13 {p : Program} {l : Launch} {e : Env} {s : State} {m : MethodId} {b L : Nat} {xs : Nat → Int32} {below : List Frame} {meth : Method} {c : Code} {Q : State → Prop} {G : GX} {ad : Nat → Nat} {ws : List CE} {H : Heap} {locs : List Loc} {ls : Array Slot} {cells slots n9 : Nat} {x3 : Int32} (F : LF p s m b c G (fun q : Nat => s.heap.size ≤ q)) (hX : va_X b L xs s s.heap) (hbl : b < s.heap.size) (hl : lv_has ls 4 [(0, .ref b), (1, .ref (ad 0)), (2, .ref (ad 29)), (3, .int x3)]) (hI : LI G ad ws (n9 + 1)) (hP : va_P G.1 vwCl (cw G ad ws) H) (hD : va_D (fun q : Nat => s.heap.size ≤ q) (cw G ad ws)) (hS : va_S (fun q : Nat => s.heap.size ≤ q) s.heap H locs) (hcl : cells + 1 ≤ 2000) (hsl : slots ≤ 60000) (i1 : vp_in (x3 + nI 1) L) (i2 : vp_in (x3 + nI 2) L) (i3 : vp_in (x3 + nI 3) L) (nxt : ∀ (ad2 : Nat → Nat) (w2 : List CE) (H1 : Heap) (locs1 : List Loc) (cells2 : Nat), LI G ad2 w2 n9 → ad2 0 = ad 0 → ad2 29 = ad 29 → va_P G.1 vwCl (cw G ad2 w2) H1 → va_D (fun q : Nat => s.heap.size ≤ q) (cw G ad2 w2) → va_S (fun q : Nat => s.heap.size ≤ q) s.heap H1 locs1 → cells2 ≤ cells + 1 → W p l e room_1 s m #[Value.ref b] below meth c H1 locs1 cells2 slots Q (F0 m 808 ls [])) : W p l e room_1 s m #[Value.ref b] below meth c H locs cells slots Q (F0 m 505 ls []) := by
  have hx := F.1.1
  have hb := F.1.2.1
  have hbA : ¬ (fun q : Nat => s.heap.size ≤ q) b := Nat.not_le.mpr hbl
  obtain ⟨n, K, kg, mm, Ln, np, pg, nj, Js, pn, Pe, hn, U, tr, kk, km, kp, kh, rd, hC, hM, hF, hlen, hrd, hkP⟩ := hI
  have hK := hC.2.2.2.2.2.2.2.2.2.2.2
  have o1 := hK.1
  have hCo := hC.1
  have hh6 := hM.2.2.1.2.2.2
  have h10 := hM.2.2.1.2.1
  obtain ⟨⟨rm, sa, sd, hs, hMo⟩, -⟩ := id hM
  refine lv_aload_n hx hb dL_law_505 rfl (lv_at hl 1 rfl) ?_
  refine L_gV (as := []) (rest := []) (k := 0) F dL_law_506 kL_71 (p_strict l G ad ws n K kg mm Ln np pg nj Js pn Pe hn U tr kk km kp kh rd hC hkP (fun j _ => pass_lt o1 _ _ _ _) ) hCo rfl rfl (Nat.le_of_ble_eq_true rfl) ⟨⟨(Nat.le_of_ble_eq_true rfl), (Nat.le_of_ble_eq_true rfl)⟩, show cells + 0 ≤ 600000 by omega, show slots + 0 ≤ 7302250 by omega⟩ hl.1 hP hD hS (fun ad1 v1 wa H1 locs1 hp hP1 hD1 hS1 => ?_)
  obtain ⟨e1, r1, e2, hr1, hq1⟩ := hp
  obtain rfl := e1.symm
  obtain rfl := e2
  obtain ⟨hCa, hf1⟩ := hq1
  have hMa := hM.near hf1 (by decide)
  have hFa := hF.fr hf1 (by decide)
  have hla : wa.length = 47 + n := hf1.1.trans hlen
  obtain ⟨⟨rm1, sa1, sd1, hs1, hMo1⟩, -⟩ := id hMa
  have hS := hS1
  refine lv_aload_n hx hb dL_law_509 rfl (lv_at hl 2 rfl) ?_
  refine L_gV (as := []) (rest := [.int r1]) (k := 29) F dL_law_510 kL_74 (q_strict l G ad wa n K kg mm Ln np pg nj Js pn Pe hn U tr kk km kp kh rd hMa hK  ) hMo1 rfl rfl (Nat.le_of_ble_eq_true rfl) ⟨⟨(Nat.le_of_ble_eq_true rfl), (Nat.le_of_ble_eq_true rfl)⟩, show cells + 0 ≤ 600000 by omega, show slots + 0 ≤ 7302250 by omega⟩ hl.1 hP1 hD1 hS1 (fun ad2 v2 wb H2 locs2 hp hP2 hD2 hS2 => ?_)
  obtain ⟨e1, r2, e2, hr2, hq2⟩ := hp
  obtain rfl := e1.symm
  obtain rfl := e2
  obtain rfl := hq2.symm
  refine lv_icmp_eq (tgt := 808) hx hb dL_law_513 (by decide) (fun _ => ?_) (fun hne => absurd (by rw [hr1, hr2, strict_one o1]) hne)
  · skip
    exact nxt ad wa _ _ _ ⟨n, K, kg, mm, Ln, np, pg, nj, Js, pn, Pe, hn, U, tr, kk, km, kp, kh, rd, hCa, hMa, hFa, hla, by omega, hkP⟩ rfl rfl hP2 hD2 hS2 (by omega)
set_option maxHeartbeats 1000000 in
theorem law_14 {p : Program} {l : Launch} {e : Env} {s : State} {m : MethodId} {b L : Nat} {xs : Nat → Int32} {below : List Frame} {meth : Method} {c : Code} {Q : State → Prop} {G : GX} {ad : Nat → Nat} {ws : List CE} {H : Heap} {locs : List Loc} {ls : Array Slot} {cells slots n9 : Nat} {x3 : Int32} (F : LF p s m b c G (fun q : Nat => s.heap.size ≤ q)) (hX : va_X b L xs s s.heap) (hbl : b < s.heap.size) (hl : lv_has ls 4 [(0, .ref b), (1, .ref (ad 0)), (2, .ref (ad 29)), (3, .int x3)]) (hI : LI G ad ws (n9 + 1)) (hP : va_P G.1 vwCl (cw G ad ws) H) (hD : va_D (fun q : Nat => s.heap.size ≤ q) (cw G ad ws)) (hS : va_S (fun q : Nat => s.heap.size ≤ q) s.heap H locs) (hcl : cells + 1 ≤ 2000) (hsl : slots ≤ 60000) (i1 : vp_in (x3 + nI 1) L) (i2 : vp_in (x3 + nI 2) L) (i3 : vp_in (x3 + nI 3) L) (nxt : ∀ (ad2 : Nat → Nat) (w2 : List CE) (H1 : Heap) (locs1 : List Loc) (cells2 : Nat), LI G ad2 w2 n9 → ad2 0 = ad 0 → ad2 29 = ad 29 → va_P G.1 vwCl (cw G ad2 w2) H1 → va_D (fun q : Nat => s.heap.size ≤ q) (cw G ad2 w2) → va_S (fun q : Nat => s.heap.size ≤ q) s.heap H1 locs1 → cells2 ≤ cells + 1 → W p l e room_1 s m #[Value.ref b] below meth c H1 locs1 cells2 slots Q (F0 m 808 ls [])) : W p l e room_1 s m #[Value.ref b] below meth c H locs cells slots Q (F0 m 518 ls []) := by
  have hx := F.1.1
  have hb := F.1.2.1
  have hbA : ¬ (fun q : Nat => s.heap.size ≤ q) b := Nat.not_le.mpr hbl
  obtain ⟨n, K, kg, mm, Ln, np, pg, nj, Js, pn, Pe, hn, U, tr, kk, km, kp, kh, rd, hC, hM, hF, hlen, hrd, hkP⟩ := hI
  have hK := hC.2.2.2.2.2.2.2.2.2.2.2
  have o1 := hK.1
  have hCo := hC.1
  have hh6 := hM.2.2.1.2.2.2
  have h10 := hM.2.2.1.2.1
  obtain ⟨⟨rm, sa, sd, hs, hMo⟩, -⟩ := id hM
  refine lv_aload_n hx hb dL_law_518 rfl (lv_at hl 1 rfl) ?_
  refine lv_aload_n hx hb dL_law_519 rfl (lv_at hl 0 rfl) ?_
  refine lv_iload_n hx hb dL_law_520 rfl (lv_at hl 3 rfl) ?_
  refine lv_iconst (v := nI 1) hx hb dL_law_521 (by decide +kernel) ?_
  refine lv_iadd hx hb dL_law_522 ?_
  refine va_sld hx hb hX hbl hbA hS i1 dL_law_523 ?_
  refine lv_aload_n hx hb dL_law_524 rfl (lv_at hl 0 rfl) ?_
  refine lv_iload_n hx hb dL_law_525 rfl (lv_at hl 3 rfl) ?_
  refine lv_iconst (v := nI 2) hx hb dL_law_526 (by decide +kernel) ?_
  refine lv_iadd hx hb dL_law_527 ?_
  refine va_sld hx hb hX hbl hbA hS i2 dL_law_528 ?_
  refine L_gV (as := [.int (xs (x3 + nI 1).toNatClampNeg), .int (xs (x3 + nI 2).toNatClampNeg)]) (rest := []) (k := 0) F dL_law_529 kL_75 (p_slips l G ad ws n K kg mm Ln np pg nj Js pn Pe hn U tr kk km kp kh rd hC hkP (by omega) (xs (x3 + nI 1).toNatClampNeg) (xs (x3 + nI 2).toNatClampNeg)) hCo rfl rfl (Nat.le_of_ble_eq_true rfl) ⟨⟨(Nat.le_of_ble_eq_true rfl), (Nat.le_of_ble_eq_true rfl)⟩, show cells + 0 ≤ 600000 by omega, show slots + 0 ≤ 7302250 by omega⟩ hl.1 hP hD hS (fun ad1 v1 wa H1 locs1 hp hP1 hD1 hS1 => ?_)
  obtain ⟨e1, r1, e2, hr1, hq1⟩ := hp
  obtain rfl := e1.symm
  obtain rfl := e2
  obtain ⟨hCa, hf1⟩ := hq1
  have hMa := hM.near hf1 (by decide)
  have hFa := hF.fr hf1 (by decide)
  have hla : wa.length = 47 + n := hf1.1.trans hlen
  obtain ⟨⟨rm1, sa1, sd1, hs1, hMo1⟩, -⟩ := id hMa
  have hS := hS1
  refine lv_aload_n hx hb dL_law_532 rfl (lv_at hl 2 rfl) ?_
  refine lv_aload_n hx hb dL_law_533 rfl (lv_at hl 0 rfl) ?_
  refine lv_iload_n hx hb dL_law_534 rfl (lv_at hl 3 rfl) ?_
  refine lv_iconst (v := nI 1) hx hb dL_law_535 (by decide +kernel) ?_
  refine lv_iadd hx hb dL_law_536 ?_
  refine va_sld hx hb hX hbl hbA hS i1 dL_law_537 ?_
  refine lv_aload_n hx hb dL_law_538 rfl (lv_at hl 0 rfl) ?_
  refine lv_iload_n hx hb dL_law_539 rfl (lv_at hl 3 rfl) ?_
  refine lv_iconst (v := nI 2) hx hb dL_law_540 (by decide +kernel) ?_
  refine lv_iadd hx hb dL_law_541 ?_
  refine va_sld hx hb hX hbl hbA hS i2 dL_law_542 ?_
  refine L_gV (as := [.int (xs (x3 + nI 1).toNatClampNeg), .int (xs (x3 + nI 2).toNatClampNeg)]) (rest := [.int r1]) (k := 29) F dL_law_543 kL_78 (q_slips l G ad wa n K kg mm Ln np pg nj Js pn Pe hn U tr kk km kp kh rd hMa hK  (xs (x3 + nI 1).toNatClampNeg) (xs (x3 + nI 2).toNatClampNeg)) hMo1 rfl rfl (Nat.le_of_ble_eq_true rfl) ⟨⟨(Nat.le_of_ble_eq_true rfl), (Nat.le_of_ble_eq_true rfl)⟩, show cells + 0 ≤ 600000 by omega, show slots + 0 ≤ 7302250 by omega⟩ hl.1 hP1 hD1 hS1 (fun ad2 v2 wb H2 locs2 hp hP2 hD2 hS2 => ?_)
  obtain ⟨e1, r2, e2, hr2, hq2⟩ := hp
  obtain rfl := e1.symm
  obtain rfl := e2
  obtain ⟨hMb, hf2⟩ := hq2
  refine lv_icmp_eq (tgt := 808) hx hb dL_law_546 (by decide) (fun _ => ?_) (fun hne => absurd (by rw [hr1, hr2, slp_one o1]) hne)
  · skip
    have hCb := RC.far hCa hf2 (by decide)
    have hFb := hFa.fr hf2 (by decide)
    have hlb := hf2.1.trans hla
    exact nxt ad wb _ _ _ ⟨n, K, kg, mm, Ln, np, pg, nj, Js, pn, Pe, hn, U, tr, kk, km, kp, kh, (rd + 20), hCb, hMb, hFb, hlb, by omega, hkP⟩ rfl rfl hP2 hD2 hS2 (by omega)
set_option maxHeartbeats 1000000 in
theorem law_16 {p : Program} {l : Launch} {e : Env} {s : State} {m : MethodId} {b L : Nat} {xs : Nat → Int32} {below : List Frame} {meth : Method} {c : Code} {Q : State → Prop} {G : GX} {ad : Nat → Nat} {ws : List CE} {H : Heap} {locs : List Loc} {ls : Array Slot} {cells slots n9 : Nat} {x3 : Int32} (F : LF p s m b c G (fun q : Nat => s.heap.size ≤ q)) (hX : va_X b L xs s s.heap) (hbl : b < s.heap.size) (hl : lv_has ls 4 [(0, .ref b), (1, .ref (ad 0)), (2, .ref (ad 29)), (3, .int x3)]) (hI : LI G ad ws (n9 + 1)) (hP : va_P G.1 vwCl (cw G ad ws) H) (hD : va_D (fun q : Nat => s.heap.size ≤ q) (cw G ad ws)) (hS : va_S (fun q : Nat => s.heap.size ≤ q) s.heap H locs) (hcl : cells + 1 ≤ 2000) (hsl : slots ≤ 60000) (i1 : vp_in (x3 + nI 1) L) (i2 : vp_in (x3 + nI 2) L) (i3 : vp_in (x3 + nI 3) L) (nxt : ∀ (ad2 : Nat → Nat) (w2 : List CE) (H1 : Heap) (locs1 : List Loc) (cells2 : Nat), LI G ad2 w2 n9 → ad2 0 = ad 0 → ad2 29 = ad 29 → va_P G.1 vwCl (cw G ad2 w2) H1 → va_D (fun q : Nat => s.heap.size ≤ q) (cw G ad2 w2) → va_S (fun q : Nat => s.heap.size ≤ q) s.heap H1 locs1 → cells2 ≤ cells + 1 → W p l e room_1 s m #[Value.ref b] below meth c H1 locs1 cells2 slots Q (F0 m 808 ls [])) : W p l e room_1 s m #[Value.ref b] below meth c H locs cells slots Q (F0 m 574 ls []) := by
  have hx := F.1.1
  have hb := F.1.2.1
  have hbA : ¬ (fun q : Nat => s.heap.size ≤ q) b := Nat.not_le.mpr hbl
  obtain ⟨n, K, kg, mm, Ln, np, pg, nj, Js, pn, Pe, hn, U, tr, kk, km, kp, kh, rd, hC, hM, hF, hlen, hrd, hkP⟩ := hI
  have hK := hC.2.2.2.2.2.2.2.2.2.2.2
  have o1 := hK.1
  have hCo := hC.1
  have hh6 := hM.2.2.1.2.2.2
  have h10 := hM.2.2.1.2.1
  obtain ⟨⟨rm, sa, sd, hs, hMo⟩, -⟩ := id hM
  refine lv_aload_n hx hb dL_law_574 rfl (lv_at hl 1 rfl) ?_
  refine lv_aload_n hx hb dL_law_575 rfl (lv_at hl 0 rfl) ?_
  refine lv_iload_n hx hb dL_law_576 rfl (lv_at hl 3 rfl) ?_
  refine lv_iconst (v := nI 1) hx hb dL_law_577 (by decide +kernel) ?_
  refine lv_iadd hx hb dL_law_578 ?_
  refine va_sld hx hb hX hbl hbA hS i1 dL_law_579 ?_
  refine lv_aload_n hx hb dL_law_580 rfl (lv_at hl 0 rfl) ?_
  refine lv_iload_n hx hb dL_law_581 rfl (lv_at hl 3 rfl) ?_
  refine lv_iconst (v := nI 2) hx hb dL_law_582 (by decide +kernel) ?_
  refine lv_iadd hx hb dL_law_583 ?_
  refine va_sld hx hb hX hbl hbA hS i2 dL_law_584 ?_
  refine lv_aload_n hx hb dL_law_585 rfl (lv_at hl 0 rfl) ?_
  refine lv_iload_n hx hb dL_law_586 rfl (lv_at hl 3 rfl) ?_
  refine lv_iconst (v := nI 3) hx hb dL_law_587 (by decide +kernel) ?_
  refine lv_iadd hx hb dL_law_588 ?_
  refine va_sld hx hb hX hbl hbA hS i3 dL_law_589 ?_
  refine L_gV (as := [.int (xs (x3 + nI 1).toNatClampNeg), .int (xs (x3 + nI 2).toNatClampNeg), .int (xs (x3 + nI 3).toNatClampNeg)]) (rest := []) (k := 0) F dL_law_590 kL_83 (p_copies l G ad ws n K kg mm Ln np pg nj Js pn Pe hn U tr kk km kp kh rd hC hkP  (xs (x3 + nI 1).toNatClampNeg) (xs (x3 + nI 2).toNatClampNeg) (xs (x3 + nI 3).toNatClampNeg)) hCo rfl rfl (Nat.le_of_ble_eq_true rfl) ⟨⟨(Nat.le_of_ble_eq_true rfl), (Nat.le_of_ble_eq_true rfl)⟩, show cells + 0 ≤ 600000 by omega, show slots + 0 ≤ 7302250 by omega⟩ hl.1 hP hD hS (fun ad1 v1 wa H1 locs1 hp hP1 hD1 hS1 => ?_)
  obtain ⟨e1, r1, e2, hr1, hq1⟩ := hp
  obtain rfl := e1.symm
  obtain rfl := e2
  obtain rfl := hq1.symm
  have hS := hS1
  refine lv_aload_n hx hb dL_law_593 rfl (lv_at hl 2 rfl) ?_
  refine lv_aload_n hx hb dL_law_594 rfl (lv_at hl 0 rfl) ?_
  refine lv_iload_n hx hb dL_law_595 rfl (lv_at hl 3 rfl) ?_
  refine lv_iconst (v := nI 1) hx hb dL_law_596 (by decide +kernel) ?_
  refine lv_iadd hx hb dL_law_597 ?_
  refine va_sld hx hb hX hbl hbA hS i1 dL_law_598 ?_
  refine lv_aload_n hx hb dL_law_599 rfl (lv_at hl 0 rfl) ?_
  refine lv_iload_n hx hb dL_law_600 rfl (lv_at hl 3 rfl) ?_
  refine lv_iconst (v := nI 2) hx hb dL_law_601 (by decide +kernel) ?_
  refine lv_iadd hx hb dL_law_602 ?_
  refine va_sld hx hb hX hbl hbA hS i2 dL_law_603 ?_
  refine lv_aload_n hx hb dL_law_604 rfl (lv_at hl 0 rfl) ?_
  refine lv_iload_n hx hb dL_law_605 rfl (lv_at hl 3 rfl) ?_
  refine lv_iconst (v := nI 3) hx hb dL_law_606 (by decide +kernel) ?_
  refine lv_iadd hx hb dL_law_607 ?_
  refine va_sld hx hb hX hbl hbA hS i3 dL_law_608 ?_
  refine L_gV (as := [.int (xs (x3 + nI 1).toNatClampNeg), .int (xs (x3 + nI 2).toNatClampNeg), .int (xs (x3 + nI 3).toNatClampNeg)]) (rest := [.int r1]) (k := 29) F dL_law_609 kL_87 (q_copies l G ad ws n K kg mm Ln np pg nj Js pn Pe hn U tr kk km kp kh rd hM hK  (xs (x3 + nI 1).toNatClampNeg) (xs (x3 + nI 2).toNatClampNeg) (xs (x3 + nI 3).toNatClampNeg)) hMo rfl rfl (Nat.le_of_ble_eq_true rfl) ⟨⟨(Nat.le_of_ble_eq_true rfl), (Nat.le_of_ble_eq_true rfl)⟩, show cells + 0 ≤ 600000 by omega, show slots + 0 ≤ 7302250 by omega⟩ hl.1 hP1 hD1 hS1 (fun ad2 v2 wb H2 locs2 hp hP2 hD2 hS2 => ?_)
  obtain ⟨e1, r2, e2, hr2, hq2⟩ := hp
  obtain rfl := e1.symm
  obtain rfl := e2
  obtain ⟨hMb, hf2⟩ := hq2
  refine lv_icmp_eq (tgt := 808) hx hb dL_law_612 (by decide) (fun _ => ?_) (fun hne => absurd (hr1.trans hr2.symm) hne)
  · skip
    have hCb := RC.far hC hf2 (by decide)
    have hFb := hF.fr hf2 (by decide)
    have hlb := hf2.1.trans hlen
    exact nxt ad wb _ _ _ ⟨n, K, kg, mm, Ln, np, pg, nj, Js, pn, Pe, hn, U, tr, kk, km, kp, kh, rd, hCb, hMb, hFb, hlb, by omega, hkP⟩ rfl rfl hP2 hD2 hS2 (by omega)
set_option maxHeartbeats 1000000 in
theorem law_17 {p : Program} {l : Launch} {e : Env} {s : State} {m : MethodId} {b L : Nat} {xs : Nat → Int32} {below : List Frame} {meth : Method} {c : Code} {Q : State → Prop} {G : GX} {ad : Nat → Nat} {ws : List CE} {H : Heap} {locs : List Loc} {ls : Array Slot} {cells slots n9 : Nat} {x3 : Int32} (F : LF p s m b c G (fun q : Nat => s.heap.size ≤ q)) (hX : va_X b L xs s s.heap) (hbl : b < s.heap.size) (hl : lv_has ls 4 [(0, .ref b), (1, .ref (ad 0)), (2, .ref (ad 29)), (3, .int x3)]) (hI : LI G ad ws (n9 + 1)) (hP : va_P G.1 vwCl (cw G ad ws) H) (hD : va_D (fun q : Nat => s.heap.size ≤ q) (cw G ad ws)) (hS : va_S (fun q : Nat => s.heap.size ≤ q) s.heap H locs) (hcl : cells + 1 ≤ 2000) (hsl : slots ≤ 60000) (i1 : vp_in (x3 + nI 1) L) (i2 : vp_in (x3 + nI 2) L) (i3 : vp_in (x3 + nI 3) L) (nxt : ∀ (ad2 : Nat → Nat) (w2 : List CE) (H1 : Heap) (locs1 : List Loc) (cells2 : Nat), LI G ad2 w2 n9 → ad2 0 = ad 0 → ad2 29 = ad 29 → va_P G.1 vwCl (cw G ad2 w2) H1 → va_D (fun q : Nat => s.heap.size ≤ q) (cw G ad2 w2) → va_S (fun q : Nat => s.heap.size ≤ q) s.heap H1 locs1 → cells2 ≤ cells + 1 → W p l e room_1 s m #[Value.ref b] below meth c H1 locs1 cells2 slots Q (F0 m 808 ls [])) : W p l e room_1 s m #[Value.ref b] below meth c H locs cells slots Q (F0 m 617 ls []) := by
  have hx := F.1.1
  have hb := F.1.2.1
  have hbA : ¬ (fun q : Nat => s.heap.size ≤ q) b := Nat.not_le.mpr hbl
  obtain ⟨n, K, kg, mm, Ln, np, pg, nj, Js, pn, Pe, hn, U, tr, kk, km, kp, kh, rd, hC, hM, hF, hlen, hrd, hkP⟩ := hI
  have hK := hC.2.2.2.2.2.2.2.2.2.2.2
  have o1 := hK.1
  have hCo := hC.1
  have hh6 := hM.2.2.1.2.2.2
  have h10 := hM.2.2.1.2.1
  obtain ⟨⟨rm, sa, sd, hs, hMo⟩, -⟩ := id hM
  refine lv_aload_n hx hb dL_law_617 rfl (lv_at hl 1 rfl) ?_
  refine lv_aload_n hx hb dL_law_618 rfl (lv_at hl 0 rfl) ?_
  refine lv_iload_n hx hb dL_law_619 rfl (lv_at hl 3 rfl) ?_
  refine lv_iconst (v := nI 1) hx hb dL_law_620 (by decide +kernel) ?_
  refine lv_iadd hx hb dL_law_621 ?_
  refine va_sld hx hb hX hbl hbA hS i1 dL_law_622 ?_
  refine L_gV (as := [.int (xs (x3 + nI 1).toNatClampNeg)]) (rest := []) (k := 0) F dL_law_623 kL_88 (p_back l G ad ws n K kg mm Ln np pg nj Js pn Pe hn U tr kk km kp kh rd hC hkP  (xs (x3 + nI 1).toNatClampNeg)) hCo rfl rfl (Nat.le_of_ble_eq_true rfl) ⟨⟨(Nat.le_of_ble_eq_true rfl), (Nat.le_of_ble_eq_true rfl)⟩, show cells + 0 ≤ 600000 by omega, show slots + 0 ≤ 7302250 by omega⟩ hl.1 hP hD hS (fun ad1 v1 wa H1 locs1 hp hP1 hD1 hS1 => ?_)
  obtain ⟨e1, r1, e2, hr1, hq1⟩ := hp
  obtain rfl := e1.symm
  obtain rfl := e2
  obtain rfl := hq1.symm
  have hS := hS1
  refine lv_aload_n hx hb dL_law_626 rfl (lv_at hl 2 rfl) ?_
  refine lv_aload_n hx hb dL_law_627 rfl (lv_at hl 0 rfl) ?_
  refine lv_iload_n hx hb dL_law_628 rfl (lv_at hl 3 rfl) ?_
  refine lv_iconst (v := nI 1) hx hb dL_law_629 (by decide +kernel) ?_
  refine lv_iadd hx hb dL_law_630 ?_
  refine va_sld hx hb hX hbl hbA hS i1 dL_law_631 ?_
  refine L_gV (as := [.int (xs (x3 + nI 1).toNatClampNeg)]) (rest := [.int r1]) (k := 29) F dL_law_632 kL_91 (q_back l G ad ws n K kg mm Ln np pg nj Js pn Pe hn U tr kk km kp kh rd hM hK  (xs (x3 + nI 1).toNatClampNeg)) hMo rfl rfl (Nat.le_of_ble_eq_true rfl) ⟨⟨(Nat.le_of_ble_eq_true rfl), (Nat.le_of_ble_eq_true rfl)⟩, show cells + 0 ≤ 600000 by omega, show slots + 0 ≤ 7302250 by omega⟩ hl.1 hP1 hD1 hS1 (fun ad2 v2 wb H2 locs2 hp hP2 hD2 hS2 => ?_)
  obtain ⟨e1, r2, e2, hr2, hq2⟩ := hp
  obtain rfl := e1.symm
  obtain rfl := e2
  obtain rfl := hq2.symm
  refine lv_icmp_eq (tgt := 808) hx hb dL_law_635 (by decide) (fun _ => ?_) (fun hne => absurd (hr1.trans hr2.symm) hne)
  · skip
    exact nxt ad ws _ _ _ ⟨n, K, kg, mm, Ln, np, pg, nj, Js, pn, Pe, hn, U, tr, kk, km, kp, kh, rd, hC, hM, hF, hlen, by omega, hkP⟩ rfl rfl hP2 hD2 hS2 (by omega)
set_option maxHeartbeats 1000000 in
theorem law_18 {p : Program} {l : Launch} {e : Env} {s : State} {m : MethodId} {b L : Nat} {xs : Nat → Int32} {below : List Frame} {meth : Method} {c : Code} {Q : State → Prop} {G : GX} {ad : Nat → Nat} {ws : List CE} {H : Heap} {locs : List Loc} {ls : Array Slot} {cells slots n9 : Nat} {x3 : Int32} (F : LF p s m b c G (fun q : Nat => s.heap.size ≤ q)) (hX : va_X b L xs s s.heap) (hbl : b < s.heap.size) (hl : lv_has ls 4 [(0, .ref b), (1, .ref (ad 0)), (2, .ref (ad 29)), (3, .int x3)]) (hI : LI G ad ws (n9 + 1)) (hP : va_P G.1 vwCl (cw G ad ws) H) (hD : va_D (fun q : Nat => s.heap.size ≤ q) (cw G ad ws)) (hS : va_S (fun q : Nat => s.heap.size ≤ q) s.heap H locs) (hcl : cells + 1 ≤ 2000) (hsl : slots ≤ 60000) (i1 : vp_in (x3 + nI 1) L) (i2 : vp_in (x3 + nI 2) L) (i3 : vp_in (x3 + nI 3) L) (nxt : ∀ (ad2 : Nat → Nat) (w2 : List CE) (H1 : Heap) (locs1 : List Loc) (cells2 : Nat), LI G ad2 w2 n9 → ad2 0 = ad 0 → ad2 29 = ad 29 → va_P G.1 vwCl (cw G ad2 w2) H1 → va_D (fun q : Nat => s.heap.size ≤ q) (cw G ad2 w2) → va_S (fun q : Nat => s.heap.size ≤ q) s.heap H1 locs1 → cells2 ≤ cells + 1 → W p l e room_1 s m #[Value.ref b] below meth c H1 locs1 cells2 slots Q (F0 m 808 ls [])) : W p l e room_1 s m #[Value.ref b] below meth c H locs cells slots Q (F0 m 640 ls []) := by
  have hx := F.1.1
  have hb := F.1.2.1
  have hbA : ¬ (fun q : Nat => s.heap.size ≤ q) b := Nat.not_le.mpr hbl
  obtain ⟨n, K, kg, mm, Ln, np, pg, nj, Js, pn, Pe, hn, U, tr, kk, km, kp, kh, rd, hC, hM, hF, hlen, hrd, hkP⟩ := hI
  have hK := hC.2.2.2.2.2.2.2.2.2.2.2
  have o1 := hK.1
  have hCo := hC.1
  have hh6 := hM.2.2.1.2.2.2
  have h10 := hM.2.2.1.2.1
  obtain ⟨⟨rm, sa, sd, hs, hMo⟩, -⟩ := id hM
  refine lv_aload_n hx hb dL_law_640 rfl (lv_at hl 1 rfl) ?_
  refine lv_aload_n hx hb dL_law_641 rfl (lv_at hl 0 rfl) ?_
  refine lv_iload_n hx hb dL_law_642 rfl (lv_at hl 3 rfl) ?_
  refine lv_iconst (v := nI 1) hx hb dL_law_643 (by decide +kernel) ?_
  refine lv_iadd hx hb dL_law_644 ?_
  refine va_sld hx hb hX hbl hbA hS i1 dL_law_645 ?_
  refine L_gV (as := [.int (xs (x3 + nI 1).toNatClampNeg)]) (rest := []) (k := 0) F dL_law_646 kL_92 (p_span l G ad ws n K kg mm Ln np pg nj Js pn Pe hn U tr kk km kp kh rd hC hkP  (xs (x3 + nI 1).toNatClampNeg)) hCo rfl rfl (Nat.le_of_ble_eq_true rfl) ⟨⟨(Nat.le_of_ble_eq_true rfl), (Nat.le_of_ble_eq_true rfl)⟩, show cells + 0 ≤ 600000 by omega, show slots + 0 ≤ 7302250 by omega⟩ hl.1 hP hD hS (fun ad1 v1 wa H1 locs1 hp hP1 hD1 hS1 => ?_)
  obtain ⟨e1, r1, e2, hr1, hq1⟩ := hp
  obtain rfl := e1.symm
  obtain rfl := e2
  obtain ⟨hCa, hf1⟩ := hq1
  have hMa := hM.near hf1 (by decide)
  have hFa := hF.fr hf1 (by decide)
  have hla : wa.length = 47 + n := hf1.1.trans hlen
  obtain ⟨⟨rm1, sa1, sd1, hs1, hMo1⟩, -⟩ := id hMa
  have hS := hS1
  refine lv_aload_n hx hb dL_law_649 rfl (lv_at hl 2 rfl) ?_
  refine lv_aload_n hx hb dL_law_650 rfl (lv_at hl 0 rfl) ?_
  refine lv_iload_n hx hb dL_law_651 rfl (lv_at hl 3 rfl) ?_
  refine lv_iconst (v := nI 1) hx hb dL_law_652 (by decide +kernel) ?_
  refine lv_iadd hx hb dL_law_653 ?_
  refine va_sld hx hb hX hbl hbA hS i1 dL_law_654 ?_
  refine L_gV (as := [.int (xs (x3 + nI 1).toNatClampNeg)]) (rest := [.int r1]) (k := 29) F dL_law_655 kL_95 (q_span l G ad wa n K kg mm Ln np pg nj Js pn Pe hn U tr kk km kp kh rd hMa hK  (xs (x3 + nI 1).toNatClampNeg)) hMo1 rfl rfl (Nat.le_of_ble_eq_true rfl) ⟨⟨(Nat.le_of_ble_eq_true rfl), (Nat.le_of_ble_eq_true rfl)⟩, show cells + 0 ≤ 600000 by omega, show slots + 0 ≤ 7302250 by omega⟩ hl.1 hP1 hD1 hS1 (fun ad2 v2 wb H2 locs2 hp hP2 hD2 hS2 => ?_)
  obtain ⟨e1, r2, e2, hr2, hq2⟩ := hp
  obtain rfl := e1.symm
  obtain rfl := e2
  obtain rfl := hq2.symm
  refine lv_icmp_eq (tgt := 808) hx hb dL_law_658 (by decide) (fun _ => ?_) (fun hne => absurd (by rw [hr1, hr2, span_one o1]) hne)
  · skip
    exact nxt ad wa _ _ _ ⟨n, K, kg, mm, Ln, np, pg, nj, Js, pn, Pe, hn, U, tr, kk, km, kp, kh, rd, hCa, hMa, hFa, hla, by omega, hkP⟩ rfl rfl hP2 hD2 hS2 (by omega)
set_option maxHeartbeats 1000000 in
theorem law_19 {p : Program} {l : Launch} {e : Env} {s : State} {m : MethodId} {b L : Nat} {xs : Nat → Int32} {below : List Frame} {meth : Method} {c : Code} {Q : State → Prop} {G : GX} {ad : Nat → Nat} {ws : List CE} {H : Heap} {locs : List Loc} {ls : Array Slot} {cells slots n9 : Nat} {x3 : Int32} (F : LF p s m b c G (fun q : Nat => s.heap.size ≤ q)) (hX : va_X b L xs s s.heap) (hbl : b < s.heap.size) (hl : lv_has ls 4 [(0, .ref b), (1, .ref (ad 0)), (2, .ref (ad 29)), (3, .int x3)]) (hI : LI G ad ws (n9 + 1)) (hP : va_P G.1 vwCl (cw G ad ws) H) (hD : va_D (fun q : Nat => s.heap.size ≤ q) (cw G ad ws)) (hS : va_S (fun q : Nat => s.heap.size ≤ q) s.heap H locs) (hcl : cells + 1 ≤ 2000) (hsl : slots ≤ 60000) (i1 : vp_in (x3 + nI 1) L) (i2 : vp_in (x3 + nI 2) L) (i3 : vp_in (x3 + nI 3) L) (nxt : ∀ (ad2 : Nat → Nat) (w2 : List CE) (H1 : Heap) (locs1 : List Loc) (cells2 : Nat), LI G ad2 w2 n9 → ad2 0 = ad 0 → ad2 29 = ad 29 → va_P G.1 vwCl (cw G ad2 w2) H1 → va_D (fun q : Nat => s.heap.size ≤ q) (cw G ad2 w2) → va_S (fun q : Nat => s.heap.size ≤ q) s.heap H1 locs1 → cells2 ≤ cells + 1 → W p l e room_1 s m #[Value.ref b] below meth c H1 locs1 cells2 slots Q (F0 m 808 ls [])) : W p l e room_1 s m #[Value.ref b] below meth c H locs cells slots Q (F0 m 663 ls []) := by
  have hx := F.1.1
  have hb := F.1.2.1
  have hbA : ¬ (fun q : Nat => s.heap.size ≤ q) b := Nat.not_le.mpr hbl
  obtain ⟨n, K, kg, mm, Ln, np, pg, nj, Js, pn, Pe, hn, U, tr, kk, km, kp, kh, rd, hC, hM, hF, hlen, hrd, hkP⟩ := hI
  have hK := hC.2.2.2.2.2.2.2.2.2.2.2
  have o1 := hK.1
  have hCo := hC.1
  have hh6 := hM.2.2.1.2.2.2
  have h10 := hM.2.2.1.2.1
  obtain ⟨⟨rm, sa, sd, hs, hMo⟩, -⟩ := id hM
  refine lv_aload_n hx hb dL_law_663 rfl (lv_at hl 1 rfl) ?_
  refine lv_aload_n hx hb dL_law_664 rfl (lv_at hl 0 rfl) ?_
  refine lv_iload_n hx hb dL_law_665 rfl (lv_at hl 3 rfl) ?_
  refine lv_iconst (v := nI 1) hx hb dL_law_666 (by decide +kernel) ?_
  refine lv_iadd hx hb dL_law_667 ?_
  refine va_sld hx hb hX hbl hbA hS i1 dL_law_668 ?_
  refine L_gV (as := [.int (xs (x3 + nI 1).toNatClampNeg)]) (rest := []) (k := 0) F dL_law_669 kL_96 (p_person l G ad ws n K kg mm Ln np pg nj Js pn Pe hn U tr kk km kp kh rd hC hkP  (xs (x3 + nI 1).toNatClampNeg)) hCo rfl rfl (Nat.le_of_ble_eq_true rfl) ⟨⟨(Nat.le_of_ble_eq_true rfl), (Nat.le_of_ble_eq_true rfl)⟩, show cells + 0 ≤ 600000 by omega, show slots + 0 ≤ 7302250 by omega⟩ hl.1 hP hD hS (fun ad1 v1 wa H1 locs1 hp hP1 hD1 hS1 => ?_)
  obtain ⟨e1, r1, e2, hr1, hq1⟩ := hp
  obtain rfl := e1.symm
  obtain rfl := e2
  obtain ⟨hCa, hf1⟩ := hq1
  have hMa := hM.near hf1 (by decide)
  have hFa := hF.fr hf1 (by decide)
  have hla : wa.length = 47 + n := hf1.1.trans hlen
  obtain ⟨⟨rm1, sa1, sd1, hs1, hMo1⟩, -⟩ := id hMa
  have hS := hS1
  refine lv_aload_n hx hb dL_law_672 rfl (lv_at hl 2 rfl) ?_
  refine lv_aload_n hx hb dL_law_673 rfl (lv_at hl 0 rfl) ?_
  refine lv_iload_n hx hb dL_law_674 rfl (lv_at hl 3 rfl) ?_
  refine lv_iconst (v := nI 1) hx hb dL_law_675 (by decide +kernel) ?_
  refine lv_iadd hx hb dL_law_676 ?_
  refine va_sld hx hb hX hbl hbA hS i1 dL_law_677 ?_
  refine L_gV (as := [.int (xs (x3 + nI 1).toNatClampNeg)]) (rest := [.int r1]) (k := 29) F dL_law_678 kL_99 (q_person l G ad wa n K kg mm Ln np pg nj Js pn Pe hn U tr kk km kp kh rd hMa hK  (xs (x3 + nI 1).toNatClampNeg)) hMo1 rfl rfl (Nat.le_of_ble_eq_true rfl) ⟨⟨(Nat.le_of_ble_eq_true rfl), (Nat.le_of_ble_eq_true rfl)⟩, show cells + 0 ≤ 600000 by omega, show slots + 0 ≤ 7302250 by omega⟩ hl.1 hP1 hD1 hS1 (fun ad2 v2 wb H2 locs2 hp hP2 hD2 hS2 => ?_)
  obtain ⟨e1, r2, e2, hr2, hq2⟩ := hp
  obtain rfl := e1.symm
  obtain rfl := e2
  obtain ⟨hMb, hf2⟩ := hq2
  refine lv_icmp_eq (tgt := 808) hx hb dL_law_681 (by decide) (fun _ => ?_) (fun hne => absurd (hr1.trans hr2.symm) hne)
  by_cases hcd : okAdd n mm 6 pn (xs (x3 + nI 1).toNatClampNeg) = true
  · rw [if_pos hcd] at hCa hMb
    have hCb := RC.far hCa hf2 (by decide)
    have hFb := hFa.fr hf2 (by decide)
    have hlb := hf2.1.trans hla
    exact nxt ad wb _ _ _ ⟨n, K, kg, mm, Ln, np, pg, nj, Js, (pn + 1), (updN Pe pn (valI (xs (x3 + nI 1).toNatClampNeg))), hn, U, tr, kk, km, kp, kh, rd, hCb, hMb, hFb, hlb, by omega, hkP⟩ rfl rfl hP2 hD2 hS2 (by omega)
  · rw [if_neg hcd] at hCa hMb
    have hCb := RC.far hCa hf2 (by decide)
    have hFb := hFa.fr hf2 (by decide)
    have hlb := hf2.1.trans hla
    exact nxt ad wb _ _ _ ⟨n, K, kg, mm, Ln, np, pg, nj, Js, pn, Pe, hn, U, tr, kk, km, kp, kh, rd, hCb, hMb, hFb, hlb, by omega, hkP⟩ rfl rfl hP2 hD2 hS2 (by omega)
set_option maxHeartbeats 1000000 in
theorem law_20 {p : Program} {l : Launch} {e : Env} {s : State} {m : MethodId} {b L : Nat} {xs : Nat → Int32} {below : List Frame} {meth : Method} {c : Code} {Q : State → Prop} {G : GX} {ad : Nat → Nat} {ws : List CE} {H : Heap} {locs : List Loc} {ls : Array Slot} {cells slots n9 : Nat} {x3 : Int32} (F : LF p s m b c G (fun q : Nat => s.heap.size ≤ q)) (hX : va_X b L xs s s.heap) (hbl : b < s.heap.size) (hl : lv_has ls 4 [(0, .ref b), (1, .ref (ad 0)), (2, .ref (ad 29)), (3, .int x3)]) (hI : LI G ad ws (n9 + 1)) (hP : va_P G.1 vwCl (cw G ad ws) H) (hD : va_D (fun q : Nat => s.heap.size ≤ q) (cw G ad ws)) (hS : va_S (fun q : Nat => s.heap.size ≤ q) s.heap H locs) (hcl : cells + 1 ≤ 2000) (hsl : slots ≤ 60000) (i1 : vp_in (x3 + nI 1) L) (i2 : vp_in (x3 + nI 2) L) (i3 : vp_in (x3 + nI 3) L) (nxt : ∀ (ad2 : Nat → Nat) (w2 : List CE) (H1 : Heap) (locs1 : List Loc) (cells2 : Nat), LI G ad2 w2 n9 → ad2 0 = ad 0 → ad2 29 = ad 29 → va_P G.1 vwCl (cw G ad2 w2) H1 → va_D (fun q : Nat => s.heap.size ≤ q) (cw G ad2 w2) → va_S (fun q : Nat => s.heap.size ≤ q) s.heap H1 locs1 → cells2 ≤ cells + 1 → W p l e room_1 s m #[Value.ref b] below meth c H1 locs1 cells2 slots Q (F0 m 808 ls [])) : W p l e room_1 s m #[Value.ref b] below meth c H locs cells slots Q (F0 m 686 ls []) := by
  have hx := F.1.1
  have hb := F.1.2.1
  have hbA : ¬ (fun q : Nat => s.heap.size ≤ q) b := Nat.not_le.mpr hbl
  obtain ⟨n, K, kg, mm, Ln, np, pg, nj, Js, pn, Pe, hn, U, tr, kk, km, kp, kh, rd, hC, hM, hF, hlen, hrd, hkP⟩ := hI
  have hK := hC.2.2.2.2.2.2.2.2.2.2.2
  have o1 := hK.1
  have hCo := hC.1
  have hh6 := hM.2.2.1.2.2.2
  have h10 := hM.2.2.1.2.1
  obtain ⟨⟨rm, sa, sd, hs, hMo⟩, -⟩ := id hM
  refine lv_aload_n hx hb dL_law_686 rfl (lv_at hl 1 rfl) ?_
  refine L_gV (as := []) (rest := []) (k := 0) F dL_law_687 kL_100 (p_gate l G ad ws n K kg mm Ln np pg nj Js pn Pe hn U tr kk km kp kh rd hC hkP  ) hCo rfl rfl (Nat.le_of_ble_eq_true rfl) ⟨⟨(Nat.le_of_ble_eq_true rfl), (Nat.le_of_ble_eq_true rfl)⟩, show cells + 0 ≤ 600000 by omega, show slots + 0 ≤ 7302250 by omega⟩ hl.1 hP hD hS (fun ad1 v1 wa H1 locs1 hp hP1 hD1 hS1 => ?_)
  obtain ⟨e1, r1, e2, hr1, hq1⟩ := hp
  obtain rfl := e1.symm
  obtain rfl := e2
  obtain rfl := hq1.symm
  have hS := hS1
  refine lv_aload_n hx hb dL_law_690 rfl (lv_at hl 2 rfl) ?_
  refine L_gV (as := []) (rest := [.int r1]) (k := 29) F dL_law_691 kL_103 (q_gate l G ad ws n K kg mm Ln np pg nj Js pn Pe hn U tr kk km kp kh rd hM hK  ) hMo rfl rfl (Nat.le_of_ble_eq_true rfl) ⟨⟨(Nat.le_of_ble_eq_true rfl), (Nat.le_of_ble_eq_true rfl)⟩, show cells + 0 ≤ 600000 by omega, show slots + 0 ≤ 7302250 by omega⟩ hl.1 hP1 hD1 hS1 (fun ad2 v2 wb H2 locs2 hp hP2 hD2 hS2 => ?_)
  obtain ⟨e1, r2, e2, hr2, hq2⟩ := hp
  obtain rfl := e1.symm
  obtain rfl := e2
  obtain rfl := hq2.symm
  refine lv_icmp_eq (tgt := 808) hx hb dL_law_694 (by decide) (fun _ => ?_) (fun hne => absurd (hr1.trans hr2.symm) hne)
  · skip
    exact nxt ad ws _ _ _ ⟨n, K, kg, mm, Ln, np, pg, nj, Js, pn, Pe, hn, U, tr, kk, km, kp, kh, rd, hC, hM, hF, hlen, by omega, hkP⟩ rfl rfl hP2 hD2 hS2 (by omega)
set_option maxHeartbeats 1000000 in
theorem law_21 {p : Program} {l : Launch} {e : Env} {s : State} {m : MethodId} {b L : Nat} {xs : Nat → Int32} {below : List Frame} {meth : Method} {c : Code} {Q : State → Prop} {G : GX} {ad : Nat → Nat} {ws : List CE} {H : Heap} {locs : List Loc} {ls : Array Slot} {cells slots n9 : Nat} {x3 : Int32} (F : LF p s m b c G (fun q : Nat => s.heap.size ≤ q)) (hX : va_X b L xs s s.heap) (hbl : b < s.heap.size) (hl : lv_has ls 4 [(0, .ref b), (1, .ref (ad 0)), (2, .ref (ad 29)), (3, .int x3)]) (hI : LI G ad ws (n9 + 1)) (hP : va_P G.1 vwCl (cw G ad ws) H) (hD : va_D (fun q : Nat => s.heap.size ≤ q) (cw G ad ws)) (hS : va_S (fun q : Nat => s.heap.size ≤ q) s.heap H locs) (hcl : cells + 1 ≤ 2000) (hsl : slots ≤ 60000) (i1 : vp_in (x3 + nI 1) L) (i2 : vp_in (x3 + nI 2) L) (i3 : vp_in (x3 + nI 3) L) (nxt : ∀ (ad2 : Nat → Nat) (w2 : List CE) (H1 : Heap) (locs1 : List Loc) (cells2 : Nat), LI G ad2 w2 n9 → ad2 0 = ad 0 → ad2 29 = ad 29 → va_P G.1 vwCl (cw G ad2 w2) H1 → va_D (fun q : Nat => s.heap.size ≤ q) (cw G ad2 w2) → va_S (fun q : Nat => s.heap.size ≤ q) s.heap H1 locs1 → cells2 ≤ cells + 1 → W p l e room_1 s m #[Value.ref b] below meth c H1 locs1 cells2 slots Q (F0 m 808 ls [])) : W p l e room_1 s m #[Value.ref b] below meth c H locs cells slots Q (F0 m 699 ls []) := by
  have hx := F.1.1
  have hb := F.1.2.1
  have hbA : ¬ (fun q : Nat => s.heap.size ≤ q) b := Nat.not_le.mpr hbl
  obtain ⟨n, K, kg, mm, Ln, np, pg, nj, Js, pn, Pe, hn, U, tr, kk, km, kp, kh, rd, hC, hM, hF, hlen, hrd, hkP⟩ := hI
  have hK := hC.2.2.2.2.2.2.2.2.2.2.2
  have o1 := hK.1
  have hCo := hC.1
  have hh6 := hM.2.2.1.2.2.2
  have h10 := hM.2.2.1.2.1
  obtain ⟨⟨rm, sa, sd, hs, hMo⟩, -⟩ := id hM
  refine lv_aload_n hx hb dL_law_699 rfl (lv_at hl 1 rfl) ?_
  refine lv_aload_n hx hb dL_law_700 rfl (lv_at hl 0 rfl) ?_
  refine lv_iload_n hx hb dL_law_701 rfl (lv_at hl 3 rfl) ?_
  refine lv_iconst (v := nI 1) hx hb dL_law_702 (by decide +kernel) ?_
  refine lv_iadd hx hb dL_law_703 ?_
  refine va_sld hx hb hX hbl hbA hS i1 dL_law_704 ?_
  refine L_gV (as := [.int (xs (x3 + nI 1).toNatClampNeg)]) (rest := []) (k := 0) F dL_law_705 kL_104 (p_heap l G ad ws n K kg mm Ln np pg nj Js pn Pe hn U tr kk km kp kh rd hC hkP  (xs (x3 + nI 1).toNatClampNeg)) hCo rfl rfl (Nat.le_of_ble_eq_true rfl) ⟨⟨(Nat.le_of_ble_eq_true rfl), (Nat.le_of_ble_eq_true rfl)⟩, show cells + 0 ≤ 600000 by omega, show slots + 0 ≤ 7302250 by omega⟩ hl.1 hP hD hS (fun ad1 v1 wa H1 locs1 hp hP1 hD1 hS1 => ?_)
  obtain ⟨e1, r1, e2, hr1, hq1⟩ := hp
  obtain rfl := e1.symm
  obtain rfl := e2
  obtain ⟨hCa, hf1⟩ := hq1
  have hMa := hM.near hf1 (by decide)
  have hFa := hF.fr hf1 (by decide)
  have hla : wa.length = 47 + n := hf1.1.trans hlen
  obtain ⟨⟨rm1, sa1, sd1, hs1, hMo1⟩, -⟩ := id hMa
  have hS := hS1
  refine lv_aload_n hx hb dL_law_708 rfl (lv_at hl 2 rfl) ?_
  refine lv_aload_n hx hb dL_law_709 rfl (lv_at hl 0 rfl) ?_
  refine lv_iload_n hx hb dL_law_710 rfl (lv_at hl 3 rfl) ?_
  refine lv_iconst (v := nI 1) hx hb dL_law_711 (by decide +kernel) ?_
  refine lv_iadd hx hb dL_law_712 ?_
  refine va_sld hx hb hX hbl hbA hS i1 dL_law_713 ?_
  refine L_gV (as := [.int (xs (x3 + nI 1).toNatClampNeg)]) (rest := [.int r1]) (k := 29) F dL_law_714 kL_107 (q_heap l G ad wa n K kg mm Ln np pg nj Js pn Pe hn U tr kk km kp kh rd hMa hK  (xs (x3 + nI 1).toNatClampNeg)) hMo1 rfl rfl (Nat.le_of_ble_eq_true rfl) ⟨⟨(Nat.le_of_ble_eq_true rfl), (Nat.le_of_ble_eq_true rfl)⟩, show cells + 0 ≤ 600000 by omega, show slots + 0 ≤ 7302250 by omega⟩ hl.1 hP1 hD1 hS1 (fun ad2 v2 wb H2 locs2 hp hP2 hD2 hS2 => ?_)
  obtain ⟨e1, r2, e2, hr2, hq2⟩ := hp
  obtain rfl := e1.symm
  obtain rfl := e2
  obtain ⟨hMb, hf2⟩ := hq2
  refine lv_icmp_eq (tgt := 808) hx hb dL_law_717 (by decide) (fun _ => ?_) (fun hne => absurd (hr1.trans hr2.symm) hne)
  by_cases hcd : okAdd n mm 6 hn (xs (x3 + nI 1).toNatClampNeg) = true
  · rw [if_pos hcd] at hCa hMb
    have hCb := RC.far hCa hf2 (by decide)
    have hFb := hFa.fr hf2 (by decide)
    have hlb := hf2.1.trans hla
    exact nxt ad wb _ _ _ ⟨n, K, kg, mm, Ln, np, pg, nj, Js, pn, Pe, (hn + 1), (updN U hn (valI (xs (x3 + nI 1).toNatClampNeg))), tr, kk, km, kp, kh, rd, hCb, hMb, hFb, hlb, by omega, hkP⟩ rfl rfl hP2 hD2 hS2 (by omega)
  · rw [if_neg hcd] at hCa hMb
    have hCb := RC.far hCa hf2 (by decide)
    have hFb := hFa.fr hf2 (by decide)
    have hlb := hf2.1.trans hla
    exact nxt ad wb _ _ _ ⟨n, K, kg, mm, Ln, np, pg, nj, Js, pn, Pe, hn, U, tr, kk, km, kp, kh, rd, hCb, hMb, hFb, hlb, by omega, hkP⟩ rfl rfl hP2 hD2 hS2 (by omega)
set_option maxHeartbeats 1000000 in
theorem law_22 {p : Program} {l : Launch} {e : Env} {s : State} {m : MethodId} {b L : Nat} {xs : Nat → Int32} {below : List Frame} {meth : Method} {c : Code} {Q : State → Prop} {G : GX} {ad : Nat → Nat} {ws : List CE} {H : Heap} {locs : List Loc} {ls : Array Slot} {cells slots n9 : Nat} {x3 : Int32} (F : LF p s m b c G (fun q : Nat => s.heap.size ≤ q)) (hX : va_X b L xs s s.heap) (hbl : b < s.heap.size) (hl : lv_has ls 4 [(0, .ref b), (1, .ref (ad 0)), (2, .ref (ad 29)), (3, .int x3)]) (hI : LI G ad ws (n9 + 1)) (hP : va_P G.1 vwCl (cw G ad ws) H) (hD : va_D (fun q : Nat => s.heap.size ≤ q) (cw G ad ws)) (hS : va_S (fun q : Nat => s.heap.size ≤ q) s.heap H locs) (hcl : cells + 1 ≤ 2000) (hsl : slots ≤ 60000) (i1 : vp_in (x3 + nI 1) L) (i2 : vp_in (x3 + nI 2) L) (i3 : vp_in (x3 + nI 3) L) (nxt : ∀ (ad2 : Nat → Nat) (w2 : List CE) (H1 : Heap) (locs1 : List Loc) (cells2 : Nat), LI G ad2 w2 n9 → ad2 0 = ad 0 → ad2 29 = ad 29 → va_P G.1 vwCl (cw G ad2 w2) H1 → va_D (fun q : Nat => s.heap.size ≤ q) (cw G ad2 w2) → va_S (fun q : Nat => s.heap.size ≤ q) s.heap H1 locs1 → cells2 ≤ cells + 1 → W p l e room_1 s m #[Value.ref b] below meth c H1 locs1 cells2 slots Q (F0 m 808 ls [])) : W p l e room_1 s m #[Value.ref b] below meth c H locs cells slots Q (F0 m 722 ls []) := by
  have hx := F.1.1
  have hb := F.1.2.1
  have hbA : ¬ (fun q : Nat => s.heap.size ≤ q) b := Nat.not_le.mpr hbl
  obtain ⟨n, K, kg, mm, Ln, np, pg, nj, Js, pn, Pe, hn, U, tr, kk, km, kp, kh, rd, hC, hM, hF, hlen, hrd, hkP⟩ := hI
  have hK := hC.2.2.2.2.2.2.2.2.2.2.2
  have o1 := hK.1
  have hCo := hC.1
  have hh6 := hM.2.2.1.2.2.2
  have h10 := hM.2.2.1.2.1
  obtain ⟨⟨rm, sa, sd, hs, hMo⟩, -⟩ := id hM
  refine lv_aload_n hx hb dL_law_722 rfl (lv_at hl 1 rfl) ?_
  refine lv_aload_n hx hb dL_law_723 rfl (lv_at hl 0 rfl) ?_
  refine lv_iload_n hx hb dL_law_724 rfl (lv_at hl 3 rfl) ?_
  refine lv_iconst (v := nI 1) hx hb dL_law_725 (by decide +kernel) ?_
  refine lv_iadd hx hb dL_law_726 ?_
  refine va_sld hx hb hX hbl hbA hS i1 dL_law_727 ?_
  refine L_gV (as := [.int (xs (x3 + nI 1).toNatClampNeg)]) (rest := []) (k := 0) F dL_law_728 kL_108 (p_order l G ad ws n K kg mm Ln np pg nj Js pn Pe hn U tr kk km kp kh rd hC hkP (order_one o1 K hh6 U).2.2 (xs (x3 + nI 1).toNatClampNeg)) hCo rfl rfl (Nat.le_of_ble_eq_true rfl) ⟨⟨(Nat.le_of_ble_eq_true rfl), (Nat.le_of_ble_eq_true rfl)⟩, show cells + 0 ≤ 600000 by omega, show slots + 0 ≤ 7302250 by omega⟩ hl.1 hP hD hS (fun ad1 v1 wa H1 locs1 hp hP1 hD1 hS1 => ?_)
  obtain ⟨e1, r1, e2, hr1, hq1⟩ := hp
  obtain rfl := e1.symm
  obtain rfl := e2
  obtain ⟨hCa, hf1⟩ := hq1
  have hMa := hM.near hf1 (by decide)
  have hFa := hF.fr hf1 (by decide)
  have hla : wa.length = 47 + n := hf1.1.trans hlen
  obtain ⟨⟨rm1, sa1, sd1, hs1, hMo1⟩, -⟩ := id hMa
  have hS := hS1
  refine lv_aload_n hx hb dL_law_731 rfl (lv_at hl 2 rfl) ?_
  refine lv_aload_n hx hb dL_law_732 rfl (lv_at hl 0 rfl) ?_
  refine lv_iload_n hx hb dL_law_733 rfl (lv_at hl 3 rfl) ?_
  refine lv_iconst (v := nI 1) hx hb dL_law_734 (by decide +kernel) ?_
  refine lv_iadd hx hb dL_law_735 ?_
  refine va_sld hx hb hX hbl hbA hS i1 dL_law_736 ?_
  refine L_gV (as := [.int (xs (x3 + nI 1).toNatClampNeg)]) (rest := [.int r1]) (k := 29) F dL_law_737 kL_111 (q_order l G ad wa n K kg mm Ln np pg nj Js pn Pe hn U tr kk km kp kh rd hMa hK  (xs (x3 + nI 1).toNatClampNeg)) hMo1 rfl rfl (Nat.le_of_ble_eq_true rfl) ⟨⟨(Nat.le_of_ble_eq_true rfl), (Nat.le_of_ble_eq_true rfl)⟩, show cells + 0 ≤ 600000 by omega, show slots + 0 ≤ 7302250 by omega⟩ hl.1 hP1 hD1 hS1 (fun ad2 v2 wb H2 locs2 hp hP2 hD2 hS2 => ?_)
  obtain ⟨e1, r2, e2, hr2, hq2⟩ := hp
  obtain rfl := e1.symm
  obtain rfl := e2
  obtain ⟨hMb, hf2⟩ := hq2
  refine lv_icmp_eq (tgt := 808) hx hb dL_law_740 (by decide) (fun _ => ?_) (fun hne => absurd (by rw [hr1, hr2, ordr_one o1 K mm hh6 U]) hne)
  · skip
    have hCb := RC.far hCa hf2 (by decide)
    have hFb := hFa.fr hf2 (by decide)
    have hlb := hf2.1.trans hla
    exact nxt ad wb _ _ _ ⟨n, K, kg, mm, Ln, np, pg, nj, Js, pn, Pe, hn, U, tr, kk, km, kp, kh, rd, hCb, hMb, hFb, hlb, by omega, hkP⟩ rfl rfl hP2 hD2 hS2 (by omega)
set_option maxHeartbeats 1000000 in
theorem law_23 {p : Program} {l : Launch} {e : Env} {s : State} {m : MethodId} {b L : Nat} {xs : Nat → Int32} {below : List Frame} {meth : Method} {c : Code} {Q : State → Prop} {G : GX} {ad : Nat → Nat} {ws : List CE} {H : Heap} {locs : List Loc} {ls : Array Slot} {cells slots n9 : Nat} {x3 : Int32} (F : LF p s m b c G (fun q : Nat => s.heap.size ≤ q)) (hX : va_X b L xs s s.heap) (hbl : b < s.heap.size) (hl : lv_has ls 4 [(0, .ref b), (1, .ref (ad 0)), (2, .ref (ad 29)), (3, .int x3)]) (hI : LI G ad ws (n9 + 1)) (hP : va_P G.1 vwCl (cw G ad ws) H) (hD : va_D (fun q : Nat => s.heap.size ≤ q) (cw G ad ws)) (hS : va_S (fun q : Nat => s.heap.size ≤ q) s.heap H locs) (hcl : cells + 1 ≤ 2000) (hsl : slots ≤ 60000) (i1 : vp_in (x3 + nI 1) L) (i2 : vp_in (x3 + nI 2) L) (i3 : vp_in (x3 + nI 3) L) (nxt : ∀ (ad2 : Nat → Nat) (w2 : List CE) (H1 : Heap) (locs1 : List Loc) (cells2 : Nat), LI G ad2 w2 n9 → ad2 0 = ad 0 → ad2 29 = ad 29 → va_P G.1 vwCl (cw G ad2 w2) H1 → va_D (fun q : Nat => s.heap.size ≤ q) (cw G ad2 w2) → va_S (fun q : Nat => s.heap.size ≤ q) s.heap H1 locs1 → cells2 ≤ cells + 1 → W p l e room_1 s m #[Value.ref b] below meth c H1 locs1 cells2 slots Q (F0 m 808 ls [])) : W p l e room_1 s m #[Value.ref b] below meth c H locs cells slots Q (F0 m 745 ls []) := by
  have hx := F.1.1
  have hb := F.1.2.1
  have hbA : ¬ (fun q : Nat => s.heap.size ≤ q) b := Nat.not_le.mpr hbl
  obtain ⟨n, K, kg, mm, Ln, np, pg, nj, Js, pn, Pe, hn, U, tr, kk, km, kp, kh, rd, hC, hM, hF, hlen, hrd, hkP⟩ := hI
  have hK := hC.2.2.2.2.2.2.2.2.2.2.2
  have o1 := hK.1
  have hCo := hC.1
  have hh6 := hM.2.2.1.2.2.2
  have h10 := hM.2.2.1.2.1
  obtain ⟨⟨rm, sa, sd, hs, hMo⟩, -⟩ := id hM
  refine lv_aload_n hx hb dL_law_745 rfl (lv_at hl 1 rfl) ?_
  refine L_gV (as := []) (rest := []) (k := 0) F dL_law_746 kL_112 (p_image l G ad ws n K kg mm Ln np pg nj Js pn Pe hn U tr kk km kp kh rd hC hkP  ) hCo rfl rfl (Nat.le_of_ble_eq_true rfl) ⟨⟨(Nat.le_of_ble_eq_true rfl), (Nat.le_of_ble_eq_true rfl)⟩, show cells + 0 ≤ 600000 by omega, show slots + 0 ≤ 7302250 by omega⟩ hl.1 hP hD hS (fun ad1 v1 wa H1 locs1 hp hP1 hD1 hS1 => ?_)
  obtain ⟨e1, r1, e2, hr1, hq1⟩ := hp
  obtain rfl := e1.symm
  obtain rfl := e2
  obtain ⟨hCa, hf1⟩ := hq1
  have hMa := hM.near hf1 (by decide)
  have hFa := hF.fr hf1 (by decide)
  have hla : wa.length = 47 + n := hf1.1.trans hlen
  obtain ⟨⟨rm1, sa1, sd1, hs1, hMo1⟩, -⟩ := id hMa
  have hS := hS1
  refine lv_aload_n hx hb dL_law_749 rfl (lv_at hl 2 rfl) ?_
  refine L_gV (as := []) (rest := [.int r1]) (k := 29) F dL_law_750 kL_115 (q_image l G ad wa n K kg mm Ln np pg nj Js pn Pe hn U tr kk km kp kh rd hMa hK  ) hMo1 rfl rfl (Nat.le_of_ble_eq_true rfl) ⟨⟨(Nat.le_of_ble_eq_true rfl), (Nat.le_of_ble_eq_true rfl)⟩, show cells + 0 ≤ 600000 by omega, show slots + 0 ≤ 7302250 by omega⟩ hl.1 hP1 hD1 hS1 (fun ad2 v2 wb H2 locs2 hp hP2 hD2 hS2 => ?_)
  obtain ⟨e1, r2, e2, hr2, hq2⟩ := hp
  obtain rfl := e1.symm
  obtain rfl := e2
  obtain ⟨hMb, hf2⟩ := hq2
  refine lv_icmp_eq (tgt := 808) hx hb dL_law_753 (by decide) (fun _ => ?_) (fun hne => absurd (hr1.trans hr2.symm) hne)
  by_cases hcd : mm = 0
  · rw [if_pos hcd] at hCa hMb
    have hCb := RC.far hCa hf2 (by decide)
    have hFb := hFa.fr hf2 (by decide)
    have hlb := hf2.1.trans hla
    exact nxt ad wb _ _ _ ⟨n, K, kg, mm, Ln, np, pg, nj, Js, pn, Pe, hn, U, tr, kk, km, kp, kh, rd, hCb, hMb, hFb, hlb, by omega, hkP⟩ rfl rfl hP2 hD2 hS2 (by omega)
  · rw [if_neg hcd] at hCa hMb
    have hCb := RC.far hCa hf2 (by decide)
    have hFb := hFa.fr hf2 (by decide)
    have hlb := hf2.1.trans hla
    exact nxt ad wb _ _ _ ⟨n, K, kg, mm, Ln, np, pg, nj, Js, pn, Pe, hn, U, tr, (kg), (mm), (pn), (hn), rd, hCb, hMb, hFb, hlb, by omega, hkP⟩ rfl rfl hP2 hD2 hS2 (by omega)
set_option maxHeartbeats 1000000 in
theorem law_24 {p : Program} {l : Launch} {e : Env} {s : State} {m : MethodId} {b L : Nat} {xs : Nat → Int32} {below : List Frame} {meth : Method} {c : Code} {Q : State → Prop} {G : GX} {ad : Nat → Nat} {ws : List CE} {H : Heap} {locs : List Loc} {ls : Array Slot} {cells slots n9 : Nat} {x3 : Int32} (F : LF p s m b c G (fun q : Nat => s.heap.size ≤ q)) (hX : va_X b L xs s s.heap) (hbl : b < s.heap.size) (hl : lv_has ls 4 [(0, .ref b), (1, .ref (ad 0)), (2, .ref (ad 29)), (3, .int x3)]) (hI : LI G ad ws (n9 + 1)) (hP : va_P G.1 vwCl (cw G ad ws) H) (hD : va_D (fun q : Nat => s.heap.size ≤ q) (cw G ad ws)) (hS : va_S (fun q : Nat => s.heap.size ≤ q) s.heap H locs) (hcl : cells + 1 ≤ 2000) (hsl : slots ≤ 60000) (i1 : vp_in (x3 + nI 1) L) (i2 : vp_in (x3 + nI 2) L) (i3 : vp_in (x3 + nI 3) L) (nxt : ∀ (ad2 : Nat → Nat) (w2 : List CE) (H1 : Heap) (locs1 : List Loc) (cells2 : Nat), LI G ad2 w2 n9 → ad2 0 = ad 0 → ad2 29 = ad 29 → va_P G.1 vwCl (cw G ad2 w2) H1 → va_D (fun q : Nat => s.heap.size ≤ q) (cw G ad2 w2) → va_S (fun q : Nat => s.heap.size ≤ q) s.heap H1 locs1 → cells2 ≤ cells + 1 → W p l e room_1 s m #[Value.ref b] below meth c H1 locs1 cells2 slots Q (F0 m 808 ls [])) : W p l e room_1 s m #[Value.ref b] below meth c H locs cells slots Q (F0 m 758 ls []) := by
  have hx := F.1.1
  have hb := F.1.2.1
  have hbA : ¬ (fun q : Nat => s.heap.size ≤ q) b := Nat.not_le.mpr hbl
  obtain ⟨n, K, kg, mm, Ln, np, pg, nj, Js, pn, Pe, hn, U, tr, kk, km, kp, kh, rd, hC, hM, hF, hlen, hrd, hkP⟩ := hI
  have hK := hC.2.2.2.2.2.2.2.2.2.2.2
  have o1 := hK.1
  have hCo := hC.1
  have hh6 := hM.2.2.1.2.2.2
  have h10 := hM.2.2.1.2.1
  obtain ⟨⟨rm, sa, sd, hs, hMo⟩, -⟩ := id hM
  refine lv_aload_n hx hb dL_law_758 rfl (lv_at hl 1 rfl) ?_
  refine L_gV (as := []) (rest := []) (k := 0) F dL_law_759 kL_116 (p_restore l G ad ws n K kg mm Ln np pg nj Js pn Pe hn U tr kk km kp kh rd hC hkP  ) hCo rfl rfl (Nat.le_of_ble_eq_true rfl) ⟨⟨(Nat.le_of_ble_eq_true rfl), (Nat.le_of_ble_eq_true rfl)⟩, show cells + 0 ≤ 600000 by omega, show slots + 0 ≤ 7302250 by omega⟩ hl.1 hP hD hS (fun ad1 v1 wa H1 locs1 hp hP1 hD1 hS1 => ?_)
  obtain ⟨e1, r1, e2, hr1, hq1⟩ := hp
  obtain rfl := e1.symm
  obtain rfl := e2
  obtain ⟨hCa, hf1⟩ := hq1
  have hMa := hM.near hf1 (by decide)
  have hFa := hF.fr hf1 (by decide)
  have hla : wa.length = 47 + n := hf1.1.trans hlen
  obtain ⟨⟨rm1, sa1, sd1, hs1, hMo1⟩, -⟩ := id hMa
  have hS := hS1
  refine lv_aload_n hx hb dL_law_762 rfl (lv_at hl 2 rfl) ?_
  refine L_gV (as := []) (rest := [.int r1]) (k := 29) F dL_law_763 kL_119 (q_restore l G ad wa n K kg mm Ln np pg nj Js pn Pe hn U tr kk km kp kh rd hMa hK  ) hMo1 rfl rfl (Nat.le_of_ble_eq_true rfl) ⟨⟨(Nat.le_of_ble_eq_true rfl), (Nat.le_of_ble_eq_true rfl)⟩, show cells + 0 ≤ 600000 by omega, show slots + 0 ≤ 7302250 by omega⟩ hl.1 hP1 hD1 hS1 (fun ad2 v2 wb H2 locs2 hp hP2 hD2 hS2 => ?_)
  obtain ⟨e1, r2, e2, hr2, hq2⟩ := hp
  obtain rfl := e1.symm
  obtain rfl := e2
  obtain ⟨hMb, hf2⟩ := hq2
  refine lv_icmp_eq (tgt := 808) hx hb dL_law_766 (by decide) (fun _ => ?_) (fun hne => absurd (hr1.trans hr2.symm) hne)
  by_cases hcd : km = 0
  · rw [if_pos hcd] at hCa hMb
    have hCb := RC.far hCa hf2 (by decide)
    have hFb := hFa.fr hf2 (by decide)
    have hlb := hf2.1.trans hla
    exact nxt ad wb _ _ _ ⟨n, K, kg, mm, Ln, np, pg, nj, Js, pn, Pe, hn, U, tr, kk, km, kp, kh, rd, hCb, hMb, hFb, hlb, by omega, hkP⟩ rfl rfl hP2 hD2 hS2 (by omega)
  · rw [if_neg hcd] at hCa hMb
    have hCb := RC.far hCa hf2 (by decide)
    have hFb := hFa.fr hf2 (by decide)
    have hlb := hf2.1.trans hla
    exact nxt ad wb _ _ _ ⟨n, K, (kk), (km), Ln, np, pg, nj, Js, (kp), Pe, (kh), U, tr, kk, km, kp, kh, rd, hCb, hMb, hFb, hlb, by omega, hkP⟩ rfl rfl hP2 hD2 hS2 (by omega)
set_option maxHeartbeats 1000000 in
theorem law_25 {p : Program} {l : Launch} {e : Env} {s : State} {m : MethodId} {b L : Nat} {xs : Nat → Int32} {below : List Frame} {meth : Method} {c : Code} {Q : State → Prop} {G : GX} {ad : Nat → Nat} {ws : List CE} {H : Heap} {locs : List Loc} {ls : Array Slot} {cells slots n9 : Nat} {x3 : Int32} (F : LF p s m b c G (fun q : Nat => s.heap.size ≤ q)) (hX : va_X b L xs s s.heap) (hbl : b < s.heap.size) (hl : lv_has ls 4 [(0, .ref b), (1, .ref (ad 0)), (2, .ref (ad 29)), (3, .int x3)]) (hI : LI G ad ws (n9 + 1)) (hP : va_P G.1 vwCl (cw G ad ws) H) (hD : va_D (fun q : Nat => s.heap.size ≤ q) (cw G ad ws)) (hS : va_S (fun q : Nat => s.heap.size ≤ q) s.heap H locs) (hcl : cells + 1 ≤ 2000) (hsl : slots ≤ 60000) (i1 : vp_in (x3 + nI 1) L) (i2 : vp_in (x3 + nI 2) L) (i3 : vp_in (x3 + nI 3) L) (nxt : ∀ (ad2 : Nat → Nat) (w2 : List CE) (H1 : Heap) (locs1 : List Loc) (cells2 : Nat), LI G ad2 w2 n9 → ad2 0 = ad 0 → ad2 29 = ad 29 → va_P G.1 vwCl (cw G ad2 w2) H1 → va_D (fun q : Nat => s.heap.size ≤ q) (cw G ad2 w2) → va_S (fun q : Nat => s.heap.size ≤ q) s.heap H1 locs1 → cells2 ≤ cells + 1 → W p l e room_1 s m #[Value.ref b] below meth c H1 locs1 cells2 slots Q (F0 m 808 ls [])) : W p l e room_1 s m #[Value.ref b] below meth c H locs cells slots Q (F0 m 771 ls []) := by
  have hx := F.1.1
  have hb := F.1.2.1
  have hbA : ¬ (fun q : Nat => s.heap.size ≤ q) b := Nat.not_le.mpr hbl
  obtain ⟨n, K, kg, mm, Ln, np, pg, nj, Js, pn, Pe, hn, U, tr, kk, km, kp, kh, rd, hC, hM, hF, hlen, hrd, hkP⟩ := hI
  have hK := hC.2.2.2.2.2.2.2.2.2.2.2
  have o1 := hK.1
  have hCo := hC.1
  have hh6 := hM.2.2.1.2.2.2
  have h10 := hM.2.2.1.2.1
  obtain ⟨⟨rm, sa, sd, hs, hMo⟩, -⟩ := id hM
  refine lv_aload_n hx hb dL_law_771 rfl (lv_at hl 1 rfl) ?_
  refine lv_aload_n hx hb dL_law_772 rfl (lv_at hl 0 rfl) ?_
  refine lv_iload_n hx hb dL_law_773 rfl (lv_at hl 3 rfl) ?_
  refine lv_iconst (v := nI 1) hx hb dL_law_774 (by decide +kernel) ?_
  refine lv_iadd hx hb dL_law_775 ?_
  refine va_sld hx hb hX hbl hbA hS i1 dL_law_776 ?_
  refine L_gV (as := [.int (xs (x3 + nI 1).toNatClampNeg)]) (rest := []) (k := 0) F dL_law_777 kL_120 (p_count l G ad ws n K kg mm Ln np pg nj Js pn Pe hn U tr kk km kp kh rd hC hkP  (xs (x3 + nI 1).toNatClampNeg)) hCo rfl rfl (Nat.le_of_ble_eq_true rfl) ⟨⟨(Nat.le_of_ble_eq_true rfl), (Nat.le_of_ble_eq_true rfl)⟩, show cells + 0 ≤ 600000 by omega, show slots + 0 ≤ 7302250 by omega⟩ hl.1 hP hD hS (fun ad1 v1 wa H1 locs1 hp hP1 hD1 hS1 => ?_)
  obtain ⟨e1, r1, e2, hr1, hq1⟩ := hp
  obtain rfl := e1.symm
  obtain rfl := e2
  obtain rfl := hq1.symm
  have hS := hS1
  refine lv_aload_n hx hb dL_law_780 rfl (lv_at hl 2 rfl) ?_
  refine lv_aload_n hx hb dL_law_781 rfl (lv_at hl 0 rfl) ?_
  refine lv_iload_n hx hb dL_law_782 rfl (lv_at hl 3 rfl) ?_
  refine lv_iconst (v := nI 1) hx hb dL_law_783 (by decide +kernel) ?_
  refine lv_iadd hx hb dL_law_784 ?_
  refine va_sld hx hb hX hbl hbA hS i1 dL_law_785 ?_
  refine L_gV (as := [.int (xs (x3 + nI 1).toNatClampNeg)]) (rest := [.int r1]) (k := 29) F dL_law_786 kL_123 (q_count l G ad ws n K kg mm Ln np pg nj Js pn Pe hn U tr kk km kp kh rd hM hK  (xs (x3 + nI 1).toNatClampNeg)) hMo rfl rfl (Nat.le_of_ble_eq_true rfl) ⟨⟨(Nat.le_of_ble_eq_true rfl), (Nat.le_of_ble_eq_true rfl)⟩, show cells + 0 ≤ 600000 by omega, show slots + 0 ≤ 7302250 by omega⟩ hl.1 hP1 hD1 hS1 (fun ad2 v2 wb H2 locs2 hp hP2 hD2 hS2 => ?_)
  obtain ⟨e1, r2, e2, hr2, hq2⟩ := hp
  obtain rfl := e1.symm
  obtain rfl := e2
  obtain rfl := hq2.symm
  refine lv_icmp_eq (tgt := 808) hx hb dL_law_789 (by decide) (fun _ => ?_) (fun hne => absurd (hr1.trans hr2.symm) hne)
  · skip
    exact nxt ad ws _ _ _ ⟨n, K, kg, mm, Ln, np, pg, nj, Js, pn, Pe, hn, U, tr, kk, km, kp, kh, rd, hC, hM, hF, hlen, by omega, hkP⟩ rfl rfl hP2 hD2 hS2 (by omega)
