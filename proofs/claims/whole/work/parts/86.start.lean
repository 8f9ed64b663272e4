/-! the law, from its entry -/
set_option maxHeartbeats 4000000 in
theorem start_G {p : Program} {s : State} {m : MethodId} {meth : Method} {c : Code} {b L : Nat} {xs : Nat → Int32} (C0 : lw_At p s m meth c b L xs) : ∃ G : GX, LF p s m b c G (fun q : Nat => s.heap.size ≤ q) := by
  obtain ⟨hx, hb, hr, hml, hown, hts, hX, hbl, hlocks, hgv⟩ := C0
  have htb := tb_hts hts
  have hs := flat_of_before _ hgv
  have hex : ∀ k : Nat, ∃ (cC : ClassId) (iS : Nat → Nat), ∀ q : vw_C, vwCl[k]? = some q → u_Kn s q.1 q.2.1 q.2.2 cC iS := by
    intro k
    have one : ∀ {C : String} {T : u_T} {N : Nat} {ty : Nat → FieldType}, CI k C T N ty → Cond.instantiable C N ∈ tb → ∃ (cC : ClassId) (iS : Nat → Nat), ∀ q : vw_C, vwCl[k]? = some q → u_Kn s q.1 q.2.1 q.2.2 cC iS := fun hci hin => by
      obtain ⟨cC, iS, h⟩ := u_known htb hci.2.1 (htb _ hin)
      refine ⟨cC, iS, fun q hq => ?_⟩
      rw [hci.1] at hq
      cases hq
      exact h
    match k with
    | 0 => exact one ci_0 (tb_mem 297 (by decide +kernel) (by decide +kernel))
    | 1 => exact one ci_1 (tb_mem 98 (by decide +kernel) (by decide +kernel))
    | 2 => exact one ci_2 (tb_mem 124 (by decide +kernel) (by decide +kernel))
    | 3 => exact one ci_3 (tb_mem 304 (by decide +kernel) (by decide +kernel))
    | 4 => exact one ci_4 (tb_mem 84 (by decide +kernel) (by decide +kernel))
    | 5 => exact one ci_5 (tb_mem 283 (by decide +kernel) (by decide +kernel))
    | 6 => exact one ci_6 (tb_mem 77 (by decide +kernel) (by decide +kernel))
    | 7 => exact one ci_7 (tb_mem 199 (by decide +kernel) (by decide +kernel))
    | 8 => exact one ci_8 (tb_mem 290 (by decide +kernel) (by decide +kernel))
    | 9 => exact one ci_9 (tb_mem 140 (by decide +kernel) (by decide +kernel))
    | 10 => exact one ci_10 (tb_mem 174 (by decide +kernel) (by decide +kernel))
    | 11 => exact one ci_11 (tb_mem 69 (by decide +kernel) (by decide +kernel))
    | 12 => exact one ci_12 (tb_mem 792 (by decide +kernel) (by decide +kernel))
    | k + 13 =>
      obtain ⟨cC, iS, h⟩ := u_known (n := 0) htb ci_0.2.1 (htb _ (tb_mem 297 (by decide +kernel) (by decide +kernel)))
      exact ⟨cC, iS, fun q hq => by cases hq⟩
  obtain ⟨cI, kI, compI, i1, i2, i3⟩ := Cond.arrayClass_spec (htb _ w_ac)
  have hover := hts (Cond.arrayOver (.object "LikeLastYears$Feature")) (by decide +kernel)
  obtain ⟨compF, cF, kF, f1, f2, f3, f4, f5⟩ := Cond.arrayOver_spec hover
  have hA : ∀ a : Nat, a < s.heap.size → ¬ (fun q : Nat => s.heap.size ≤ q) a := fun a ha => Nat.not_le.mpr ha
  have harr : (Cond.arrayOf (Term.static "LikeLastYears" "POWER" "[I") .int).before #[Value.ref b] s = true := hs _ (by decide +kernel)
  have hlen := va_eqt (hs (Cond.eq (Term.length (Term.static "LikeLastYears" "POWER" "[I")) (.int 5)) (by decide +kernel))
  have hel : ∀ j : Nat, j < 5 → (Term.elem (Term.static "LikeLastYears" "POWER" "[I") (.int (Int32.ofNat j))).eval #[Value.ref b] s none [] s = some (pwV j) := by
    intro j hj
    match j, hj with
    | 0, _ => exact va_eqt (hs (Cond.eq (Term.elem (Term.static "LikeLastYears" "POWER" "[I") (.int 0)) (.int 1)) (by decide +kernel))
    | 1, _ => exact va_eqt (hs (Cond.eq (Term.elem (Term.static "LikeLastYears" "POWER" "[I") (.int 1)) (.int 10)) (by decide +kernel))
    | 2, _ => exact va_eqt (hs (Cond.eq (Term.elem (Term.static "LikeLastYears" "POWER" "[I") (.int 2)) (.int 100)) (by decide +kernel))
    | 3, _ => exact va_eqt (hs (Cond.eq (Term.elem (Term.static "LikeLastYears" "POWER" "[I") (.int 3)) (.int 1000)) (by decide +kernel))
    | 4, _ => exact va_eqt (hs (Cond.eq (Term.elem (Term.static "LikeLastYears" "POWER" "[I") (.int 4)) (.int 10000)) (by decide +kernel))
    | j + 5, h => exact absurd h (by omega)
  obtain ⟨t, ht, hT⟩ := va_Tof (f := pwV) (N := 5) (A := fun q : Nat => s.heap.size ≤ q) (by decide) harr hlen hel hA
  have hZ := va_Zof (hts (Cond.laysStatic "LikeLastYears" "POWER" "[I") (by decide +kernel)) (hts (Cond.initialized "LikeLastYears") (by decide +kernel)) ht hA
  refine ⟨((fun k => (hex k).choose, fun k => (hex k).choose_spec.choose), cI, cF, t), ⟨hx, hb, hml, hown, htb⟩, ⟨fun k q hq => (hex k).choose_spec.choose_spec q hq, fun k q hq => ?_⟩, fun q hq => hq, hZ, hT, ?_, fun w hw => va_Nw.of (nst_tab hw) (hts w (List.mem_filter.mp hw).1), va_AO.of hover⟩
  · match k, hq with
    | 0, hq => cases hq; exact ⟨fun n z => ⟨(fun k h => by cases h), kI, i2, compI, i3⟩, i1⟩
    | 1, hq => cases hq; exact ⟨fun n z => ⟨(fun k h => by cases h), kF, f3, compF, f4⟩, kF, compF, f3, f4, f1, f5⟩
    | k + 2, hq => cases hq
  · have nc : ∀ q ∈ ncT, (Cond.not (.castable q.1 q.2)).before #[Value.ref b] s = true := by
      intro q hq
      simp only [ncT, List.mem_cons, List.not_mem_nil, or_false] at hq
      rcases hq with rfl | rfl | rfl | rfl | rfl | rfl | rfl | rfl | rfl | rfl | rfl | rfl | rfl | rfl | rfl <;> exact hs _ (by decide +kernel)
    exact fun q hq => va_Nc.of (nc q hq)
set_option maxHeartbeats 4000000 in
set_option maxRecDepth 100000 in
theorem whole_start {p : Program} {e : Env} {s : State} {m : MethodId} {below : List Frame} {meth : Method} {c : Code} (l : Launch) {b L : Nat} {xs : Nat → Int32} (hL : L ≤ 2048) (C0 : lw_At p s m meth c b L xs) : W p l e room_1 s m #[Value.ref b] below meth c s.heap [] 0 0 (lw_Z below #[Value.ref b] s) (entryFrame m ([Value.ref b] : List Value).toArray 4) := by
  obtain ⟨G, F⟩ := start_G C0
  obtain ⟨hx, hb, hr, hml, hown, hts, hX, hbl, hlocks, hgv⟩ := id C0
  have hl := lv_entry ([.ref b]) (n := 4) (Nat.le_of_ble_eq_true rfl)
  rw [lg_entry_eq]
  generalize (lg_sl ([.ref b]) ++ List.replicate (4 - (lg_sl ([.ref b])).length) Slot.unset).toArray = ls at hl ⊢
  have hl : lv_has ls 4 [(0, .ref b)] := hl
  obtain ⟨ad, hkP⟩ : ∃ ad : Nat → Nat, ad kP = G.2.2.2 := ⟨fun _ => G.2.2.2, rfl⟩
  have hS : va_S (fun q : Nat => s.heap.size ≤ q) s.heap s.heap [] := va_S.rf
  have hP : va_P G.1 vwCl (cw G ad []) s.heap := fun k q h => by simp [cw] at h
  have hD : va_D (fun q : Nat => s.heap.size ≤ q) (cw G ad []) := ⟨fun i j p q h => by simp [cw] at h, fun k q h => by simp [cw] at h⟩
  refine L_new (ws := []) (rest := []) F 0 dL_law_0 nwL_7 (fun _ => rfl) rfl (by decide) rfl (show 0 + 1 ≤ 600000 by omega) (show 0 + 15 ≤ 7302250 by omega) hP hD hS (fun ad1 H1 ag1 hk1 hP1 hD1 hS1 => ?_)
  refine lv_dup hx hb dL_law_3 rfl ?_
  refine L_gN (as := []) (rest := [.ref (ad1 0)]) (k := 0) (ws := wLL0) F dL_law_4 kL_9 (C_like l G ad1) rfl (Nat.le_of_ble_eq_true rfl) ⟨⟨Nat.le_of_ble_eq_true rfl, Nat.le_of_ble_eq_true rfl⟩, show 0 + 1 + 28 ≤ 600000 by omega, show 0 + 15 + 30363 ≤ 7302250 by omega⟩ hl.1 hP1 hD1 hS1 (fun ad2 v2 w2 H2 locs2 hp hP2 hD2 hS2 => ?_)
  obtain ⟨ag2, hk2, e2, e3⟩ := hp
  obtain rfl := e2
  obtain rfl := e3
  refine lv_astore_n (lv' := [(1, .ref (ad1 0)), (0, .ref b)]) hx hb dL_law_7 rfl hl (by decide) rfl (fun ls hl => ?_)
  refine L_new (ws := wLL) (rest := []) F 29 dL_law_8 nwL_10 (fun _ => rfl) rfl (by decide) rfl (show 0 + 1 + 28 + 1 ≤ 600000 by omega) (show 0 + 15 + 30363 + 31 ≤ 7302250 by omega) hP2 hD2 hS2 (fun ad3 H3 ag3 hk3 hP3 hD3 hS3 => ?_)
  refine lv_dup hx hb dL_law_11 rfl ?_
  refine L_gN (as := []) (rest := [.ref (ad3 29)]) (k := 29) (ws := wM0) F dL_law_12 kL_12 (C_model l G ad3) rfl (Nat.le_of_ble_eq_true rfl) ⟨⟨Nat.le_of_ble_eq_true rfl, Nat.le_of_ble_eq_true rfl⟩, show 0 + 1 + 28 + 1 + 17 ≤ 600000 by omega, show 0 + 15 + 30363 + 31 + 20218 ≤ 7302250 by omega⟩ hl.1 hP3 hD3 hS3 (fun ad4 v4 w4 H4 locs4 hp hP4 hD4 hS4 => ?_)
  obtain ⟨ag4, hk4, e4, e5⟩ := hp
  obtain rfl := e4
  obtain rfl := e5
  refine lv_astore_n (lv' := [(2, .ref (ad3 29)), (1, .ref (ad1 0)), (0, .ref b)]) hx hb dL_law_15 rfl hl (by decide) rfl (fun ls hl => ?_)
  refine lv_iconst (v := nI 0) hx hb dL_law_16 (by decide +kernel) ?_
  refine lv_istore_n (lv' := [(3, .int (nI 0)), (2, .ref (ad3 29)), (1, .ref (ad1 0)), (0, .ref b)]) hx hb dL_law_17 rfl hl (by decide) rfl (fun ls hl => ?_)
  have q0 : ad4 0 = ad1 0 := ((ag4 0 (by decide)).trans (ag3 0 (by decide))).trans (ag2 0 (by decide))
  have q29 : ad4 29 = ad3 29 := ag4 29 (by decide)
  rw [← q0, ← q29] at hl
  have hkP4 : ad4 kP = G.2.2.2 := (((hk4.trans hk3).trans hk2).trans hk1).trans hkP
  exact law_loop F hX hbl hL (by omega) (fun H ls => lw_ret hx hb hr hlocks dL_law_815) 512 0 _ ad4 wM H4 locs4 ls (by omega) (by omega) (by omega) ⟨0, z0, 0, 0, z0, 0, z0, 0, j0, 0, z0, 0, z0, 0, 0, 0, 0, 0, 0, RC_start, RM_start, FX_start, rfl, by omega, hkP4⟩ hP4 hD4 hS4 (lv_sub hl [3, 2, 1, 0] rfl)
