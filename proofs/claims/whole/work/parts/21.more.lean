/-! loops; calls of a kind's own methods -/
theorem inc1 (f : Nat) : nI f + Int32.ofInt 1 = nI (f + 1) := nI_1 f
theorem pw_ne {f : Nat} (h : f < 5) : ¬ nI (10 ^ f) = 0 := by
  have h1 : 10 ^ f ≤ 10 ^ 4 := Nat.pow_le_pow_right (by decide) (by omega)
  have h2 : 0 < 10 ^ f := Nat.pow_pos (by decide)
  exact nI_ne0 h2 (by omega)
section VM
variable {p : Program} {l : Launch} {e : Env} {R : Room} {s : State} {m : MethodId} {args : Array Value} {below : List Frame} {meth : Method} {c : Code} {cells slots : Nat} {Q : State → Prop} {cc : ByteArray} {nL : Nat} {y : MethodName} {ret : Option FieldType} {G : GX} {A : Nat → Prop} {ad : Nat → Nat} {ws : List CE} {pc : Nat} {lv : List (Option Value)} {st : List Value}
theorem V_loop (I : Nat → List CE → List (Option Value) → Prop) (n : Nat) (h0 : I n ws lv) (hs : ∀ (n : Nat) (ws : List CE) (lv : List (Option Value)), I n ws lv → (∀ (n2 : Nat) (ws2 : List CE) (lv2 : List (Option Value)), n2 < n → I n2 ws2 lv2 → V p l e R s m args below meth c cells slots Q G A nL ad ws2 pc lv2 st) → V p l e R s m args below meth c cells slots Q G A nL ad ws pc lv st) : V p l e R s m args below meth c cells slots Q G A nL ad ws pc lv st := by
  have key : ∀ (n : Nat) (ws : List CE) (lv : List (Option Value)), I n ws lv → V p l e R s m args below meth c cells slots Q G A nL ad ws pc lv st := by
    intro n
    induction n using Nat.strongRecOn with
    | ind n ih => exact fun ws lv h => hs n ws lv h (fun n2 ws2 lv2 hn h2 => ih n2 hn ws2 lv2 h2)
  exact key n ws lv h0
theorem V_tswI (X : CX p s m args meth c cc nL y ret G A) {dflt lo hi off : Int} {offs : Array Int} {len : Nat} {x : Int32} (tgt : Nat) (hd : decode cc pc = .ok (.tableswitch dflt lo hi offs, len)) (h1 : ¬ x.toInt < lo) (h2 : ¬ hi < x.toInt) (ho : offs[(x.toInt - lo).toNat]? = some off) (ht : (pc : Int) + off = (tgt : Int)) (k : V p l e R s m args below meth c cells slots Q G A nL ad ws tgt lv st) : V p l e R s m args below meth c cells slots Q G A nL ad ws pc lv (.int x :: st) := fun H locs ls hP hD hS hl => lv_tableIn X.1.1 X.1.2.1 hd h1 h2 ho ht (k H locs ls hP hD hS hl)
theorem V_tswO (X : CX p s m args meth c cc nL y ret G A) {dflt lo hi : Int} {offs : Array Int} {len : Nat} {x : Int32} (tgt : Nat) (hd : decode cc pc = .ok (.tableswitch dflt lo hi offs, len)) (h : x.toInt < lo ∨ hi < x.toInt) (ht : (pc : Int) + dflt = (tgt : Int)) (k : V p l e R s m args below meth c cells slots Q G A nL ad ws tgt lv st) : V p l e R s m args below meth c cells slots Q G A nL ad ws pc lv (.int x :: st) := fun H locs ls hP hD hS hl => lv_tableOut X.1.1 X.1.2.1 hd h ht (k H locs ls hP hD hS hl)
def clsK (k : Nat) : Nat := if k = 0 then 4 else if k = 1 then 5 else if k = 2 then 8 else if k = 3 then 0 else 3
def hR3 (R : Room) (cells slots : Nat) : Prop := 4 ≤ R.frames ∧ 160 ≤ R.locals ∧ cells ≤ R.cells ∧ slots ≤ R.slots
theorem hR3_use {R : Room} {cells slots h n : Nat} (H : hR3 R cells slots) (hh : h ≤ 3) (hn : n ≤ 20) : (h + 1 ≤ R.frames ∧ 8 + (n + 11) + 40 * h ≤ R.locals) ∧ cells + 0 ≤ R.cells ∧ slots + 0 ≤ R.slots := by
  obtain ⟨h1, h2, h3, h4⟩ := H
  exact ⟨⟨by omega, by omega⟩, by omega, by omega⟩
theorem VU_gap (X : CX p s m args meth c cc nL y ret G A) {idx q k a b : Nat} (hd : decode cc pc = .ok (.invokevirtual idx, 3)) (r0 : CU y.cls idx RX4 yX4_gap yX4_gap cX4_gap 3 (some .int) 2) (r1 : CU y.cls idx RX5 yX4_gap yX4_gap cX4_gap 3 (some .int) 2) (r2 : CU y.cls idx RX8 yX4_gap yX8_gap cX8_gap 3 (some .int) 2) (r3 : CU y.cls idx RX0 yX4_gap yX0_gap cX0_gap 4 (some .int) 2) (r4 : CU y.cls idx RX3 yX4_gap yX8_gap cX8_gap 3 (some .int) 2) (hk : k < 5) (hq : ws[q]? = some (oB (clsK k) [])) (ha : a < 10) (hb : b < 10) (hcat : (st.map fun v => v.category).sum ≤ 8) (hR : hR3 R cells slots)
    (kk : V p l e R s m args below meth c cells slots Q G A nL ad ws (pc + 3) lv (.int (nI (gapK k a b)) :: st)) : V p l e R s m args below meth c cells slots Q G A nL ad ws pc lv (.int (nI b) :: .int (nI a) :: .ref q :: st) := by
  rcases (show k = 0 ∨ k = 1 ∨ k = 2 ∨ k = 3 ∨ k = 4 by omega) with rfl | rfl | rfl | rfl | rfl
  · exact V_cU2I X hd r0 (t_gap4 l G ad ws q a b ha hb) hq rfl hcat (hR3_use hR (by decide) (by decide)) (fun r ws2 hc => by obtain ⟨rfl, rfl⟩ := hc; exact kk)
  · exact V_cU2I X hd r1 (t_gap4 l G ad ws q a b ha hb) hq rfl hcat (hR3_use hR (by decide) (by decide)) (fun r ws2 hc => by obtain ⟨rfl, rfl⟩ := hc; exact kk)
  · exact V_cU2I X hd r2 (t_gap8 l G ad ws q a b ha hb) hq rfl hcat (hR3_use hR (by decide) (by decide)) (fun r ws2 hc => by obtain ⟨rfl, rfl⟩ := hc; exact kk)
  · exact V_cU2I X hd r3 (t_gap0 l G ad ws q a b ha hb) hq rfl hcat (hR3_use hR (by decide) (by decide)) (fun r ws2 hc => by obtain ⟨rfl, rfl⟩ := hc; exact kk)
  · exact V_cU2I X hd r4 (t_gap8 l G ad ws q a b ha hb) hq rfl hcat (hR3_use hR (by decide) (by decide)) (fun r ws2 hc => by obtain ⟨rfl, rfl⟩ := hc; exact kk)
theorem VU_steps (X : CX p s m args meth c cc nL y ret G A) {idx q k a b : Nat} (hd : decode cc pc = .ok (.invokevirtual idx, 3)) (r0 : CU y.cls idx RX4 yX4_steps yX4_steps cX4_steps 3 (some .int) 2) (r1 : CU y.cls idx RX5 yX4_steps yX4_steps cX4_steps 3 (some .int) 2) (r2 : CU y.cls idx RX8 yX4_steps yX4_steps cX4_steps 3 (some .int) 2) (r3 : CU y.cls idx RX0 yX4_steps yX0_steps cX0_steps 3 (some .int) 2) (r4 : CU y.cls idx RX3 yX4_steps yX4_steps cX4_steps 3 (some .int) 2) (hk : k < 5) (hq : ws[q]? = some (oB (clsK k) [])) (ha : a < 10) (hb : b < 10) (hcat : (st.map fun v => v.category).sum ≤ 8) (hR : hR3 R cells slots)
    (kk : V p l e R s m args below meth c cells slots Q G A nL ad ws (pc + 3) lv (.int (nI (stepK k a b)) :: st)) : V p l e R s m args below meth c cells slots Q G A nL ad ws pc lv (.int (nI b) :: .int (nI a) :: .ref q :: st) := by
  rcases (show k = 0 ∨ k = 1 ∨ k = 2 ∨ k = 3 ∨ k = 4 by omega) with rfl | rfl | rfl | rfl | rfl
  · exact V_cU2I X hd r0 (t_steps4 l G ad ws q a b ha hb) hq rfl hcat (hR3_use hR (by decide) (by decide)) (fun r ws2 hc => by obtain ⟨rfl, rfl⟩ := hc; exact kk)
  · exact V_cU2I X hd r1 (t_steps4 l G ad ws q a b ha hb) hq rfl hcat (hR3_use hR (by decide) (by decide)) (fun r ws2 hc => by obtain ⟨rfl, rfl⟩ := hc; exact kk)
  · exact V_cU2I X hd r2 (t_steps4 l G ad ws q a b ha hb) hq rfl hcat (hR3_use hR (by decide) (by decide)) (fun r ws2 hc => by obtain ⟨rfl, rfl⟩ := hc; exact kk)
  · exact V_cU2I X hd r3 (t_steps0 l G ad ws q a b ha hb hq) hq rfl hcat (hR3_use hR (by decide) (by decide)) (fun r ws2 hc => by obtain ⟨rfl, rfl⟩ := hc; exact kk)
  · exact V_cU2I X hd r4 (t_steps4 l G ad ws q a b ha hb) hq rfl hcat (hR3_use hR (by decide) (by decide)) (fun r ws2 hc => by obtain ⟨rfl, rfl⟩ := hc; exact kk)
theorem VU_slip (X : CX p s m args meth c cc nL y ret G A) {idx q k a : Nat} {up : Bool} (hd : decode cc pc = .ok (.invokevirtual idx, 3)) (r0 : CU y.cls idx RX4 yX4_slipped yX4_slipped cX4_slipped 4 (some .int) 2) (r1 : CU y.cls idx RX5 yX4_slipped yX4_slipped cX4_slipped 4 (some .int) 2) (r2 : CU y.cls idx RX8 yX4_slipped yX4_slipped cX4_slipped 4 (some .int) 2) (r3 : CU y.cls idx RX0 yX4_slipped yX0_slipped cX0_slipped 3 (some .int) 2) (r4 : CU y.cls idx RX3 yX4_slipped yX4_slipped cX4_slipped 4 (some .int) 2) (hk : k < 5) (hq : ws[q]? = some (oB (clsK k) [])) (ha : a < 10) (hcat : (st.map fun v => v.category).sum ≤ 8) (hR : hR3 R cells slots)
    (kk : V p l e R s m args below meth c cells slots Q G A nL ad ws (pc + 3) lv (.int (optI (slipK k a up)) :: st)) : V p l e R s m args below meth c cells slots Q G A nL ad ws pc lv (.int (byI up) :: .int (nI a) :: .ref q :: st) := by
  rcases (show k = 0 ∨ k = 1 ∨ k = 2 ∨ k = 3 ∨ k = 4 by omega) with rfl | rfl | rfl | rfl | rfl
  · exact V_cU2I X hd r0 (t_slip4 l G ad ws q a ha up) hq rfl hcat (hR3_use hR (by decide) (by decide)) (fun r ws2 hc => by obtain ⟨rfl, rfl⟩ := hc; exact kk)
  · exact V_cU2I X hd r1 (t_slip4 l G ad ws q a ha up) hq rfl hcat (hR3_use hR (by decide) (by decide)) (fun r ws2 hc => by obtain ⟨rfl, rfl⟩ := hc; exact kk)
  · exact V_cU2I X hd r2 (t_slip4 l G ad ws q a ha up) hq rfl hcat (hR3_use hR (by decide) (by decide)) (fun r ws2 hc => by obtain ⟨rfl, rfl⟩ := hc; exact kk)
  · exact V_cU2I X hd r3 (t_slip0 l G ad ws q a ha up) hq rfl hcat (hR3_use hR (by decide) (by decide)) (fun r ws2 hc => by obtain ⟨rfl, rfl⟩ := hc; exact kk)
  · exact V_cU2I X hd r4 (t_slip4 l G ad ws q a ha up) hq rfl hcat (hR3_use hR (by decide) (by decide)) (fun r ws2 hc => by obtain ⟨rfl, rfl⟩ := hc; exact kk)
theorem VU_aged (X : CX p s m args meth c cc nL y ret G A) {idx q k a : Nat} (hd : decode cc pc = .ok (.invokevirtual idx, 3)) (r0 : CU y.cls idx RX4 yX4_aged yX4_aged cX4_aged 2 (some .int) 1) (r1 : CU y.cls idx RX5 yX4_aged yX5_aged cX5_aged 2 (some .int) 1) (r2 : CU y.cls idx RX8 yX4_aged yX4_aged cX4_aged 2 (some .int) 1) (r3 : CU y.cls idx RX0 yX4_aged yX0_aged cX0_aged 2 (some .int) 1) (r4 : CU y.cls idx RX3 yX4_aged yX4_aged cX4_aged 2 (some .int) 1) (hk : k < 5) (hq : ws[q]? = some (oB (clsK k) [])) (ha : a < 10) (hcat : (st.map fun v => v.category).sum ≤ 8) (hR : hR3 R cells slots)
    (kk : V p l e R s m args below meth c cells slots Q G A nL ad ws (pc + 3) lv (.int (nI (agedK k a)) :: st)) : V p l e R s m args below meth c cells slots Q G A nL ad ws pc lv (.int (nI a) :: .ref q :: st) := by
  rcases (show k = 0 ∨ k = 1 ∨ k = 2 ∨ k = 3 ∨ k = 4 by omega) with rfl | rfl | rfl | rfl | rfl
  · exact V_cU1I X hd r0 (t_aged4 l G ad ws q _) hq rfl hcat (hR3_use hR (by decide) (by decide)) (fun r ws2 hc => by obtain ⟨rfl, rfl⟩ := hc; exact kk)
  · exact V_cU1I X hd r1 (t_aged5 l G ad ws q a ha) hq rfl hcat (hR3_use hR (by decide) (by decide)) (fun r ws2 hc => by obtain ⟨rfl, rfl⟩ := hc; exact kk)
  · exact V_cU1I X hd r2 (t_aged4 l G ad ws q _) hq rfl hcat (hR3_use hR (by decide) (by decide)) (fun r ws2 hc => by obtain ⟨rfl, rfl⟩ := hc; exact kk)
  · exact V_cU1I X hd r3 (t_aged0 l G ad ws q a ha hq) hq rfl hcat (hR3_use hR (by decide) (by decide)) (fun r ws2 hc => by obtain ⟨rfl, rfl⟩ := hc; exact kk)
  · exact V_cU1I X hd r4 (t_aged4 l G ad ws q _) hq rfl hcat (hR3_use hR (by decide) (by decide)) (fun r ws2 hc => by obtain ⟨rfl, rfl⟩ := hc; exact kk)
theorem VU_kind (X : CX p s m args meth c cc nL y ret G A) {idx q k : Nat} (hd : decode cc pc = .ok (.invokevirtual idx, 3)) (r0 : CU y.cls idx RX4 yX4_kind yX4_kind cX4_kind 1 (some .int) 0) (r1 : CU y.cls idx RX5 yX4_kind yX5_kind cX5_kind 1 (some .int) 0) (r2 : CU y.cls idx RX8 yX4_kind yX8_kind cX8_kind 1 (some .int) 0) (r3 : CU y.cls idx RX0 yX4_kind yX0_kind cX0_kind 1 (some .int) 0) (r4 : CU y.cls idx RX3 yX4_kind yX3_kind cX3_kind 1 (some .int) 0) (hk : k < 5) (hq : ws[q]? = some (oB (clsK k) [])) (hcat : (st.map fun v => v.category).sum ≤ 8) (hR : hR3 R cells slots)
    (kk : V p l e R s m args below meth c cells slots Q G A nL ad ws (pc + 3) lv (.int (nI k) :: st)) : V p l e R s m args below meth c cells slots Q G A nL ad ws pc lv (.ref q :: st) := by
  rcases (show k = 0 ∨ k = 1 ∨ k = 2 ∨ k = 3 ∨ k = 4 by omega) with rfl | rfl | rfl | rfl | rfl
  · exact V_cU0I X hd r0 (t_kind4 l G ad ws q) hq rfl hcat (hR3_use hR (by decide) (by decide)) (fun r ws2 hc => by obtain ⟨rfl, rfl⟩ := hc; exact kk)
  · exact V_cU0I X hd r1 (t_kind5 l G ad ws q) hq rfl hcat (hR3_use hR (by decide) (by decide)) (fun r ws2 hc => by obtain ⟨rfl, rfl⟩ := hc; exact kk)
  · exact V_cU0I X hd r2 (t_kind8 l G ad ws q) hq rfl hcat (hR3_use hR (by decide) (by decide)) (fun r ws2 hc => by obtain ⟨rfl, rfl⟩ := hc; exact kk)
  · exact V_cU0I X hd r3 (t_kind0 l G ad ws q) hq rfl hcat (hR3_use hR (by decide) (by decide)) (fun r ws2 hc => by obtain ⟨rfl, rfl⟩ := hc; exact kk)
  · exact V_cU0I X hd r4 (t_kind3 l G ad ws q) hq rfl hcat (hR3_use hR (by decide) (by decide)) (fun r ws2 hc => by obtain ⟨rfl, rfl⟩ := hc; exact kk)
end VM
