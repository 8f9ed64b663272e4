def CI (ci : Nat) (C : String) (T : u_T) (N : Nat) (ty : Nat → FieldType) : Prop := vwCl[ci]? = some (C, T, N) ∧ (∀ w ∈ u_ws C T N, w ∈ tb) ∧ (∀ k, k < N → parseFieldDescriptor (T k).2.2.1 = some (ty k)) ∧ (∀ a, a < N → ∀ b, b < N → a ≠ b → (T a).2.1 ≠ (T b).2.1)
def FL (own : String) (idx ci k : Nat) (fty : FieldType) (fin : Bool) : Prop := ∃ (C : String) (T : u_T) (N : Nat) (ty : Nat → FieldType), CI ci C T N ty ∧ k < N ∧ Cond.fieldLink own idx (T k).1 (T k).2.1 (T k).2.2.1 ∈ tb ∧ ty k = fty ∧ (T k).2.2.2 = fin ∧ (T k).1 = C
theorem cw_upd (G : GX) (ad : Nat → Nat) (ws : List CE) (k : Nat) {e : CE} {x : va_E} (h : cE G ad e = x) : (cw G ad ws).set k (ad k, x) = cw G ad (ws.set k e) := by rw [← h]; exact cw_set G ad ws k e
section VH
variable {p : Program} {l : Launch} {e : Env} {R : Room} {s : State} {m : MethodId} {args : Array Value} {below : List Frame} {meth : Method} {c : Code} {cells slots : Nat} {Q : State → Prop} {cc : ByteArray} {nL : Nat} {y : MethodName} {ret : Option FieldType} {G : GX} {A : Nat → Prop} {ad : Nat → Nat} {ws : List CE} {pc : Nat} {lv : List (Option Value)} {st : List Value}
theorem V_getf (X : CX p s m args meth c cc nL y ret G A) {idx ci k a : Nat} {fty : FieldType} {fin : Bool} {fs : List Value} {v : Value} (hd : decode cc pc = .ok (.getfield idx, 3)) (hf : FL y.cls idx ci k fty fin) (hw : ws[a]? = some (oB ci fs)) (hv : fs[k]? = some v) (kk : V p l e R s m args below meth c cells slots Q G A nL ad (ws) (pc + 3) (lv) (v :: st)) : V p l e R s m args below meth c cells slots Q G A nL ad (ws) (pc) (lv) (.ref a :: st) := by
  intro H locs ls hP hD hS hl
  obtain ⟨C, T, N, ty, ⟨h1, h2, h3, h4⟩, hk, hlink, -⟩ := hf
  exact va_get (D := G.1) (cl := vwCl) (ws := cw G ad ws) X.1.1 X.1.2.1 X.1.2.2.2.2 h2 X.1.2.2.2.1 X.2.1 hP a (fs := fs.map (cv ad)) (cw_get hw) h1 k hk (X.1.2.2.2.2 _ hlink) (fun _ h9 => h9) (v := cv ad v) (by rw [List.getElem?_map, hv]; rfl) hd (kk H locs ls hP hD hS hl)
theorem V_putf (X : CX p s m args meth c cc nL y ret G A) {idx ci k a : Nat} {fty : FieldType} {fs : List Value} {v : Value} (hd : decode cc pc = .ok (.putfield idx, 3)) (hf : FL y.cls idx ci k fty false) (hw : ws[a]? = some (oB ci fs)) (hk2 : k < fs.length) (hn : narrow fty (cv ad v) = cv ad v) (hfit : fits fty (cv ad v) = true) (kk : V p l e R s m args below meth c cells slots Q G A nL ad (ws.set a (oB ci (fs.set k v))) (pc + 3) (lv) (st)) : V p l e R s m args below meth c cells slots Q G A nL ad (ws) (pc) (lv) (v :: .ref a :: st) := by
  intro H locs ls hP hD hS hl
  obtain ⟨C, T, N, ty, ⟨h1, h2, h3, h4⟩, hk, hlink, h5, h6, -⟩ := hf
  refine va_put (D := G.1) (cl := vwCl) (ws := cw G ad ws) X.1.1 X.1.2.1 X.1.2.2.2.2 h2 ty h3 h4 X.1.2.2.2.1 X.2.1 hP hD hS a (fs := fs.map (cv ad)) (cw_get hw) h1 k hk (X.1.2.2.2.2 _ hlink) (fun _ h9 => h9) h6 (ty := fty) (v := cv ad v) (by rw [h3 k hk, h5]) hn hfit (by rw [List.length_map]; exact hk2) hd (fun H1 locs1 hP1 hD1 hS1 => ?_)
  rw [cw_upd G ad ws a (e := oB ci (fs.set k v)) (by show Sum.inr (ci, (fs.set k v).map (cv ad)) = _; rw [List.map_set])] at hP1 hD1
  exact kk H1 locs1 ls hP1 hD1 hS1 hl
theorem V_putF (X : CX p s m args meth c cc nL y ret G A) {idx ci k a : Nat} {fty : FieldType} {fs : List Value} {v : Value} (hd : decode cc pc = .ok (.putfield idx, 3)) (hf : FL y.cls idx ci k fty true) (hci : y.name = "<init>") (hw : ws[a]? = some (oB ci fs)) (hcn : ∃ T N, vwCl[ci]? = some (y.cls, T, N)) (hk2 : k < fs.length) (hn : narrow fty (cv ad v) = cv ad v) (hfit : fits fty (cv ad v) = true) (kk : V p l e R s m args below meth c cells slots Q G A nL ad (ws.set a (oB ci (fs.set k v))) (pc + 3) (lv) (st)) : V p l e R s m args below meth c cells slots Q G A nL ad (ws) (pc) (lv) (v :: .ref a :: st) := by
  intro H locs ls hP hD hS hl
  obtain ⟨C, T, N, ty, ⟨h1, h2, h3, h4⟩, hk, hlink, h5, h6, h7⟩ := hf
  obtain ⟨T', N', h8⟩ := hcn
  have hC : C = y.cls := congrArg (fun q : vw_C => q.1) (Option.some.inj (h1.symm.trans h8))
  refine va_putF (D := G.1) (cl := vwCl) (ws := cw G ad ws) X.1.1 X.1.2.1 X.1.2.2.2.2 h2 ty h3 h4 X.1.2.2.2.1 X.2.1 hP hD hS a (fs := fs.map (cv ad)) (cw_get hw) h1 k hk (X.1.2.2.2.2 _ hlink) (fun _ h9 => h9) h6 (X.2.2.2.2.2.2.trans hci) (h7.trans hC) (ty := fty) (v := cv ad v) (by rw [h3 k hk, h5]) hn hfit (by rw [List.length_map]; exact hk2) hd (fun H1 locs1 hP1 hD1 hS1 => ?_)
  rw [cw_upd G ad ws a (e := oB ci (fs.set k v)) (by show Sum.inr (ci, (fs.set k v).map (cv ad)) = _; rw [List.map_set])] at hP1 hD1
  exact kk H1 locs1 ls hP1 hD1 hS1 hl
theorem V_iald (X : CX p s m args meth c cc nL y ret G A) {a n : Nat} {f : Nat → Int32} {i : Int32} (j : Nat) (hd : decode cc pc = .ok (.iaload, 1)) (hw : ws[a]? = some (iA n f)) (hi : i = nI j) (hj : j < n) (hn : n < 2147483648) (kk : V p l e R s m args below meth c cells slots Q G A nL ad (ws) (pc + 1) (lv) (.int (f j) :: st)) : V p l e R s m args below meth c cells slots Q G A nL ad (ws) (pc) (lv) (.int i :: .ref a :: st) := by
  subst hi
  intro H locs ls hP hD hS hl
  have hcl : (nI j).toNatClampNeg = j := nI_clamp (by omega)
  refine va_iald (D := G.1) (cl := vwCl) (ws := cw G ad ws) X.1.1 X.1.2.1 X.2.1 hP a 0 (cw_get hw) rfl (vp_in_nI hj hn) hd ?_
  rw [hcl]
  exact kk H locs ls hP hD hS hl
theorem V_iast (X : CX p s m args meth c cc nL y ret G A) {a n : Nat} {f : Nat → Int32} {i x : Int32} (j : Nat) (hd : decode cc pc = .ok (.iastore, 1)) (hw : ws[a]? = some (iA n f)) (hi : i = nI j) (hj : j < n) (hn : n < 2147483648) (kk : V p l e R s m args below meth c cells slots Q G A nL ad (ws.set a (iA n (upd f j x))) (pc + 1) (lv) (st)) : V p l e R s m args below meth c cells slots Q G A nL ad (ws) (pc) (lv) (.int x :: .int i :: .ref a :: st) := by
  subst hi
  intro H locs ls hP hD hS hl
  have hcl : (nI j).toNatClampNeg = j := nI_clamp (by omega)
  refine va_iast (D := G.1) (cl := vwCl) (ws := cw G ad ws) X.1.1 X.1.2.1 X.2.1 hP hD hS a 0 (cw_get hw) rfl (vp_in_nI hj hn) hd (fun H1 locs1 hP1 hD1 hS1 => ?_)
  rw [hcl] at hP1 hD1
  have hP2 : va_P G.1 vwCl (cw G ad (ws.set a (iA n (upd f j x)))) H1 := by rw [← cw_set]; exact hP1
  have hD2 : va_D A (cw G ad (ws.set a (iA n (upd f j x)))) := by rw [← cw_set]; exact hD1
  exact kk H1 locs1 ls hP2 hD2 hS1 hl
theorem V_alen (X : CX p s m args meth c cc nL y ret G A) {a n : Nat} {f : Nat → Int32} (hd : decode cc pc = .ok (.arraylength, 1)) (hw : ws[a]? = some (iA n f)) (kk : V p l e R s m args below meth c cells slots Q G A nL ad (ws) (pc + 1) (lv) (.int (nI n) :: st)) : V p l e R s m args below meth c cells slots Q G A nL ad (ws) (pc) (lv) (.ref a :: st) := by
  intro H locs ls hP hD hS hl
  exact va_alen (D := G.1) (cl := vwCl) (ws := cw G ad ws) X.1.1 X.1.2.1 X.2.1 hP a 0 (x := (n, .inl f)) (cw_get hw) (ty := .int) rfl rfl hd (kk H locs ls hP hD hS hl)
theorem V_aald (X : CX p s m args meth c cc nL y ret G A) {a k : Nat} {xs : List (Option Nat)} {i : Int32} (j : Nat) (hd : decode cc pc = .ok (.aaload, 1)) (hw : ws[a]? = some (rA xs)) (hi : i = nI j) (hj : xs[j]? = some (some k)) (hn : xs.length < 2147483648) (kk : V p l e R s m args below meth c cells slots Q G A nL ad (ws) (pc + 1) (lv) (.ref k :: st)) : V p l e R s m args below meth c cells slots Q G A nL ad (ws) (pc) (lv) (.int i :: .ref a :: st) := by
  subst hi
  intro H locs ls hP hD hS hl
  have hlt : j < xs.length := (List.getElem?_eq_some_iff.mp hj).1
  have hcl : (nI j).toNatClampNeg = j := nI_clamp (by omega)
  refine va_aldq (D := G.1) (cl := vwCl) (ws := cw G ad ws) X.1.1 X.1.2.1 X.2.1 hP a 1 (cw_get hw) rfl (vp_in_nI hlt hn) hd ?_
  rw [hcl]
  have e1 : (xs.getD j none).map ad = some (ad k) := by rw [List.getD_eq_getElem?_getD, hj]; rfl
  rw [e1]
  exact kk H locs ls hP hD hS hl
theorem V_getP (X : CX p s m args meth c cc nL y ret G A) {idx : Nat} (hd : decode cc pc = .ok (.getstatic idx, 3)) (hk : ad kP = G.2.2.2) (hl0 : Cond.fieldLink y.cls idx "LikeLastYears" "POWER" "[I" ∈ tb ∨ Cond.fieldLinkNest y.cls idx "LikeLastYears" "POWER" "[I" "LikeLastYears" ∈ nst) (kk : V p l e R s m args below meth c cells slots Q G A nL ad (ws) (pc + 3) (lv) (.ref kP :: st)) : V p l e R s m args below meth c cells slots Q G A nL ad (ws) (pc) (lv) (st) := by
  intro H locs ls hP hD hS hl
  have k2 := kk H locs ls hP hD hS hl
  have e1 : (Value.ref kP :: st).map (cv ad) = .ref G.2.2.2 :: st.map (cv ad) := by show Value.ref (ad kP) :: _ = _; rw [hk]
  rw [e1] at k2
  rcases hl0 with h | h
  · exact va_gets X.1.1 X.1.2.1 X.2.2.2.1.1 hS X.1.2.2.2.1 (X.1.2.2.2.2 _ h) (fun _ h9 => h9) hd k2
  · exact va_getsN X.1.1 X.1.2.1 X.2.2.2.1.1 hS X.1.2.2.2.1 (va_Nw.use rfl (X.2.2.2.1.2.2.2.1 _ h)) (fun _ h9 => h9) hd k2
theorem V_ialdP (X : CX p s m args meth c cc nL y ret G A) {i : Int32} (j : Nat) (hd : decode cc pc = .ok (.iaload, 1)) (hk : ad kP = G.2.2.2) (hi : i = nI j) (hj : j < 5) (kk : V p l e R s m args below meth c cells slots Q G A nL ad (ws) (pc + 1) (lv) (.int (nI (10 ^ j)) :: st)) : V p l e R s m args below meth c cells slots Q G A nL ad (ws) (pc) (lv) (.int i :: .ref kP :: st) := by
  subst hi
  intro H locs ls hP hD hS hl
  have hcl : (nI j).toNatClampNeg = j := nI_clamp (by omega)
  have k2 := va_ti X.1.1 X.1.2.1 X.2.2.2.1.2.1 hS (vp_in_nI hj (by decide)) (v := .int (nI (10 ^ j))) (by rw [hcl]; rfl) hd (kk H locs ls hP hD hS hl)
  have e1 : (Value.int (nI j) :: Value.ref kP :: st).map (cv ad) = .int (nI j) :: .ref G.2.2.2 :: st.map (cv ad) := by show _ :: Value.ref (ad kP) :: _ = _; rw [hk]; rfl
  rw [e1]
  exact k2
theorem V_alenP (X : CX p s m args meth c cc nL y ret G A) (hd : decode cc pc = .ok (.arraylength, 1)) (hk : ad kP = G.2.2.2) (kk : V p l e R s m args below meth c cells slots Q G A nL ad (ws) (pc + 1) (lv) (.int (nI 5) :: st)) : V p l e R s m args below meth c cells slots Q G A nL ad (ws) (pc) (lv) (.ref kP :: st) := by
  intro H locs ls hP hD hS hl
  have k2 := va_tlen X.1.1 X.1.2.1 X.2.2.2.1.2.1 hS (v := nI 5) rfl hd (kk H locs ls hP hD hS hl)
  have e1 : (Value.ref kP :: st).map (cv ad) = .ref G.2.2.2 :: st.map (cv ad) := by show Value.ref (ad kP) :: _ = _; rw [hk]
  rw [e1]
  exact k2
theorem V_ldc (X : CX p s m args meth c cc nL y ret G A) {idx : Nat} {v : Int32} (hd : decode cc pc = .ok (.ldc idx, 2)) (hc : Cond.constant y.cls idx v ∈ tb) (kk : V p l e R s m args below meth c cells slots Q G A nL ad (ws) (pc + 2) (lv) (.int v :: st)) : V p l e R s m args below meth c cells slots Q G A nL ad (ws) (pc) (lv) (st) := fun H locs ls hP hD hS hl => lv_ldc X.1.1 X.1.2.1 X.1.2.2.2.1 (X.1.2.2.2.2 _ hc) hd (kk H locs ls hP hD hS hl)
theorem V_ldcw (X : CX p s m args meth c cc nL y ret G A) {idx : Nat} {v : Int32} (hd : decode cc pc = .ok (.ldc_w idx, 3)) (hc : Cond.constant y.cls idx v ∈ tb) (kk : V p l e R s m args below meth c cells slots Q G A nL ad (ws) (pc + 3) (lv) (.int v :: st)) : V p l e R s m args below meth c cells slots Q G A nL ad (ws) (pc) (lv) (st) := fun H locs ls hP hD hS hl => lv_ldcw X.1.1 X.1.2.1 X.1.2.2.2.1 (X.1.2.2.2.2 _ hc) hd (kk H locs ls hP hD hS hl)
theorem V_ldc2 (X : CX p s m args meth c cc nL y ret G A) {idx : Nat} {v : Int64} (hd : decode cc pc = .ok (.ldc2_w idx, 3)) (hc : Cond.constantLong y.cls idx v ∈ tb) (kk : V p l e R s m args below meth c cells slots Q G A nL ad (ws) (pc + 3) (lv) (.long v :: st)) : V p l e R s m args below meth c cells slots Q G A nL ad (ws) (pc) (lv) (st) := fun H locs ls hP hD hS hl => lv_ldc2 X.1.1 X.1.2.1 X.1.2.2.2.1 (X.1.2.2.2.2 _ hc) hd (kk H locs ls hP hD hS hl)
theorem V_eqS {st2 : List Value} (h : st = st2) (k : V p l e R s m args below meth c cells slots Q G A nL ad (ws) (pc) (lv) (st2)) : V p l e R s m args below meth c cells slots Q G A nL ad (ws) (pc) (lv) (st) := h ▸ k
theorem V_eqL {lv2 : List (Option Value)} (h : lv = lv2) (k : V p l e R s m args below meth c cells slots Q G A nL ad (ws) (pc) (lv2) (st)) : V p l e R s m args below meth c cells slots Q G A nL ad (ws) (pc) (lv) (st) := h ▸ k
theorem V_eqW {ws2 : List CE} (h : ws = ws2) (k : V p l e R s m args below meth c cells slots Q G A nL ad (ws2) (pc) (lv) (st)) : V p l e R s m args below meth c cells slots Q G A nL ad (ws) (pc) (lv) (st) := h ▸ k
theorem V_widen {mc ms : Nat} (h1 : cells ≤ mc) (h2 : slots ≤ ms) (k : V p l e R s m args below meth c mc ms Q G A nL ad ws pc lv st) : V p l e R s m args below meth c cells slots Q G A nL ad (ws) (pc) (lv) (st) := fun H locs ls hP hD hS hl => W.widen h1 h2 (k H locs ls hP hD hS hl)
end VH
def QQ (G : GX) (A : Nat → Prop) (post : (Nat → Nat) → Option Value → List CE → Prop) : Array Value → State → Outcome → State → Prop := fun _ st oc t => (∃ (ad2 : Nat → Nat) (v : Option Value) (ws2 : List CE), oc = .returned (v.map (cv ad2)) ∧ post ad2 v ws2 ∧ va_P G.1 vwCl (cw G ad2 ws2) t.heap ∧ va_D A (cw G ad2 ws2)) ∧ va_F A st t
abbrev pI (ad : Nat → Nat) (Po : Int32 → List CE → Prop) : (Nat → Nat) → Option Value → List CE → Prop := fun ad2 v ws2 => ad2 = ad ∧ ∃ r : Int32, v = some (.int r) ∧ Po r ws2
abbrev pL (ad : Nat → Nat) (Po : Int64 → List CE → Prop) : (Nat → Nat) → Option Value → List CE → Prop := fun ad2 v ws2 => ad2 = ad ∧ ∃ r : Int64, v = some (.long r) ∧ Po r ws2
abbrev pR (ad : Nat → Nat) (Po : Nat → List CE → Prop) : (Nat → Nat) → Option Value → List CE → Prop := fun ad2 v ws2 => ad2 = ad ∧ ∃ r : Nat, v = some (.ref r) ∧ Po r ws2
abbrev pV (ad : Nat → Nat) (Po : List CE → Prop) : (Nat → Nat) → Option Value → List CE → Prop := fun ad2 v ws2 => ad2 = ad ∧ v = none ∧ Po ws2
section VR
variable {p : Program} {l : Launch} {e : Env} {R : Room} {s : State} {m : MethodId} {args : Array Value} {below : List Frame} {meth : Method} {c : Code} {cells slots : Nat} {Q : State → Prop} {cc : ByteArray} {nL : Nat} {y : MethodName} {ret : Option FieldType} {G : GX} {A : Nat → Prop} {ad : Nat → Nat} {ws : List CE} {pc : Nat} {lv : List (Option Value)} {st : List Value}
theorem V_iret {Po : Int32 → List CE → Prop} {v : Int32} (X : CX p s m args meth c cc nL y (some .int) G A) (hd : decode cc pc = .ok (.ireturn, 1)) (hp : Po v ws) : V p l e R s m args below meth c cells slots (MQ below (QQ G A (pI ad Po)) args s cells slots A) G A nL ad ws pc lv [.int v] := by
  intro H locs ls hP hD hS hl
  exact W.iret (v := v) X.1.1 X.1.2.1 X.2.2.2.2.2.1 (fun t ht hW => ⟨⟨ad, some (.int v), ws, rfl, ⟨rfl, v, rfl, hp⟩, by rw [ht]; exact hP, hD⟩, hS.F ht⟩) hS.2.2 hd X.2.2.2.2.1
theorem V_zret {Po : Int32 → List CE → Prop} {v : Int32} (X : CX p s m args meth c cc nL y (some .boolean) G A) (hd : decode cc pc = .ok (.ireturn, 1)) (hn : narrow .boolean (.int v) = .int v) (hp : Po v ws) : V p l e R s m args below meth c cells slots (MQ below (QQ G A (pI ad Po)) args s cells slots A) G A nL ad ws pc lv [.int v] := by
  intro H locs ls hP hD hS hl
  exact W.zret (v := v) X.1.1 X.1.2.1 X.2.2.2.2.2.1 hn (fun t ht hW => ⟨⟨ad, some (.int v), ws, rfl, ⟨rfl, v, rfl, hp⟩, by rw [ht]; exact hP, hD⟩, hS.F ht⟩) hS.2.2 hd X.2.2.2.2.1
theorem V_lret {Po : Int64 → List CE → Prop} {v : Int64} (X : CX p s m args meth c cc nL y (some .long) G A) (hd : decode cc pc = .ok (.lreturn, 1)) (hp : Po v ws) : V p l e R s m args below meth c cells slots (MQ below (QQ G A (pL ad Po)) args s cells slots A) G A nL ad ws pc lv [.long v] := by
  intro H locs ls hP hD hS hl
  exact W.lret (v := v) X.1.1 X.1.2.1 X.2.2.2.2.2.1 (fun t ht hW => ⟨⟨ad, some (.long v), ws, rfl, ⟨rfl, v, rfl, hp⟩, by rw [ht]; exact hP, hD⟩, hS.F ht⟩) hS.2.2 hd X.2.2.2.2.1
theorem V_aretC {Po : Nat → List CE → Prop} {k : Nat} {C : String} (X : CX p s m args meth c cc nL y (some (.object C)) G A) (hd : decode cc pc = .ok (.areturn, 1)) (hp : Po k ws) : V p l e R s m args below meth c cells slots (MQ below (QQ G A (pR ad Po)) args s cells slots A) G A nL ad ws pc lv [.ref k] := by
  intro H locs ls hP hD hS hl
  exact W.aret (v := .ref (ad k)) X.1.1 X.1.2.1 X.2.2.2.2.2.1 (Or.inl ⟨_, rfl⟩) (Or.inr ⟨_, rfl⟩) (fun t ht hW => ⟨⟨ad, some (.ref k), ws, rfl, ⟨rfl, k, rfl, hp⟩, by rw [ht]; exact hP, hD⟩, hS.F ht⟩) hS.2.2 hd X.2.2.2.2.1
theorem V_vret {Po : List CE → Prop} (X : CX p s m args meth c cc nL y none G A) (hd : decode cc pc = .ok (.return_, 1)) (hp : Po ws) : V p l e R s m args below meth c cells slots (MQ below (QQ G A (pV ad Po)) args s cells slots A) G A nL ad ws pc lv [] := by
  intro H locs ls hP hD hS hl
  exact W.vret X.1.1 X.1.2.1 X.2.2.2.2.2.1 (fun t ht hW => ⟨⟨ad, none, ws, rfl, ⟨rfl, rfl, hp⟩, by rw [ht]; exact hP, hD⟩, hS.F ht⟩) hS.2.2 hd X.2.2.2.2.1
end VR
def rmm (h mc ms : Nat) : Room := { frames := h, cells := mc, slots := ms, locals := 40 * h }
def PW (G : GX) (ad : Nat → Nat) (ws : List CE) (sz : Nat) (U : State) : Prop := U.heap.size = sz ∧ va_P G.1 vwCl (cw G ad ws) U.heap ∧ va_K G.1 vwCl (tysG G) U ∧ va_D (fun _ => True) (cw G ad ws) ∧ SX G (va_A (cw G ad ws) sz) U U.heap
def Ct (l : Launch) (G : GX) (y : MethodName) (cc : ByteArray) (nL : Nat) (ret : Option FieldType) (h mc ms : Nat) (ad : Nat → Nat) (ws : List CE) (as : List Value) (post : (Nat → Nat) → Option Value → List CE → Prop) : Prop :=
  ∀ sz : Nat, Met l y (Cond.code y cc nL ret :: tb) (rmm h mc ms) (va_Pc (as.map (cv ad)) (PW G ad ws sz)) (QQ G (va_A (cw G ad ws) sz) post) mc ms (va_A (cw G ad ws) sz)
def elv : List Value → List (Option Value)
  | [] => []
  | .long x :: r => some (.long x) :: none :: elv r
  | .double x :: r => some (.double x) :: none :: elv r
  | v :: r => some v :: elv r
theorem lvp_rep (ad : Nat → Nat) (i n : Nat) : lvp ad i (List.replicate n none) = [] := by
  induction n generalizing i with
  | zero => rfl
  | succ n ih => rw [List.replicate_succ, lvp]; exact ih (i + 1)
theorem lvp_elv (ad : Nat → Nat) (n : Nat) : ∀ (as : List Value) (i : Nat), lvp ad i (elv as ++ List.replicate n none) = lv_args i (as.map (cv ad))
  | [], i => by simpa [elv, lv_args] using lvp_rep ad i n
  | .long x :: r, i => by
    simp only [elv, List.cons_append, lvp, lvp_elv ad n r, List.map_cons, lv_args]
    rfl
  | .double x :: r, i => by
    simp only [elv, List.cons_append, lvp, lvp_elv ad n r, List.map_cons, lv_args]
    rfl
  | .int x :: r, i => by
    simp only [elv, List.cons_append, lvp, lvp_elv ad n r, List.map_cons, lv_args]
    rfl
  | .float x :: r, i => by
    simp only [elv, List.cons_append, lvp, lvp_elv ad n r, List.map_cons, lv_args]
    rfl
  | .ref x :: r, i => by
    simp only [elv, List.cons_append, lvp, lvp_elv ad n r, List.map_cons, lv_args]
    rfl
  | .null :: r, i => by
    simp only [elv, List.cons_append, lvp, lvp_elv ad n r, List.map_cons, lv_args]
    rfl
  | .retAddr x :: r, i => by
    simp only [elv, List.cons_append, lvp, lvp_elv ad n r, List.map_cons, lv_args]
    rfl
theorem elv_len (ad : Nat → Nat) : ∀ (as : List Value), (lg_sl (as.map (cv ad))).length = (elv as).length
  | [] => rfl
  | .long x :: r => by have := elv_len ad r; simp only [elv, List.map_cons, List.length_cons, lg_sl, List.flatMap_cons, List.length_append] at this ⊢; rw [this]; simp [cv, Value.category]; omega
  | .double x :: r => by have := elv_len ad r; simp only [elv, List.map_cons, List.length_cons, lg_sl, List.flatMap_cons, List.length_append] at this ⊢; rw [this]; simp [cv, Value.category]; omega
  | .int x :: r => by have := elv_len ad r; simp only [elv, List.map_cons, List.length_cons, lg_sl, List.flatMap_cons, List.length_append] at this ⊢; rw [this]; simp [cv, Value.category]; omega
  | .float x :: r => by have := elv_len ad r; simp only [elv, List.map_cons, List.length_cons, lg_sl, List.flatMap_cons, List.length_append] at this ⊢; rw [this]; simp [cv, Value.category]; omega
  | .ref x :: r => by have := elv_len ad r; simp only [elv, List.map_cons, List.length_cons, lg_sl, List.flatMap_cons, List.length_append] at this ⊢; rw [this]; simp [cv, Value.category]; omega
  | .null :: r => by have := elv_len ad r; simp only [elv, List.map_cons, List.length_cons, lg_sl, List.flatMap_cons, List.length_append] at this ⊢; rw [this]; simp [cv, Value.category]; omega
  | .retAddr x :: r => by have := elv_len ad r; simp only [elv, List.map_cons, List.length_cons, lg_sl, List.flatMap_cons, List.length_append] at this ⊢; rw [this]; simp [cv, Value.category]; omega
theorem Met_ofWF {l : Launch} {y : MethodName} {ws ws' : List Cond} {rm : Room} {Pc : Array Value → State → Prop} {Qc : Array Value → State → Outcome → State → Prop} {mc ms : Nat} {free : Addr → Prop} {cc : ByteArray} {maxL : Nat} {ret : Option FieldType}
    (hy : plainFor y = true) (hw : ws = Cond.code y cc maxL ret :: ws')
    (body : ∀ p e s m args below meth c s₁, BodyLoose p l y (headSpec ws rm) cc maxL ret e s m args below meth c s₁ → c.maxLocals = maxL → Pc args s →
      W p l e (headSpec ws rm).room s m args below meth c s.heap [] 0 0 (MQ below Qc args s mc ms free) (entryFrame m args maxL)) : Met l y ws rm Pc Qc mc ms free := by
  refine MetFree.of_bodySF (code := cc) (maxLocals := maxL) (ret := ret) hy ?_ ?_
  · intro args s m h hn
    obtain ⟨meth, c, h1, h2, h3, h4, h5, h6, -, -⟩ := Cond.code_spec hn (atoms_spec (ws := ws) h _ (by rw [hw]; exact List.mem_cons_self))
    exact ⟨meth, c, h1, h2, h3, h4, h5, h6⟩
  · intro p e s m args below meth c s₁ B hml hP _
    have hh0 : s₁.heap = s.heap := by rw [B.state]; rfl
    obtain ⟨t, a1, o, b1, b2, b3⟩ := body p e s m args below meth c s₁ B hml hP s₁ hh0 (Stand.of_body B)
    exact ⟨t, o, a1, b1, b2, ⟨b3.1, b3.2⟩⟩
theorem Ct.of {l : Launch} {G : GX} {y : MethodName} {cc : ByteArray} {nL : Nat} {ret : Option FieldType} {h mc ms : Nat} {ad : Nat → Nat} {ws : List CE} {as : List Value} {post : (Nat → Nat) → Option Value → List CE → Prop} (lv : List (Option Value)) (hy : plainFor y = true) (hle : (elv as).length ≤ nL) (hlv : elv as ++ List.replicate (nL - (elv as).length) none = lv)
    (body : ∀ (p : Program) (e : Env) (s : State) (m : MethodId) (args : Array Value) (below : List Frame) (meth : Method) (c : Code) (A : Nat → Prop), CX p s m args meth c cc nL y ret G A → V p l e (rmm h mc ms) s m args below meth c 0 0 (MQ below (QQ G A post) args s mc ms A) G A nL ad ws 0 lv []) : Ct l G y cc nL ret h mc ms ad ws as post := by
  intro sz
  refine Met_ofWF (cc := cc) (maxL := nL) (ret := ret) hy rfl ?_
  intro p e s m args below meth c s₁ B hml hv
  obtain ⟨rfl, hsz, hP, hK, hD0, hSX⟩ := hv
  have hts := atoms_spec (ws := Cond.code y cc nL ret :: tb) B.pre
  have hown : s.vm.findClass y.cls = some m.cls := findClass_of_methodNamed B.named
  have hin : meth.name = y.name := (name_of_methodNamed B.named B.method).1
  subst hsz
  have hD := hD0.self (sz := s.heap.size)
  generalize hAe : va_A (cw G ad ws) s.heap.size = A at hD hSX ⊢
  have hA : ∀ q : Nat, s.heap.size ≤ q → A q := fun q h => by rw [← hAe]; exact Or.inr h
  have hl := lv_entry (as.map (cv ad)) (n := nL) (by rw [elv_len]; exact hle)
  rw [lg_entry_eq]
  refine body p e s m _ below meth c A ⟨⟨B.exec, B.bytes, hml, hown, fun w hw => hts w (List.mem_cons_of_mem _ hw)⟩, hK, hA, hSX, B.notSynchronized, B.returns, hin⟩ s.heap [] _ hP hD va_S.rf ⟨?_, ?_⟩
  · rw [← hlv, lvp_elv]
    exact hl
  · rw [← hlv, List.length_append, List.length_replicate]
    omega
