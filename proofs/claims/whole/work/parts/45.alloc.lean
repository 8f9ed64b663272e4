/-! new objects: places and scopes -/
def okV (n : Nat) : Value → Bool
  | .ref k => decide (k < n)
  | _ => true
def okE (n : Nat) : CE → Bool
  | .inl _ => true
  | .inr (.inl xs) => xs.all (fun x => x.all (fun k => decide (k < n)))
  | .inr (.inr q) => q.2.all (okV n)
def okW (n : Nat) (w : List CE) : Bool := w.all (okE n)
def okL (n : Nat) (lv : List (Option Value)) : Bool := lv.all (fun x => x.all (okV n))
def agr (n : Nat) (ad ad2 : Nat → Nat) : Prop := ∀ k, k < n → ad2 k = ad k
theorem agr.trans {n n2 : Nat} {a b c : Nat → Nat} (h1 : agr n a b) (h2 : agr n2 b c) (h : n ≤ n2) : agr n a c := fun k hk => (h2 k (by omega)).trans (h1 k hk)
theorem agr.refl (n : Nat) (a : Nat → Nat) : agr n a a := fun _ _ => rfl
theorem agr.le {n n2 : Nat} {a b : Nat → Nat} (h1 : agr n2 a b) (h : n ≤ n2) : agr n a b := fun k hk => h1 k (by omega)
theorem cv_ok {n : Nat} {ad ad2 : Nat → Nat} (h : agr n ad ad2) : ∀ {v : Value}, okV n v = true → cv ad2 v = cv ad v
  | .ref k, hv => by show Value.ref (ad2 k) = .ref (ad k); rw [h k (of_decide_eq_true hv)]
  | .int _, _ => rfl
  | .long _, _ => rfl
  | .float _, _ => rfl
  | .double _, _ => rfl
  | .null, _ => rfl
  | .retAddr _, _ => rfl
theorem st_ok {n : Nat} {ad ad2 : Nat → Nat} (h : agr n ad ad2) {st : List Value} (hs : st.all (okV n) = true) : st.map (cv ad2) = st.map (cv ad) :=
  List.map_congr_left (fun v hv => cv_ok h (List.all_eq_true.mp hs v hv))
theorem cE_ok {G : GX} {n : Nat} {ad ad2 : Nat → Nat} (h : agr n ad ad2) : ∀ {e : CE}, okE n e = true → cE G ad2 e = cE G ad e
  | .inl _, _ => rfl
  | .inr (.inl xs), he => by
    show Sum.inl (G.2.2.1, xs.length, Sum.inr (Sum.inr (Sum.inr (Sum.inr (fun i => (xs.getD i none).map ad2))))) = Sum.inl (G.2.2.1, xs.length, Sum.inr (Sum.inr (Sum.inr (Sum.inr (fun i => (xs.getD i none).map ad)))))
    have : (fun i => (xs.getD i none).map ad2) = (fun i => (xs.getD i none).map ad) := by
      funext i
      rw [List.getD_eq_getElem?_getD]
      cases hx : xs[i]? with
      | none => rfl
      | some x =>
        cases x with
        | none => rfl
        | some k =>
          have := List.all_eq_true.mp he (some k) (List.mem_of_getElem? hx)
          show some (ad2 k) = some (ad k)
          rw [h k (of_decide_eq_true this)]
    rw [this]
  | .inr (.inr q), he => by
    show Sum.inr (q.1, q.2.map (cv ad2)) = Sum.inr (q.1, q.2.map (cv ad))
    rw [st_ok h he]
theorem cw_ok {G : GX} {n : Nat} {ad ad2 : Nat → Nat} (h : agr n ad ad2) {w : List CE} (hw : okW n w = true) (hn : w.length ≤ n) : cw G ad2 w = cw G ad w := by
  apply List.ext_getElem?
  intro i
  rw [cw_at, cw_at]
  cases hx : w[i]? with
  | none => rfl
  | some e =>
    have hi : i < w.length := (List.getElem?_eq_some_iff.mp hx).1
    show some (ad2 i, cE G ad2 e) = some (ad i, cE G ad e)
    rw [h i (by omega), cE_ok h (List.all_eq_true.mp hw e (List.mem_of_getElem? hx))]
theorem cw_app (G : GX) (ad : Nat → Nat) (w : List CE) (e : CE) : cw G ad (w ++ [e]) = cw G ad w ++ [(ad w.length, cE G ad e)] := by simp [cw, List.mapIdx_append]
theorem lvp_ok {n : Nat} {ad ad2 : Nat → Nat} (h : agr n ad ad2) : ∀ {lv : List (Option Value)} (i : Nat), okL n lv = true → lvp ad2 i lv = lvp ad i lv
  | [], _, _ => rfl
  | none :: r, i, hl => by
    have h2 : okL n r = true := (List.all_cons ▸ hl : ((none : Option Value).all (okV n) && okL n r) = true)
    show lvp ad2 (i + 1) r = lvp ad (i + 1) r
    exact lvp_ok h (i + 1) h2
  | some v :: r, i, hl => by
    have h2 : ((some v).all (okV n) && okL n r) = true := (List.all_cons ▸ hl)
    rw [Bool.and_eq_true] at h2
    show (i, cv ad2 v) :: lvp ad2 (i + 1) r = (i, cv ad v) :: lvp ad (i + 1) r
    rw [cv_ok h h2.1, lvp_ok h (i + 1) h2.2]
def adN (ad : Nat → Nat) (n q : Nat) : Nat → Nat := fun k => if k = n then q else ad k
theorem adN_agr (ad : Nat → Nat) (n q : Nat) : agr n ad (adN ad n q) := fun k hk => if_neg (by omega)
theorem adN_ne (ad : Nat → Nat) {n q k : Nat} (h : k ≠ n) : adN ad n q k = ad k := if_neg h
theorem adN_at (ad : Nat → Nat) (n q : Nat) : adN ad n q n = q := if_pos rfl
section VN
variable {p : Program} {l : Launch} {e : Env} {R : Room} {s : State} {m : MethodId} {args : Array Value} {below : List Frame} {meth : Method} {c : Code} {cells slots : Nat} {Q : State → Prop} {cc : ByteArray} {nL : Nat} {y : MethodName} {ret : Option FieldType} {G : GX} {A : Nat → Prop} {ad : Nat → Nat} {ws : List CE} {pc : Nat} {lv : List (Option Value)} {st : List Value}
def CNew (own : String) (idx ci N : Nat) (fs : List Value) : Prop := ∃ (C : String) (T : u_T) (ty : Nat → FieldType), CI ci C T N ty ∧ Cond.classLink own idx C ∈ tb ∧ Cond.instantiable C N ∈ tb ∧ Cond.initialized C ∈ tb ∧ ∀ j, j < N → defaultValue (ty j) = vp_V fs j
theorem V_new (X : CX p s m args meth c cc nL y ret G A) {idx ci N : Nat} {fs : List Value} (n : Nat) (hd : decode cc pc = .ok (.new idx, 3)) (hf : CNew y.cls idx ci N fs) (hfs : ∀ b : Nat → Nat, fs.map (cv b) = fs) (hn : ws.length = n) (hw : okW n ws = true) (hl2 : okL n lv = true) (hs2 : st.all (okV n) = true) (hcells : cells + 1 ≤ R.cells) (hslots : slots + N ≤ R.slots)
    (kk : ∀ ad2 : Nat → Nat, agr n ad ad2 → (ad2 kP = ad kP ∨ n = kP) → V p l e R s m args below meth c (cells + 1) (slots + N) Q G A nL ad2 (ws ++ [oB ci fs]) (pc + 3) lv (.ref n :: st)) : V p l e R s m args below meth c cells slots Q G A nL ad ws pc lv st := by
  intro H locs ls hP hD hS hl
  obtain ⟨C, T, ty, ⟨h1, h2, h3, h4⟩, hcl, hin, hini, hty⟩ := hf
  refine va_new (D := G.1) (cl := vwCl) (ws := cw G ad ws) (Ts := tb) (fs := fs) X.1.1 X.1.2.1 X.1.2.2.2.2 h2 ty h3 X.1.2.2.2.1 (X.1.2.2.2.2 _ hcl) (X.1.2.2.2.2 _ hin) (X.1.2.2.2.2 _ hini) X.2.1 hP hD hS X.2.2.1 h1 hty hcells hslots hd (fun q H1 hP1 hD1 hS1 => ?_)
  have ag := adN_agr ad n q
  have ew : cw G (adN ad n q) (ws ++ [oB ci fs]) = cw G ad ws ++ [(q, .inr (ci, fs))] := by
    rw [cw_app, cw_ok ag hw (by omega), hn, adN_at]
    show _ ++ [(q, Sum.inr (ci, fs.map (cv (adN ad n q))))] = _
    rw [hfs]
  rw [← ew] at hP1 hD1
  have := kk (adN ad n q) ag (by by_cases h : n = kP; exact Or.inr h; exact Or.inl (adN_ne ad (fun e => h e.symm))) H1 locs ls hP1 hD1 hS1 ⟨by rw [lvp_ok ag 0 hl2]; exact hl.1, hl.2⟩
  have es : (Value.ref n :: st).map (cv (adN ad n q)) = .ref q :: st.map (cv ad) := by
    show Value.ref (adN ad n q n) :: st.map _ = _
    rw [adN_at, st_ok ag hs2]
  rw [es] at this
  exact this
theorem w_ac : Cond.arrayClass .int ∈ tb := tb_mem 122 (by decide +kernel) (by decide +kernel)
theorem V_newa (X : CX p s m args meth c cc nL y ret G A) {i : Int32} (n N : Nat) (hd : decode cc pc = .ok (.newarray .int, 2)) (hi : i = nI N) (hN : N < 100000000) (hn : ws.length = n) (hw : okW n ws = true) (hl2 : okL n lv = true) (hs2 : st.all (okV n) = true) (hcells : cells + 1 ≤ R.cells) (hslots : slots + N ≤ R.slots)
    (kk : ∀ ad2 : Nat → Nat, agr n ad ad2 → (ad2 kP = ad kP ∨ n = kP) → V p l e R s m args below meth c (cells + 1) (slots + N) Q G A nL ad2 (ws ++ [iA N (fun _ => nI 0)]) (pc + 2) lv (.ref n :: st)) : V p l e R s m args below meth c cells slots Q G A nL ad ws pc lv (.int i :: st) := by
  subst hi
  intro H locs ls hP hD hS hl
  have h0 : ¬ nI N < 0 := by
    have := vp_in_nI (show N < N + 1 by omega) (by omega)
    exact fun q => this (Or.inl q)
  refine va_newa (D := G.1) (cl := vwCl) (ws := cw G ad ws) (atype := .int) (ty := .int) (a0 := (N, .inl (fun _ => nI 0))) (N' := N) X.1.1 X.1.2.1 (X.1.2.2.2.2 _ w_ac) rfl X.2.1 hP hD hS X.2.2.1 (fun cA => rfl) h0 (nI_clamp (by omega)) (by show N * 4 ≤ _; omega) hcells hslots hd (fun q cA H1 hK1 hP1 hD1 hS1 => ?_)
  have hcA : cA = G.2.1 := by
    have a1 := (hK1.2 2 (cA, .int) rfl).2
    have a2 := (hK1.2 0 (G.2.1, .int) rfl).2
    exact Option.some.inj (a1.symm.trans a2)
  subst hcA
  have ag := adN_agr ad n q
  have ew : cw G (adN ad n q) (ws ++ [iA N (fun _ => nI 0)]) = cw G ad ws ++ [(q, .inl (G.2.1, N, .inl (fun _ => nI 0)))] := by
    rw [cw_app, cw_ok ag hw (by omega), hn, adN_at]; rfl
  rw [← ew] at hP1 hD1
  have := kk (adN ad n q) ag (by by_cases h : n = kP; exact Or.inr h; exact Or.inl (adN_ne ad (fun e => h e.symm))) H1 locs ls hP1 hD1 hS1 ⟨by rw [lvp_ok ag 0 hl2]; exact hl.1, hl.2⟩
  have es : (Value.ref n :: st).map (cv (adN ad n q)) = .ref q :: st.map (cv ad) := by
    show Value.ref (adN ad n q n) :: st.map _ = _
    rw [adN_at, st_ok ag hs2]
  rw [es] at this
  exact this
theorem V_newq (X : CX p s m args meth c cc nL y ret G A) {idx : Nat} {i : Int32} (n N : Nat) (hd : decode cc pc = .ok (.anewarray idx, 3)) (hc : Cond.classLink y.cls idx "LikeLastYears$Feature" ∈ tb) (hi : i = nI N) (hN : N < 100000000) (hn : ws.length = n) (hw : okW n ws = true) (hl2 : okL n lv = true) (hs2 : st.all (okV n) = true) (hcells : cells + 1 ≤ R.cells) (hslots : slots + N ≤ R.slots)
    (kk : ∀ ad2 : Nat → Nat, agr n ad ad2 → (ad2 kP = ad kP ∨ n = kP) → V p l e R s m args below meth c (cells + 1) (slots + N) Q G A nL ad2 (ws ++ [rA (List.replicate N none)]) (pc + 3) lv (.ref n :: st)) : V p l e R s m args below meth c cells slots Q G A nL ad ws pc lv (.int i :: st) := by
  subst hi
  intro H locs ls hP hD hS hl
  have h0 : ¬ nI N < 0 := by
    have := vp_in_nI (show N < N + 1 by omega) (by omega)
    exact fun q => this (Or.inl q)
  refine va_newq (D := G.1) (cl := vwCl) (ws := cw G ad ws) (N' := N) X.1.1 X.1.2.1 X.1.2.2.2.1 (X.1.2.2.2.2 _ hc) X.2.2.2.1.2.2.2.2 X.2.1 hP hD hS X.2.2.1 h0 (nI_clamp (by omega)) (by omega) hcells hslots hd (fun q cA H1 hK1 hP1 hD1 hS1 => ?_)
  have hcA : cA = G.2.2.1 := by
    obtain ⟨-, -, -, -, -, a1⟩ := (hK1.2 2 (cA, .object "LikeLastYears$Feature") rfl).2
    obtain ⟨-, -, -, -, -, a2⟩ := (hK1.2 1 (G.2.2.1, .object "LikeLastYears$Feature") rfl).2
    exact Option.some.inj (a1.symm.trans a2)
  subst hcA
  have ag := adN_agr ad n q
  have ew : cw G (adN ad n q) (ws ++ [rA (List.replicate N none)]) = cw G ad ws ++ [(q, .inl (G.2.2.1, N, .inr (.inr (.inr (.inr (fun _ => none))))))] := by
    rw [cw_app, cw_ok ag hw (by omega), hn, adN_at]
    show _ ++ [(q, Sum.inl (G.2.2.1, (List.replicate N none).length, Sum.inr (Sum.inr (Sum.inr (Sum.inr (fun i => ((List.replicate N (none : Option Nat)).getD i none).map (adN ad n q)))))))] = _
    rw [List.length_replicate]
    have : (fun i => ((List.replicate N (none : Option Nat)).getD i none).map (adN ad n q)) = fun _ => none := by
      funext i
      rw [List.getD_eq_getElem?_getD, List.getElem?_replicate]
      by_cases h : i < N <;> simp [h]
    rw [this]
  rw [← ew] at hP1 hD1
  have := kk (adN ad n q) ag (by by_cases h : n = kP; exact Or.inr h; exact Or.inl (adN_ne ad (fun e => h e.symm))) H1 locs ls hP1 hD1 hS1 ⟨by rw [lvp_ok ag 0 hl2]; exact hl.1, hl.2⟩
  have es : (Value.ref n :: st).map (cv (adN ad n q)) = .ref q :: st.map (cv ad) := by
    show Value.ref (adN ad n q n) :: st.map _ = _
    rw [adN_at, st_ok ag hs2]
  rw [es] at this
  exact this
theorem V_obj (X : CX p s m args meth c cc nL y ret G A) {idx a : Nat} (hd : decode cc pc = .ok (.invokespecial idx, 3)) (hf : Cond.methodLink y.cls idx objectInit ∈ tb) (hcat : (st.map fun v => v.category).sum ≤ 8) (hR : 1 ≤ R.frames ∧ 30 ≤ R.locals)
    (kk : V p l e R s m args below meth c cells slots Q G A nL ad ws (pc + 3) lv st) : V p l e R s m args below meth c cells slots Q G A nL ad ws pc lv (.ref a :: st) := by
  intro H locs ls hP hD hS hl
  refine W.objInit X.1.1 X.1.2.1 X.1.2.2.2.1 (X.1.2.2.2.2 _ hf) (X.1.2.2.2.2 _ (tb_mem 74 (by decide +kernel) (by decide +kernel))) (X.1.2.2.2.2 _ (tb_mem 75 (by decide +kernel) (by decide +kernel))) (g := F0 m pc ls (.ref (ad a) :: st.map (cv ad))) rfl (by show ls.size = _; rw [X.1.2.2.1]; exact hl.1.1) rfl hd hR.1 ?_ (kk H locs ls hP hD hS hl)
  have := cat_of ad hcat
  show 2 * 0 + _ + 12 ≤ _
  omega
theorem V_iretG {post : (Nat → Nat) → Option Value → List CE → Prop} {mc ms : Nat} {v : Int32} (X : CX p s m args meth c cc nL y (some .int) G A) (hd : decode cc pc = .ok (.ireturn, 1)) (h1 : cells ≤ mc) (h2 : slots ≤ ms) (hp : post ad (some (.int v)) ws) : V p l e R s m args below meth c cells slots (MQ below (QQ G A post) args s mc ms A) G A nL ad ws pc lv [.int v] := by
  refine V_widen h1 h2 ?_
  intro H locs ls hP hD hS hl
  exact W.iret (v := v) X.1.1 X.1.2.1 X.2.2.2.2.2.1 (fun t ht hW => ⟨⟨ad, some (.int v), ws, rfl, hp, by rw [ht]; exact hP, hD⟩, hS.F ht⟩) hS.2.2 hd X.2.2.2.2.1
theorem V_aretG {post : (Nat → Nat) → Option Value → List CE → Prop} {mc ms : Nat} {k : Nat} {C : String} (X : CX p s m args meth c cc nL y (some (.object C)) G A) (hd : decode cc pc = .ok (.areturn, 1)) (h1 : cells ≤ mc) (h2 : slots ≤ ms) (hp : post ad (some (.ref k)) ws) : V p l e R s m args below meth c cells slots (MQ below (QQ G A post) args s mc ms A) G A nL ad ws pc lv [.ref k] := by
  refine V_widen h1 h2 ?_
  intro H locs ls hP hD hS hl
  exact W.aret (v := .ref (ad k)) X.1.1 X.1.2.1 X.2.2.2.2.2.1 (Or.inl ⟨_, rfl⟩) (Or.inr ⟨_, rfl⟩) (fun t ht hW => ⟨⟨ad, some (.ref k), ws, rfl, hp, by rw [ht]; exact hP, hD⟩, hS.F ht⟩) hS.2.2 hd X.2.2.2.2.1
theorem V_vretG {post : (Nat → Nat) → Option Value → List CE → Prop} {mc ms : Nat} (X : CX p s m args meth c cc nL y none G A) (hd : decode cc pc = .ok (.return_, 1)) (h1 : cells ≤ mc) (h2 : slots ≤ ms) (hp : post ad none ws) : V p l e R s m args below meth c cells slots (MQ below (QQ G A post) args s mc ms A) G A nL ad ws pc lv [] := by
  refine V_widen h1 h2 ?_
  intro H locs ls hP hD hS hl
  exact W.vret X.1.1 X.1.2.1 X.2.2.2.2.2.1 (fun t ht hW => ⟨⟨ad, none, ws, rfl, hp, by rw [ht]; exact hP, hD⟩, hS.F ht⟩) hS.2.2 hd X.2.2.2.2.1
theorem V_aast (X : CX p s m args meth c cc nL y ret G A) {a k ci : Nat} {xs : List (Option Nat)} {fs : List Value} {i : Int32} {C : String} {T : u_T} {N : Nat} (j : Nat) (hd : decode cc pc = .ok (.aastore, 1)) (hw : ws[a]? = some (rA xs)) (hi : i = nI j) (hj : j < xs.length) (hn : xs.length < 2147483648) (hk : ws[k]? = some (oB ci fs)) (hcl : vwCl[ci]? = some (C, T, N)) (hca : C = "LikeLastYears$Feature" ∨ Cond.castable C "LikeLastYears$Feature" ∈ nst)
    (kk : V p l e R s m args below meth c cells slots Q G A nL ad (ws.set a (rA (xs.set j (some k)))) (pc + 1) lv st) : V p l e R s m args below meth c cells slots Q G A nL ad ws pc lv (.ref k :: .int i :: .ref a :: st) := by
  subst hi
  intro H locs ls hP hD hS hl
  have hcl2 : (nI j).toNatClampNeg = j := nI_clamp (by omega)
  have eu : cE G ad (rA (xs.set j (some k))) = .inl (G.2.2.1, xs.length, .inr (.inr (.inr (.inr (va_up (fun i => (xs.getD i none).map ad) j (some (ad k))))))) := by
    show Sum.inl (G.2.2.1, (xs.set j (some k)).length, Sum.inr (Sum.inr (Sum.inr (Sum.inr (fun i => ((xs.set j (some k)).getD i none).map ad))))) = _
    rw [List.length_set]
    have : (fun i => ((xs.set j (some k)).getD i none).map ad) = va_up (fun i => (xs.getD i none).map ad) j (some (ad k)) := by
      funext q
      rw [List.getD_eq_getElem?_getD, List.getElem?_set, va_up, List.getD_eq_getElem?_getD]
      by_cases h : j = q
      · subst h
        rw [if_pos rfl, if_pos hj, if_pos rfl]
        rfl
      · rw [if_neg h, if_neg (fun e => h e.symm)]
    rw [this]
  rcases hca with rfl | hca
  · refine va_astq (D := G.1) (cl := vwCl) (ws := cw G ad ws) X.1.1 X.1.2.1 X.2.1 hP hD hS a 1 k ci (cw_get hw) rfl (cw_get hk) hcl (vp_in_nI hj hn) hd (fun H1 locs1 hP1 hD1 hS1 => ?_)
    rw [hcl2, cw_upd G ad ws a eu] at hP1 hD1
    exact kk H1 locs1 ls hP1 hD1 hS1 hl
  · refine va_astqO (D := G.1) (cl := vwCl) (ws := cw G ad ws) X.1.1 X.1.2.1 X.2.1 hP hD hS a 1 k ci (cw_get hw) rfl (X.2.2.2.1.2.2.2.1 _ hca) (cw_get hk) hcl (vp_in_nI hj hn) hd (fun H1 locs1 hP1 hD1 hS1 => ?_)
    rw [hcl2, cw_upd G ad ws a eu] at hP1 hD1
    exact kk H1 locs1 ls hP1 hD1 hS1 hl
theorem V_instY (X : CX p s m args meth c cc nL y ret G A) {idx k ci : Nat} {fs : List Value} {C nm : String} {T : u_T} {N : Nat} (hd : decode cc pc = .ok (.instanceof idx, 3)) (hlk : Cond.classLink y.cls idx nm ∈ tb) (hk : ws[k]? = some (oB ci fs)) (hcl : vwCl[ci]? = some (C, T, N)) (hca : C = nm ∨ Cond.castable C nm ∈ nst)
    (kk : V p l e R s m args below meth c cells slots Q G A nL ad ws (pc + 3) lv (.int (nI 1) :: st)) : V p l e R s m args below meth c cells slots Q G A nL ad ws pc lv (.ref k :: st) := by
  intro H locs ls hP hD hS hl
  have hr := va_recv X.2.1 hP hcl (cw_get hk)
  rcases hca with rfl | hca
  · exact va_instS X.1.1 X.1.2.1 X.1.2.2.2.1 (X.1.2.2.2.2 _ hlk) (X.2.1.1 ci _ hcl).2 hr hd (kk H locs ls hP hD hS hl)
  · exact va_instY X.1.1 X.1.2.1 X.1.2.2.2.1 (X.1.2.2.2.2 _ hlk) (X.2.2.2.1.2.2.2.1 _ hca) hr hd (kk H locs ls hP hD hS hl)
theorem V_instN (X : CX p s m args meth c cc nL y ret G A) {idx k ci : Nat} {fs : List Value} {C nm : String} {T : u_T} {N : Nat} (hd : decode cc pc = .ok (.instanceof idx, 3)) (hlk : Cond.classLink y.cls idx nm ∈ tb) (hk : ws[k]? = some (oB ci fs)) (hcl : vwCl[ci]? = some (C, T, N)) (hca : (C, nm) ∈ ncT)
    (kk : V p l e R s m args below meth c cells slots Q G A nL ad ws (pc + 3) lv (.int (nI 0) :: st)) : V p l e R s m args below meth c cells slots Q G A nL ad ws pc lv (.ref k :: st) := by
  intro H locs ls hP hD hS hl
  have hr := va_recv X.2.1 hP hcl (cw_get hk)
  exact va_instNo X.1.1 X.1.2.1 X.1.2.2.2.1 (X.1.2.2.2.2 _ hlk) (X.2.2.2.1.2.2.1 _ hca) hr hd (kk H locs ls hP hD hS hl)
end VN
