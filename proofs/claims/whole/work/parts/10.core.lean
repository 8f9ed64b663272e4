/-! the table's good words; worlds by places; the judgement V -/
def tb : List Cond := lw_tbl.filter goodWord
theorem tb_mem {w : Cond} (i : Nat) (h : lw_tbl[i]? = some w) (hg : goodWord w = true) : w ∈ tb := List.mem_filter.mpr ⟨List.mem_of_getElem? h, hg⟩
theorem tb_good {w : Cond} (h : w ∈ tb) : goodWord w = true := (List.mem_filter.mp h).2
theorem tb_hts {args : Array Value} {s : State} (h : ∀ w ∈ lw_tbl, w.before args s = true) : ∀ w ∈ tb, w.before args s = true := fun w hw => h w (List.mem_filter.mp hw).1
theorem tb_goodIn {w : Cond} (h : w ∈ tb) : GoodIn tb (w :: tb) := fun w' hw' => by
  rcases List.mem_cons.mp hw' with rfl | h'
  · exact ⟨h, good_of_word (tb_good h)⟩
  · exact ⟨h', good_of_word (tb_good h')⟩
abbrev CE : Type := (Nat × (Nat → Int32)) ⊕ (List (Option Nat)) ⊕ (Nat × List Value)
abbrev iA (n : Nat) (f : Nat → Int32) : CE := Sum.inl (n, f)
abbrev rA (xs : List (Option Nat)) : CE := Sum.inr (Sum.inl xs)
abbrev oB (ci : Nat) (fs : List Value) : CE := Sum.inr (Sum.inr (ci, fs))
abbrev GX : Type := va_G × ClassId × ClassId × Nat
def kP : Nat := 1000000
def cv (ad : Nat → Nat) : Value → Value
  | .ref k => .ref (ad k)
  | v => v
def cE (G : GX) (ad : Nat → Nat) : CE → va_E
  | .inl a => .inl (G.2.1, a.1, .inl a.2)
  | .inr (.inl xs) => .inl (G.2.2.1, xs.length, .inr (.inr (.inr (.inr (fun i => (xs.getD i none).map ad)))))
  | .inr (.inr q) => .inr (q.1, q.2.map (cv ad))
def cw (G : GX) (ad : Nat → Nat) (ws : List CE) : va_W := ws.mapIdx (fun k e => (ad k, cE G ad e))
theorem cw_at (G : GX) (ad : Nat → Nat) (ws : List CE) (k : Nat) : (cw G ad ws)[k]? = (ws[k]?).map (fun e => (ad k, cE G ad e)) := by simp [cw]
theorem cw_get {G : GX} {ad : Nat → Nat} {ws : List CE} {k : Nat} {e : CE} (h : ws[k]? = some e) : (cw G ad ws)[k]? = some (ad k, cE G ad e) := by rw [cw_at, h]; rfl
theorem cw_set (G : GX) (ad : Nat → Nat) (ws : List CE) (k : Nat) (e : CE) : (cw G ad ws).set k (ad k, cE G ad e) = cw G ad (ws.set k e) := by
  apply List.ext_getElem?
  intro i
  rw [cw_at, List.getElem?_set, List.getElem?_set, cw_at]
  by_cases h : k = i
  · subst h
    have hl : (cw G ad ws).length = ws.length := by simp [cw]
    rw [hl, if_pos rfl, if_pos rfl]
    by_cases h2 : k < ws.length
    · rw [if_pos h2, if_pos h2]; rfl
    · rw [if_neg h2, if_neg h2]; rfl
  · rw [if_neg h, if_neg h]
def lvp (ad : Nat → Nat) : Nat → List (Option Value) → List (Nat × Value)
  | _, [] => []
  | i, none :: r => lvp ad (i + 1) r
  | i, some v :: r => (i, cv ad v) :: lvp ad (i + 1) r
theorem lvp_mem {ad : Nat → Nat} {q : Nat × Value} : ∀ {lv : List (Option Value)} {i : Nat}, q ∈ lvp ad i lv ↔ ∃ k v, lv[k]? = some (some v) ∧ q = (i + k, cv ad v)
  | [], i => by simp [lvp]
  | none :: r, i => by
    rw [lvp, lvp_mem]
    constructor
    · rintro ⟨k, v, h, rfl⟩
      exact ⟨k + 1, v, by simpa using h, by rw [show i + (k + 1) = i + 1 + k by omega]⟩
    · rintro ⟨k, v, h, rfl⟩
      cases k with
      | zero => simp at h
      | succ k => exact ⟨k, v, by simpa using h, by rw [show i + (k + 1) = i + 1 + k by omega]⟩
  | some w :: r, i => by
    rw [lvp, List.mem_cons, lvp_mem]
    constructor
    · rintro (rfl | ⟨k, v, h, rfl⟩)
      · exact ⟨0, w, by simp, rfl⟩
      · exact ⟨k + 1, v, by simpa using h, by rw [show i + (k + 1) = i + 1 + k by omega]⟩
    · rintro ⟨k, v, h, rfl⟩
      cases k with
      | zero => left; simp at h; rw [h]; rfl
      | succ k => right; exact ⟨k, v, by simpa using h, by rw [show i + (k + 1) = i + 1 + k by omega]⟩
def lvh (ad : Nat → Nat) (ls : Array Slot) (nL : Nat) (lv : List (Option Value)) : Prop := lv_has ls nL (lvp ad 0 lv) ∧ lv.length = nL
theorem lvh_at {ad : Nat → Nat} {ls : Array Slot} {nL : Nat} {lv : List (Option Value)} (h : lvh ad ls nL lv) {k : Nat} {v : Value} (hk : lv[k]? = some (some v)) : ls[k]? = some (.val (cv ad v)) :=
  h.1.2.2 (k, cv ad v) (lvp_mem.mpr ⟨k, v, hk, by rw [Nat.zero_add]⟩)
def noL (lv : List (Option Value)) : Nat → Bool
  | 0 => true
  | i + 1 => match lv[i]? with
    | some (some v) => v.category != 2
    | _ => true
theorem cv_cat (ad : Nat → Nat) (v : Value) : (cv ad v).category = v.category := by cases v <;> rfl
theorem noL_at {ad : Nat → Nat} {lv : List (Option Value)} {i k : Nat} {v : Value} (hn : noL lv i = true) (hk : lv[k]? = some (some v)) (e : k + 1 = i) : ¬ (cv ad v).category = 2 := by
  subst e
  rw [cv_cat]
  simpa [noL, hk] using hn
theorem lvh_st1 {ad : Nat → Nat} {ls : Array Slot} {nL : Nat} {lv : List (Option Value)} {i : Nat} {v : Value} (h0 : lv.length = nL) (hi : i < nL) (hn : noL lv i = true) (h : lv_has ls nL ((i, cv ad v) :: (lvp ad 0 lv).filter (fun q => !(q.1 == i) && !(q.1 + 1 == i && q.2.category == 2)))) : lvh ad ls nL (lv.set i (some v)) := by
  refine ⟨⟨h.1, h.2.1, fun q hq => ?_⟩, by simp [h0]⟩
  obtain ⟨k, w, hk, rfl⟩ := lvp_mem.mp hq
  rw [Nat.zero_add]
  by_cases e : i = k
  · subst e
    rw [List.getElem?_set_self (by omega)] at hk
    cases hk
    exact h.2.2 _ List.mem_cons_self
  · rw [List.getElem?_set_ne e] at hk
    refine h.2.2 (k, cv ad w) (List.mem_cons_of_mem _ (List.mem_filter.mpr ⟨lvp_mem.mpr ⟨k, w, hk, by rw [Nat.zero_add]⟩, ?_⟩))
    by_cases e2 : k + 1 = i
    · have := noL_at (ad := ad) hn hk e2
      simp [e2, this, Ne.symm e]
    · simp [e2, Ne.symm e]
theorem lvh_st2 {ad : Nat → Nat} {ls : Array Slot} {nL : Nat} {lv : List (Option Value)} {i : Nat} {v : Value} (h0 : lv.length = nL) (hi : i < nL) (hn : noL lv i = true) (h : lv_has ls nL ((i, cv ad v) :: (lvp ad 0 lv).filter (fun q => !(q.1 == i) && (!(q.1 == i + 1) && !(q.1 + 1 == i && q.2.category == 2))))) : lvh ad ls nL ((lv.set i (some v)).set (i + 1) none) := by
  refine ⟨⟨h.1, h.2.1, fun q hq => ?_⟩, by simp [h0]⟩
  obtain ⟨k, w, hk, rfl⟩ := lvp_mem.mp hq
  rw [Nat.zero_add]
  by_cases e1 : i + 1 = k
  · subst e1
    rw [List.getElem?_set] at hk
    simp at hk
  rw [List.getElem?_set_ne e1] at hk
  by_cases e : i = k
  · subst e
    rw [List.getElem?_set_self (by omega)] at hk
    cases hk
    exact h.2.2 _ List.mem_cons_self
  · rw [List.getElem?_set_ne e] at hk
    refine h.2.2 (k, cv ad w) (List.mem_cons_of_mem _ (List.mem_filter.mpr ⟨lvp_mem.mpr ⟨k, w, hk, by rw [Nat.zero_add]⟩, ?_⟩))
    by_cases e2 : k + 1 = i
    · have := noL_at (ad := ad) hn hk e2
      simp [e2, this, Ne.symm e, Ne.symm e1]
    · simp [e2, Ne.symm e, Ne.symm e1]
abbrev tysG (G : GX) : List (ClassId × FieldType) := [(G.2.1, .int), (G.2.2.1, .object "LikeLastYears$Feature")]
def ncT : List (String × String) := [("LikeLastYears$Beard", "LikeLastYears$Crown"), ("LikeLastYears$Beard", "LikeLastYears$Hair"), ("LikeLastYears$Beard", "LikeLastYears$Scar"), ("LikeLastYears$Crown", "LikeLastYears$Beard"), ("LikeLastYears$Crown", "LikeLastYears$Hair"), ("LikeLastYears$Feature", "LikeLastYears$Beard"), ("LikeLastYears$Feature", "LikeLastYears$Crown"), ("LikeLastYears$Feature", "LikeLastYears$Hair"), ("LikeLastYears$Feature", "LikeLastYears$Scar"), ("LikeLastYears$Hair", "LikeLastYears$Beard"), ("LikeLastYears$Hair", "LikeLastYears$Crown"), ("LikeLastYears$Hair", "LikeLastYears$Scar"), ("LikeLastYears$Scar", "LikeLastYears$Beard"), ("LikeLastYears$Scar", "LikeLastYears$Crown"), ("LikeLastYears$Scar", "LikeLastYears$Hair")]
def pwV (j : Nat) : Value := .int (nI (10 ^ j))
def isNst : Cond → Bool
  | .fieldLinkNest .. => true
  | .methodLinkNest .. => true
  | .castable .. => true
  | _ => false
def nst : List Cond := lw_tbl.filter isNst
theorem nst_mem {w : Cond} (i : Nat) (h : lw_tbl[i]? = some w) (hg : isNst w = true) : w ∈ nst := List.mem_filter.mpr ⟨List.mem_of_getElem? h, hg⟩
theorem nst_tab {w : Cond} (h : w ∈ nst) : w.onTables = true := by
  have := (List.mem_filter.mp h).2
  cases w <;> first | rfl | cases this
theorem nst_warm {w : Cond} (h : w ∈ nst) {s U : State} (hW : s.WarmedH U.vm) (hZ : va_Nw w s) : va_Nw w U := by
  have := (List.mem_filter.mp h).2
  cases w <;> first | exact va_Nw.warmF hW hZ | exact va_Nw.warmM hW hZ | exact va_Nw.warmC hW hZ | cases this
def SX (G : GX) (A : Nat → Prop) (U : State) (H : Heap) : Prop := va_Z "LikeLastYears" "POWER" "[I" (.ref G.2.2.2) A U H ∧ va_T .int G.2.2.2 5 pwV A U H ∧ (∀ q ∈ ncT, va_Nc q.1 q.2 U) ∧ (∀ w ∈ nst, va_Nw w U) ∧ va_AO "LikeLastYears$Feature" U
theorem SX.warm {G : GX} {A : Nat → Prop} {u U : State} {H : Heap} (hW : u.WarmedH U.vm) (h : SX G A u H) : SX G A U H := ⟨h.1.moved hW.alike, h.2.1.moved hW.alike, fun q hq => va_Nc.moved hW.alike (h.2.2.1 q hq), fun w hw => nst_warm hw hW (h.2.2.2.1 w hw), h.2.2.2.2.moved hW.alike⟩
theorem SX.same {G : GX} {A : Nat → Prop} {u U : State} {H : Heap} (hv : u.vm = U.vm) (h : SX G A u H) : SX G A U H := ⟨h.1.moved (hv ▸ Vm.Alike.refl _), h.2.1.moved (hv ▸ Vm.Alike.refl _), fun q hq => va_Nc.moved (hv ▸ Vm.Alike.refl _) (h.2.2.1 q hq), fun w hw => va_Nw.same (nst_tab hw) hv (h.2.2.2.1 w hw), h.2.2.2.2.moved (hv ▸ Vm.Alike.refl _)⟩
theorem SX.kept {G : GX} {A : Nat → Prop} {U : State} {H H1 : Heap} (h : SX G A U H) (hq : ∀ a : Nat, a < H.size → ¬ A a → H1[a]? = H[a]?) : SX G A U H1 := ⟨h.1.kept hq, h.2.1.kept hq, h.2.2⟩
theorem SX.narrow {G : GX} {A B : Nat → Prop} {U : State} {H : Heap} (h : SX G A U H) (hAB : ∀ q, B q → A q) : SX G B U H := ⟨h.1.narrow hAB, h.2.1.narrow hAB, h.2.2⟩
def CX (p : Program) (s : State) (m : MethodId) (args : Array Value) (meth : Method) (c : Code) (cc : ByteArray) (nL : Nat) (y : MethodName) (ret : Option FieldType) (G : GX) (A : Nat → Prop) : Prop :=
  CallFix p m c cc nL s args tb y.cls ∧ va_K G.1 vwCl (tysG G) s ∧ (∀ q : Nat, s.heap.size ≤ q → A q) ∧ SX G A s s.heap ∧ meth.locks = false ∧ meth.sig.returnType = ret ∧ meth.name = y.name
def V (p : Program) (l : Launch) (e : Env) (R : Room) (s : State) (m : MethodId) (args : Array Value) (below : List Frame) (meth : Method) (c : Code) (cells slots : Nat) (Q : State → Prop) (G : GX) (A : Nat → Prop) (nL : Nat) (ad : Nat → Nat) (ws : List CE) (pc : Nat) (lv : List (Option Value)) (st : List Value) : Prop :=
  ∀ (H : Heap) (locs : List Loc) (ls : Array Slot), va_P G.1 vwCl (cw G ad ws) H → va_D A (cw G ad ws) → va_S A s.heap H locs → lvh ad ls nL lv → W p l e R s m args below meth c H locs cells slots Q (F0 m pc ls (st.map (cv ad)))
section VV
variable {p : Program} {l : Launch} {e : Env} {R : Room} {s : State} {m : MethodId} {args : Array Value} {below : List Frame} {meth : Method} {c : Code} {cells slots : Nat} {Q : State → Prop} {cc : ByteArray} {nL : Nat} {y : MethodName} {ret : Option FieldType} {G : GX} {A : Nat → Prop} {ad : Nat → Nat} {ws : List CE} {pc : Nat} {lv : List (Option Value)} {st : List Value}

theorem V_iconst (X : CX p s m args meth c cc nL y ret G A) {n : Int} (hd : decode cc pc = .ok (.iconst n, 1))  (k : V p l e R s m args below meth c cells slots Q G A nL ad ws (pc + 1) (lv) (.int (Int32.ofInt n) :: st)) : V p l e R s m args below meth c cells slots Q G A nL ad ws (pc) (lv) (st) := fun H locs ls hP hD hS hl => lv_iconst X.1.1 X.1.2.1 hd rfl (k H locs ls hP hD hS hl)
theorem V_bipush (X : CX p s m args meth c cc nL y ret G A) {n : Int} (hd : decode cc pc = .ok (.bipush n, 2))  (k : V p l e R s m args below meth c cells slots Q G A nL ad ws (pc + 2) (lv) (.int (Int8.ofInt n).toInt32 :: st)) : V p l e R s m args below meth c cells slots Q G A nL ad ws (pc) (lv) (st) := fun H locs ls hP hD hS hl => lv_bipush X.1.1 X.1.2.1 hd rfl (k H locs ls hP hD hS hl)
theorem V_sipush (X : CX p s m args meth c cc nL y ret G A) {n : Int} (hd : decode cc pc = .ok (.sipush n, 3))  (k : V p l e R s m args below meth c cells slots Q G A nL ad ws (pc + 3) (lv) (.int (Int16.ofInt n).toInt32 :: st)) : V p l e R s m args below meth c cells slots Q G A nL ad ws (pc) (lv) (st) := fun H locs ls hP hD hS hl => lv_sipush X.1.1 X.1.2.1 hd rfl (k H locs ls hP hD hS hl)
theorem V_lconst (X : CX p s m args meth c cc nL y ret G A) {n : Fin 2} (hd : decode cc pc = .ok (.lconst n, 1))  (k : V p l e R s m args below meth c cells slots Q G A nL ad ws (pc + 1) (lv) (.long (Int64.ofNat (n : Nat)) :: st)) : V p l e R s m args below meth c cells slots Q G A nL ad ws (pc) (lv) (st) := fun H locs ls hP hD hS hl => lv_lconst X.1.1 X.1.2.1 hd rfl (k H locs ls hP hD hS hl)
theorem V_iconstE (X : CX p s m args meth c cc nL y ret G A) {n : Int} (v : Int32) (hd : decode cc pc = .ok (.iconst n, 1)) (hv : Int32.ofInt n = v) (k : V p l e R s m args below meth c cells slots Q G A nL ad ws (pc + 1) (lv) (.int v :: st)) : V p l e R s m args below meth c cells slots Q G A nL ad ws (pc) (lv) (st) := fun H locs ls hP hD hS hl => lv_iconst X.1.1 X.1.2.1 hd hv (k H locs ls hP hD hS hl)
theorem V_bipushE (X : CX p s m args meth c cc nL y ret G A) {n : Int} (v : Int32) (hd : decode cc pc = .ok (.bipush n, 2)) (hv : (Int8.ofInt n).toInt32 = v) (k : V p l e R s m args below meth c cells slots Q G A nL ad ws (pc + 2) (lv) (.int v :: st)) : V p l e R s m args below meth c cells slots Q G A nL ad ws (pc) (lv) (st) := fun H locs ls hP hD hS hl => lv_bipush X.1.1 X.1.2.1 hd hv (k H locs ls hP hD hS hl)
theorem V_sipushE (X : CX p s m args meth c cc nL y ret G A) {n : Int} (v : Int32) (hd : decode cc pc = .ok (.sipush n, 3)) (hv : (Int16.ofInt n).toInt32 = v) (k : V p l e R s m args below meth c cells slots Q G A nL ad ws (pc + 3) (lv) (.int v :: st)) : V p l e R s m args below meth c cells slots Q G A nL ad ws (pc) (lv) (st) := fun H locs ls hP hD hS hl => lv_sipush X.1.1 X.1.2.1 hd hv (k H locs ls hP hD hS hl)
theorem V_lconstE (X : CX p s m args meth c cc nL y ret G A) {n : Fin 2} (v : Int64) (hd : decode cc pc = .ok (.lconst n, 1)) (hv : Int64.ofNat (n : Nat) = v) (k : V p l e R s m args below meth c cells slots Q G A nL ad ws (pc + 1) (lv) (.long v :: st)) : V p l e R s m args below meth c cells slots Q G A nL ad ws (pc) (lv) (st) := fun H locs ls hP hD hS hl => lv_lconst X.1.1 X.1.2.1 hd hv (k H locs ls hP hD hS hl)
theorem V_iadd (X : CX p s m args meth c cc nL y ret G A) {x z : Int32} (hd : decode cc pc = .ok (.iadd, 1))  (k : V p l e R s m args below meth c cells slots Q G A nL ad ws (pc + 1) (lv) (.int (x + z) :: st)) : V p l e R s m args below meth c cells slots Q G A nL ad ws (pc) (lv) (.int z :: .int x :: st) := fun H locs ls hP hD hS hl => lv_iadd X.1.1 X.1.2.1 hd  (k H locs ls hP hD hS hl)
theorem V_isub (X : CX p s m args meth c cc nL y ret G A) {x z : Int32} (hd : decode cc pc = .ok (.isub, 1))  (k : V p l e R s m args below meth c cells slots Q G A nL ad ws (pc + 1) (lv) (.int (x - z) :: st)) : V p l e R s m args below meth c cells slots Q G A nL ad ws (pc) (lv) (.int z :: .int x :: st) := fun H locs ls hP hD hS hl => lv_isub X.1.1 X.1.2.1 hd  (k H locs ls hP hD hS hl)
theorem V_imul (X : CX p s m args meth c cc nL y ret G A) {x z : Int32} (hd : decode cc pc = .ok (.imul, 1))  (k : V p l e R s m args below meth c cells slots Q G A nL ad ws (pc + 1) (lv) (.int (x * z) :: st)) : V p l e R s m args below meth c cells slots Q G A nL ad ws (pc) (lv) (.int z :: .int x :: st) := fun H locs ls hP hD hS hl => lv_imul X.1.1 X.1.2.1 hd  (k H locs ls hP hD hS hl)
theorem V_iand (X : CX p s m args meth c cc nL y ret G A) {x z : Int32} (hd : decode cc pc = .ok (.iand, 1))  (k : V p l e R s m args below meth c cells slots Q G A nL ad ws (pc + 1) (lv) (.int (x &&& z) :: st)) : V p l e R s m args below meth c cells slots Q G A nL ad ws (pc) (lv) (.int z :: .int x :: st) := fun H locs ls hP hD hS hl => lv_iand X.1.1 X.1.2.1 hd  (k H locs ls hP hD hS hl)
theorem V_ior (X : CX p s m args meth c cc nL y ret G A) {x z : Int32} (hd : decode cc pc = .ok (.ior, 1))  (k : V p l e R s m args below meth c cells slots Q G A nL ad ws (pc + 1) (lv) (.int (x ||| z) :: st)) : V p l e R s m args below meth c cells slots Q G A nL ad ws (pc) (lv) (.int z :: .int x :: st) := fun H locs ls hP hD hS hl => lv_ior X.1.1 X.1.2.1 hd  (k H locs ls hP hD hS hl)
theorem V_ixor (X : CX p s m args meth c cc nL y ret G A) {x z : Int32} (hd : decode cc pc = .ok (.ixor, 1))  (k : V p l e R s m args below meth c cells slots Q G A nL ad ws (pc + 1) (lv) (.int (x ^^^ z) :: st)) : V p l e R s m args below meth c cells slots Q G A nL ad ws (pc) (lv) (.int z :: .int x :: st) := fun H locs ls hP hD hS hl => lv_ixor X.1.1 X.1.2.1 hd  (k H locs ls hP hD hS hl)
theorem V_ishl (X : CX p s m args meth c cc nL y ret G A) {x z : Int32} (hd : decode cc pc = .ok (.ishl, 1))  (k : V p l e R s m args below meth c cells slots Q G A nL ad ws (pc + 1) (lv) (.int (x <<< (z &&& 31)) :: st)) : V p l e R s m args below meth c cells slots Q G A nL ad ws (pc) (lv) (.int z :: .int x :: st) := fun H locs ls hP hD hS hl => lv_ishl X.1.1 X.1.2.1 hd  (k H locs ls hP hD hS hl)
theorem V_ishr (X : CX p s m args meth c cc nL y ret G A) {x z : Int32} (hd : decode cc pc = .ok (.ishr, 1))  (k : V p l e R s m args below meth c cells slots Q G A nL ad ws (pc + 1) (lv) (.int (x >>> (z &&& 31)) :: st)) : V p l e R s m args below meth c cells slots Q G A nL ad ws (pc) (lv) (.int z :: .int x :: st) := fun H locs ls hP hD hS hl => lv_ishr X.1.1 X.1.2.1 hd  (k H locs ls hP hD hS hl)
theorem V_idiv (X : CX p s m args meth c cc nL y ret G A) {x z : Int32} (hd : decode cc pc = .ok (.idiv, 1)) (hne : ¬ z = 0) (k : V p l e R s m args below meth c cells slots Q G A nL ad ws (pc + 1) (lv) (.int (x / z) :: st)) : V p l e R s m args below meth c cells slots Q G A nL ad ws (pc) (lv) (.int z :: .int x :: st) := fun H locs ls hP hD hS hl => lv_idiv X.1.1 X.1.2.1 hd hne (k H locs ls hP hD hS hl)
theorem V_irem (X : CX p s m args meth c cc nL y ret G A) {x z : Int32} (hd : decode cc pc = .ok (.irem, 1)) (hne : ¬ z = 0) (k : V p l e R s m args below meth c cells slots Q G A nL ad ws (pc + 1) (lv) (.int (x - x / z * z) :: st)) : V p l e R s m args below meth c cells slots Q G A nL ad ws (pc) (lv) (.int z :: .int x :: st) := fun H locs ls hP hD hS hl => lv_irem X.1.1 X.1.2.1 hd hne (k H locs ls hP hD hS hl)
theorem V_iushr (X : CX p s m args meth c cc nL y ret G A) {x z : Int32} (hd : decode cc pc = .ok (.iushr, 1))  (k : V p l e R s m args below meth c cells slots Q G A nL ad ws (pc + 1) (lv) (.int ((x.toUInt32 >>> (z.toUInt32 &&& Int32.toUInt32 31)).toInt32) :: st)) : V p l e R s m args below meth c cells slots Q G A nL ad ws (pc) (lv) (.int z :: .int x :: st) := fun H locs ls hP hD hS hl => lv_iushr X.1.1 X.1.2.1 hd rfl (k H locs ls hP hD hS hl)
theorem V_lushr (X : CX p s m args meth c cc nL y ret G A) {x : Int64} {z : Int32} (hd : decode cc pc = .ok (.lushr, 1))  (k : V p l e R s m args below meth c cells slots Q G A nL ad ws (pc + 1) (lv) (.long ((x.toUInt64 >>> (z.toInt64.toUInt64 &&& Int64.toUInt64 63)).toInt64) :: st)) : V p l e R s m args below meth c cells slots Q G A nL ad ws (pc) (lv) (.int z :: .long x :: st) := fun H locs ls hP hD hS hl => lv_lushr X.1.1 X.1.2.1 hd rfl (k H locs ls hP hD hS hl)
theorem V_lshl (X : CX p s m args meth c cc nL y ret G A) {x : Int64} {z : Int32} (hd : decode cc pc = .ok (.lshl, 1))  (k : V p l e R s m args below meth c cells slots Q G A nL ad ws (pc + 1) (lv) (.long (x <<< (z.toInt64 &&& 63)) :: st)) : V p l e R s m args below meth c cells slots Q G A nL ad ws (pc) (lv) (.int z :: .long x :: st) := fun H locs ls hP hD hS hl => lv_lshl X.1.1 X.1.2.1 hd rfl (k H locs ls hP hD hS hl)
theorem V_ineg (X : CX p s m args meth c cc nL y ret G A) {x : Int32} (hd : decode cc pc = .ok (.ineg, 1))  (k : V p l e R s m args below meth c cells slots Q G A nL ad ws (pc + 1) (lv) (.int (-x) :: st)) : V p l e R s m args below meth c cells slots Q G A nL ad ws (pc) (lv) (.int x :: st) := fun H locs ls hP hD hS hl => lv_ineg X.1.1 X.1.2.1 hd  (k H locs ls hP hD hS hl)
theorem V_ladd (X : CX p s m args meth c cc nL y ret G A) {x z : Int64} (hd : decode cc pc = .ok (.ladd, 1))  (k : V p l e R s m args below meth c cells slots Q G A nL ad ws (pc + 1) (lv) (.long (x + z) :: st)) : V p l e R s m args below meth c cells slots Q G A nL ad ws (pc) (lv) (.long z :: .long x :: st) := fun H locs ls hP hD hS hl => lv_ladd X.1.1 X.1.2.1 hd  (k H locs ls hP hD hS hl)
theorem V_lsub (X : CX p s m args meth c cc nL y ret G A) {x z : Int64} (hd : decode cc pc = .ok (.lsub, 1))  (k : V p l e R s m args below meth c cells slots Q G A nL ad ws (pc + 1) (lv) (.long (x - z) :: st)) : V p l e R s m args below meth c cells slots Q G A nL ad ws (pc) (lv) (.long z :: .long x :: st) := fun H locs ls hP hD hS hl => lv_lsub X.1.1 X.1.2.1 hd  (k H locs ls hP hD hS hl)
theorem V_lmul (X : CX p s m args meth c cc nL y ret G A) {x z : Int64} (hd : decode cc pc = .ok (.lmul, 1))  (k : V p l e R s m args below meth c cells slots Q G A nL ad ws (pc + 1) (lv) (.long (x * z) :: st)) : V p l e R s m args below meth c cells slots Q G A nL ad ws (pc) (lv) (.long z :: .long x :: st) := fun H locs ls hP hD hS hl => lv_lmul X.1.1 X.1.2.1 hd  (k H locs ls hP hD hS hl)
theorem V_land (X : CX p s m args meth c cc nL y ret G A) {x z : Int64} (hd : decode cc pc = .ok (.land, 1))  (k : V p l e R s m args below meth c cells slots Q G A nL ad ws (pc + 1) (lv) (.long (x &&& z) :: st)) : V p l e R s m args below meth c cells slots Q G A nL ad ws (pc) (lv) (.long z :: .long x :: st) := fun H locs ls hP hD hS hl => lv_land X.1.1 X.1.2.1 hd  (k H locs ls hP hD hS hl)
theorem V_lor (X : CX p s m args meth c cc nL y ret G A) {x z : Int64} (hd : decode cc pc = .ok (.lor, 1))  (k : V p l e R s m args below meth c cells slots Q G A nL ad ws (pc + 1) (lv) (.long (x ||| z) :: st)) : V p l e R s m args below meth c cells slots Q G A nL ad ws (pc) (lv) (.long z :: .long x :: st) := fun H locs ls hP hD hS hl => lv_lor X.1.1 X.1.2.1 hd  (k H locs ls hP hD hS hl)
theorem V_lcmp (X : CX p s m args meth c cc nL y ret G A) {x z : Int64} (hd : decode cc pc = .ok (.lcmp, 1))  (k : V p l e R s m args below meth c cells slots Q G A nL ad ws (pc + 1) (lv) (.int (lg_cmp x z) :: st)) : V p l e R s m args below meth c cells slots Q G A nL ad ws (pc) (lv) (.long z :: .long x :: st) := fun H locs ls hP hD hS hl => W.lcmp X.1.1 X.1.2.1 hd  (k H locs ls hP hD hS hl)
theorem V_i2l (X : CX p s m args meth c cc nL y ret G A) {x : Int32} (hd : decode cc pc = .ok (.i2l, 1))  (k : V p l e R s m args below meth c cells slots Q G A nL ad ws (pc + 1) (lv) (.long x.toInt64 :: st)) : V p l e R s m args below meth c cells slots Q G A nL ad ws (pc) (lv) (.int x :: st) := fun H locs ls hP hD hS hl => lv_i2l X.1.1 X.1.2.1 hd rfl (k H locs ls hP hD hS hl)
theorem V_l2i (X : CX p s m args meth c cc nL y ret G A) {x : Int64} (hd : decode cc pc = .ok (.l2i, 1))  (k : V p l e R s m args below meth c cells slots Q G A nL ad ws (pc + 1) (lv) (.int x.toInt32 :: st)) : V p l e R s m args below meth c cells slots Q G A nL ad ws (pc) (lv) (.long x :: st) := fun H locs ls hP hD hS hl => lv_l2i X.1.1 X.1.2.1 hd rfl (k H locs ls hP hD hS hl)
theorem V_dup (X : CX p s m args meth c cc nL y ret G A) {v : Value} (hd : decode cc pc = .ok (.dup, 1)) (hv : v.category = 1) (k : V p l e R s m args below meth c cells slots Q G A nL ad ws (pc + 1) (lv) (v :: v :: st)) : V p l e R s m args below meth c cells slots Q G A nL ad ws (pc) (lv) (v :: st) := fun H locs ls hP hD hS hl => lv_dup X.1.1 X.1.2.1 hd ((cv_cat ad v).trans hv) (k H locs ls hP hD hS hl)
theorem V_pop (X : CX p s m args meth c cc nL y ret G A) {v : Value} (hd : decode cc pc = .ok (.pop, 1)) (hv : v.category = 1) (k : V p l e R s m args below meth c cells slots Q G A nL ad ws (pc + 1) (lv) (st)) : V p l e R s m args below meth c cells slots Q G A nL ad ws (pc) (lv) (v :: st) := fun H locs ls hP hD hS hl => lv_pop X.1.1 X.1.2.1 hd ((cv_cat ad v).trans hv) (k H locs ls hP hD hS hl)
theorem V_dup2 (X : CX p s m args meth c cc nL y ret G A) {u v : Value} (hd : decode cc pc = .ok (.dup2, 1)) (hu : u.category = 1) (hv : v.category = 1) (k : V p l e R s m args below meth c cells slots Q G A nL ad ws (pc + 1) (lv) (u :: v :: u :: v :: st)) : V p l e R s m args below meth c cells slots Q G A nL ad ws (pc) (lv) (u :: v :: st) := fun H locs ls hP hD hS hl => lv_dup2_11 X.1.1 X.1.2.1 hd ((cv_cat ad u).trans hu) ((cv_cat ad v).trans hv) (k H locs ls hP hD hS hl)
theorem V_goto (X : CX p s m args meth c cc nL y ret G A) {off : Int} (tgt : Nat) (hd : decode cc pc = .ok (.goto off, 3)) (ht : (pc : Int) + off = (tgt : Int)) (k : V p l e R s m args below meth c cells slots Q G A nL ad ws (tgt) (lv) (st)) : V p l e R s m args below meth c cells slots Q G A nL ad ws (pc) (lv) (st) := fun H locs ls hP hD hS hl => lv_goto X.1.1 X.1.2.1 hd ht (k H locs ls hP hD hS hl)
theorem V_if_eq (X : CX p s m args meth c cc nL y ret G A) {off : Int} {x : Int32} (tgt : Nat) (hd : decode cc pc = .ok (.ifCond .eq off, 3)) (ht : (pc : Int) + off = (tgt : Int)) (kt : x = 0 → V p l e R s m args below meth c cells slots Q G A nL ad ws (tgt) (lv) (st)) (kf : ¬ x = 0 → V p l e R s m args below meth c cells slots Q G A nL ad ws (pc + 3) (lv) (st)) : V p l e R s m args below meth c cells slots Q G A nL ad ws (pc) (lv) (.int x :: st) := fun H locs ls hP hD hS hl => lv_if_eq X.1.1 X.1.2.1 hd ht (fun h => kt h H locs ls hP hD hS hl) (fun h => kf h H locs ls hP hD hS hl)
theorem V_if_ne (X : CX p s m args meth c cc nL y ret G A) {off : Int} {x : Int32} (tgt : Nat) (hd : decode cc pc = .ok (.ifCond .ne off, 3)) (ht : (pc : Int) + off = (tgt : Int)) (kt : ¬ x = 0 → V p l e R s m args below meth c cells slots Q G A nL ad ws (tgt) (lv) (st)) (kf : x = 0 → V p l e R s m args below meth c cells slots Q G A nL ad ws (pc + 3) (lv) (st)) : V p l e R s m args below meth c cells slots Q G A nL ad ws (pc) (lv) (.int x :: st) := fun H locs ls hP hD hS hl => lv_if_ne X.1.1 X.1.2.1 hd ht (fun h => kt h H locs ls hP hD hS hl) (fun h => kf h H locs ls hP hD hS hl)
theorem V_if_lt (X : CX p s m args meth c cc nL y ret G A) {off : Int} {x : Int32} (tgt : Nat) (hd : decode cc pc = .ok (.ifCond .lt off, 3)) (ht : (pc : Int) + off = (tgt : Int)) (kt : x < 0 → V p l e R s m args below meth c cells slots Q G A nL ad ws (tgt) (lv) (st)) (kf : ¬ x < 0 → V p l e R s m args below meth c cells slots Q G A nL ad ws (pc + 3) (lv) (st)) : V p l e R s m args below meth c cells slots Q G A nL ad ws (pc) (lv) (.int x :: st) := fun H locs ls hP hD hS hl => lv_if_lt X.1.1 X.1.2.1 hd ht (fun h => kt h H locs ls hP hD hS hl) (fun h => kf h H locs ls hP hD hS hl)
theorem V_if_ge (X : CX p s m args meth c cc nL y ret G A) {off : Int} {x : Int32} (tgt : Nat) (hd : decode cc pc = .ok (.ifCond .ge off, 3)) (ht : (pc : Int) + off = (tgt : Int)) (kt : 0 ≤ x → V p l e R s m args below meth c cells slots Q G A nL ad ws (tgt) (lv) (st)) (kf : ¬ 0 ≤ x → V p l e R s m args below meth c cells slots Q G A nL ad ws (pc + 3) (lv) (st)) : V p l e R s m args below meth c cells slots Q G A nL ad ws (pc) (lv) (.int x :: st) := fun H locs ls hP hD hS hl => lv_if_ge X.1.1 X.1.2.1 hd ht (fun h => kt h H locs ls hP hD hS hl) (fun h => kf h H locs ls hP hD hS hl)
theorem V_if_gt (X : CX p s m args meth c cc nL y ret G A) {off : Int} {x : Int32} (tgt : Nat) (hd : decode cc pc = .ok (.ifCond .gt off, 3)) (ht : (pc : Int) + off = (tgt : Int)) (kt : 0 < x → V p l e R s m args below meth c cells slots Q G A nL ad ws (tgt) (lv) (st)) (kf : ¬ 0 < x → V p l e R s m args below meth c cells slots Q G A nL ad ws (pc + 3) (lv) (st)) : V p l e R s m args below meth c cells slots Q G A nL ad ws (pc) (lv) (.int x :: st) := fun H locs ls hP hD hS hl => lv_if_gt X.1.1 X.1.2.1 hd ht (fun h => kt h H locs ls hP hD hS hl) (fun h => kf h H locs ls hP hD hS hl)
theorem V_if_le (X : CX p s m args meth c cc nL y ret G A) {off : Int} {x : Int32} (tgt : Nat) (hd : decode cc pc = .ok (.ifCond .le off, 3)) (ht : (pc : Int) + off = (tgt : Int)) (kt : x ≤ 0 → V p l e R s m args below meth c cells slots Q G A nL ad ws (tgt) (lv) (st)) (kf : ¬ x ≤ 0 → V p l e R s m args below meth c cells slots Q G A nL ad ws (pc + 3) (lv) (st)) : V p l e R s m args below meth c cells slots Q G A nL ad ws (pc) (lv) (.int x :: st) := fun H locs ls hP hD hS hl => lv_if_le X.1.1 X.1.2.1 hd ht (fun h => kt h H locs ls hP hD hS hl) (fun h => kf h H locs ls hP hD hS hl)
theorem V_icmp_eq (X : CX p s m args meth c cc nL y ret G A) {off : Int} {x z : Int32} (tgt : Nat) (hd : decode cc pc = .ok (.if_icmp .eq off, 3)) (ht : (pc : Int) + off = (tgt : Int)) (kt : x = z → V p l e R s m args below meth c cells slots Q G A nL ad ws (tgt) (lv) (st)) (kf : ¬ x = z → V p l e R s m args below meth c cells slots Q G A nL ad ws (pc + 3) (lv) (st)) : V p l e R s m args below meth c cells slots Q G A nL ad ws (pc) (lv) (.int z :: .int x :: st) := fun H locs ls hP hD hS hl => lv_icmp_eq X.1.1 X.1.2.1 hd ht (fun h => kt h H locs ls hP hD hS hl) (fun h => kf h H locs ls hP hD hS hl)
theorem V_icmp_ne (X : CX p s m args meth c cc nL y ret G A) {off : Int} {x z : Int32} (tgt : Nat) (hd : decode cc pc = .ok (.if_icmp .ne off, 3)) (ht : (pc : Int) + off = (tgt : Int)) (kt : ¬ x = z → V p l e R s m args below meth c cells slots Q G A nL ad ws (tgt) (lv) (st)) (kf : x = z → V p l e R s m args below meth c cells slots Q G A nL ad ws (pc + 3) (lv) (st)) : V p l e R s m args below meth c cells slots Q G A nL ad ws (pc) (lv) (.int z :: .int x :: st) := fun H locs ls hP hD hS hl => lv_icmp_ne X.1.1 X.1.2.1 hd ht (fun h => kt h H locs ls hP hD hS hl) (fun h => kf h H locs ls hP hD hS hl)
theorem V_icmp_lt (X : CX p s m args meth c cc nL y ret G A) {off : Int} {x z : Int32} (tgt : Nat) (hd : decode cc pc = .ok (.if_icmp .lt off, 3)) (ht : (pc : Int) + off = (tgt : Int)) (kt : x < z → V p l e R s m args below meth c cells slots Q G A nL ad ws (tgt) (lv) (st)) (kf : ¬ x < z → V p l e R s m args below meth c cells slots Q G A nL ad ws (pc + 3) (lv) (st)) : V p l e R s m args below meth c cells slots Q G A nL ad ws (pc) (lv) (.int z :: .int x :: st) := fun H locs ls hP hD hS hl => lv_icmp_lt X.1.1 X.1.2.1 hd ht (fun h => kt h H locs ls hP hD hS hl) (fun h => kf h H locs ls hP hD hS hl)
theorem V_icmp_ge (X : CX p s m args meth c cc nL y ret G A) {off : Int} {x z : Int32} (tgt : Nat) (hd : decode cc pc = .ok (.if_icmp .ge off, 3)) (ht : (pc : Int) + off = (tgt : Int)) (kt : z ≤ x → V p l e R s m args below meth c cells slots Q G A nL ad ws (tgt) (lv) (st)) (kf : ¬ z ≤ x → V p l e R s m args below meth c cells slots Q G A nL ad ws (pc + 3) (lv) (st)) : V p l e R s m args below meth c cells slots Q G A nL ad ws (pc) (lv) (.int z :: .int x :: st) := fun H locs ls hP hD hS hl => lv_icmp_ge X.1.1 X.1.2.1 hd ht (fun h => kt h H locs ls hP hD hS hl) (fun h => kf h H locs ls hP hD hS hl)
theorem V_icmp_gt (X : CX p s m args meth c cc nL y ret G A) {off : Int} {x z : Int32} (tgt : Nat) (hd : decode cc pc = .ok (.if_icmp .gt off, 3)) (ht : (pc : Int) + off = (tgt : Int)) (kt : z < x → V p l e R s m args below meth c cells slots Q G A nL ad ws (tgt) (lv) (st)) (kf : ¬ z < x → V p l e R s m args below meth c cells slots Q G A nL ad ws (pc + 3) (lv) (st)) : V p l e R s m args below meth c cells slots Q G A nL ad ws (pc) (lv) (.int z :: .int x :: st) := fun H locs ls hP hD hS hl => lv_icmp_gt X.1.1 X.1.2.1 hd ht (fun h => kt h H locs ls hP hD hS hl) (fun h => kf h H locs ls hP hD hS hl)
theorem V_icmp_le (X : CX p s m args meth c cc nL y ret G A) {off : Int} {x z : Int32} (tgt : Nat) (hd : decode cc pc = .ok (.if_icmp .le off, 3)) (ht : (pc : Int) + off = (tgt : Int)) (kt : x ≤ z → V p l e R s m args below meth c cells slots Q G A nL ad ws (tgt) (lv) (st)) (kf : ¬ x ≤ z → V p l e R s m args below meth c cells slots Q G A nL ad ws (pc + 3) (lv) (st)) : V p l e R s m args below meth c cells slots Q G A nL ad ws (pc) (lv) (.int z :: .int x :: st) := fun H locs ls hP hD hS hl => lv_icmp_le X.1.1 X.1.2.1 hd ht (fun h => kt h H locs ls hP hD hS hl) (fun h => kf h H locs ls hP hD hS hl)
theorem V_iload_n (X : CX p s m args meth c cc nL y ret G A) {j : Fin 4} {x : Int32} (hd : decode cc pc = .ok (.iload_n j, 1)) (hx : lv[(j : Nat)]? = some (some (.int x))) (k : V p l e R s m args below meth c cells slots Q G A nL ad ws (pc + 1) (lv) (.int x :: st)) : V p l e R s m args below meth c cells slots Q G A nL ad ws (pc) (lv) (st) := fun H locs ls hP hD hS hl => lv_iload_n X.1.1 X.1.2.1 hd rfl (lvh_at hl hx) (k H locs ls hP hD hS hl)
theorem V_iload (X : CX p s m args meth c cc nL y ret G A) {j : Nat} {x : Int32} (hd : decode cc pc = .ok (.iload j, 2)) (hx : lv[j]? = some (some (.int x))) (k : V p l e R s m args below meth c cells slots Q G A nL ad ws (pc + 2) (lv) (.int x :: st)) : V p l e R s m args below meth c cells slots Q G A nL ad ws (pc) (lv) (st) := fun H locs ls hP hD hS hl => lv_iload X.1.1 X.1.2.1 hd (lvh_at hl hx) (k H locs ls hP hD hS hl)
theorem V_lload_n (X : CX p s m args meth c cc nL y ret G A) {j : Fin 4} {x : Int64} (hd : decode cc pc = .ok (.lload_n j, 1)) (hx : lv[(j : Nat)]? = some (some (.long x))) (k : V p l e R s m args below meth c cells slots Q G A nL ad ws (pc + 1) (lv) (.long x :: st)) : V p l e R s m args below meth c cells slots Q G A nL ad ws (pc) (lv) (st) := fun H locs ls hP hD hS hl => lv_lload_n X.1.1 X.1.2.1 hd rfl (lvh_at hl hx) (k H locs ls hP hD hS hl)
theorem V_lload (X : CX p s m args meth c cc nL y ret G A) {j : Nat} {x : Int64} (hd : decode cc pc = .ok (.lload j, 2)) (hx : lv[j]? = some (some (.long x))) (k : V p l e R s m args below meth c cells slots Q G A nL ad ws (pc + 2) (lv) (.long x :: st)) : V p l e R s m args below meth c cells slots Q G A nL ad ws (pc) (lv) (st) := fun H locs ls hP hD hS hl => lv_lload X.1.1 X.1.2.1 hd (lvh_at hl hx) (k H locs ls hP hD hS hl)
theorem V_aload_n (X : CX p s m args meth c cc nL y ret G A) {j : Fin 4} {x : Nat} (hd : decode cc pc = .ok (.aload_n j, 1)) (hx : lv[(j : Nat)]? = some (some (.ref x))) (k : V p l e R s m args below meth c cells slots Q G A nL ad ws (pc + 1) (lv) (.ref x :: st)) : V p l e R s m args below meth c cells slots Q G A nL ad ws (pc) (lv) (st) := fun H locs ls hP hD hS hl => lv_aload_n X.1.1 X.1.2.1 hd rfl (lvh_at hl hx) (k H locs ls hP hD hS hl)
theorem V_aload (X : CX p s m args meth c cc nL y ret G A) {j : Nat} {x : Nat} (hd : decode cc pc = .ok (.aload j, 2)) (hx : lv[j]? = some (some (.ref x))) (k : V p l e R s m args below meth c cells slots Q G A nL ad ws (pc + 2) (lv) (.ref x :: st)) : V p l e R s m args below meth c cells slots Q G A nL ad ws (pc) (lv) (st) := fun H locs ls hP hD hS hl => lv_aload X.1.1 X.1.2.1 hd (lvh_at hl hx) (k H locs ls hP hD hS hl)
theorem V_istore_n (X : CX p s m args meth c cc nL y ret G A) {j : Fin 4} {x : Int32} {lw : List (Option Value)} (hd : decode cc pc = .ok (.istore_n j, 1)) (hj : (j : Nat) < nL) (hn : noL lv j = true) (he : lv.set j (some (.int x)) = lw) (k : V p l e R s m args below meth c cells slots Q G A nL ad ws (pc + 1) (lw) (st)) : V p l e R s m args below meth c cells slots Q G A nL ad ws (pc) (lv) (.int x :: st) := fun H locs ls hP hD hS hl => lv_istore_n X.1.1 X.1.2.1 hd rfl hl.1 hj rfl (fun ls2 h2 => k H locs ls2 hP hD hS (he ▸ lvh_st1 (v := .int x) hl.2 hj hn h2))
theorem V_istore (X : CX p s m args meth c cc nL y ret G A) {j : Nat} {x : Int32} {lw : List (Option Value)} (hd : decode cc pc = .ok (.istore j, 2)) (hj : j < nL) (hn : noL lv j = true) (he : lv.set j (some (.int x)) = lw) (k : V p l e R s m args below meth c cells slots Q G A nL ad ws (pc + 2) (lw) (st)) : V p l e R s m args below meth c cells slots Q G A nL ad ws (pc) (lv) (.int x :: st) := fun H locs ls hP hD hS hl => lv_istore X.1.1 X.1.2.1 hd hl.1 hj rfl (fun ls2 h2 => k H locs ls2 hP hD hS (he ▸ lvh_st1 (v := .int x) hl.2 hj hn h2))
theorem V_astore_n (X : CX p s m args meth c cc nL y ret G A) {j : Fin 4} {x : Nat} {lw : List (Option Value)} (hd : decode cc pc = .ok (.astore_n j, 1)) (hj : (j : Nat) < nL) (hn : noL lv j = true) (he : lv.set j (some (.ref x)) = lw) (k : V p l e R s m args below meth c cells slots Q G A nL ad ws (pc + 1) (lw) (st)) : V p l e R s m args below meth c cells slots Q G A nL ad ws (pc) (lv) (.ref x :: st) := fun H locs ls hP hD hS hl => lv_astore_n X.1.1 X.1.2.1 hd rfl hl.1 hj rfl (fun ls2 h2 => k H locs ls2 hP hD hS (he ▸ lvh_st1 (v := .ref x) hl.2 hj hn h2))
theorem V_astore (X : CX p s m args meth c cc nL y ret G A) {j : Nat} {x : Nat} {lw : List (Option Value)} (hd : decode cc pc = .ok (.astore j, 2)) (hj : j < nL) (hn : noL lv j = true) (he : lv.set j (some (.ref x)) = lw) (k : V p l e R s m args below meth c cells slots Q G A nL ad ws (pc + 2) (lw) (st)) : V p l e R s m args below meth c cells slots Q G A nL ad ws (pc) (lv) (.ref x :: st) := fun H locs ls hP hD hS hl => lv_astore X.1.1 X.1.2.1 hd hl.1 hj rfl (fun ls2 h2 => k H locs ls2 hP hD hS (he ▸ lvh_st1 (v := .ref x) hl.2 hj hn h2))
theorem V_lstore_n (X : CX p s m args meth c cc nL y ret G A) {j : Fin 4} {x : Int64} {lw : List (Option Value)} (hd : decode cc pc = .ok (.lstore_n j, 1)) (hj : (j : Nat) + 1 < nL) (hn : noL lv j = true) (he : (lv.set j (some (.long x))).set (j + 1) none = lw) (k : V p l e R s m args below meth c cells slots Q G A nL ad ws (pc + 1) (lw) (st)) : V p l e R s m args below meth c cells slots Q G A nL ad ws (pc) (lv) (.long x :: st) := fun H locs ls hP hD hS hl => lv_lstore_n X.1.1 X.1.2.1 hd rfl hl.1 hj rfl (fun ls2 h2 => k H locs ls2 hP hD hS (he ▸ lvh_st2 (v := .long x) hl.2 (Nat.lt_of_succ_lt hj) hn h2))
theorem V_lstore (X : CX p s m args meth c cc nL y ret G A) {j : Nat} {x : Int64} {lw : List (Option Value)} (hd : decode cc pc = .ok (.lstore j, 2)) (hj : j + 1 < nL) (hn : noL lv j = true) (he : (lv.set j (some (.long x))).set (j + 1) none = lw) (k : V p l e R s m args below meth c cells slots Q G A nL ad ws (pc + 2) (lw) (st)) : V p l e R s m args below meth c cells slots Q G A nL ad ws (pc) (lv) (.long x :: st) := fun H locs ls hP hD hS hl => lv_lstore X.1.1 X.1.2.1 hd hl.1 hj rfl (fun ls2 h2 => k H locs ls2 hP hD hS (he ▸ lvh_st2 (v := .long x) hl.2 (Nat.lt_of_succ_lt hj) hn h2))
theorem V_iinc (X : CX p s m args meth c cc nL y ret G A) {j : Nat} {n : Int} {x : Int32} {lw : List (Option Value)} (hd : decode cc pc = .ok (.iinc j n, 3)) (hj : j < nL) (hx : lv[j]? = some (some (.int x))) (hn : noL lv j = true) (he : lv.set j (some (.int (x + Int32.ofInt n))) = lw) (k : V p l e R s m args below meth c cells slots Q G A nL ad ws (pc + 3) (lw) (st)) : V p l e R s m args below meth c cells slots Q G A nL ad ws (pc) (lv) (st) := by
  intro H locs ls hP hD hS hl
  obtain ⟨q, hq⟩ := List.getElem?_of_mem (lvp_mem.mpr ⟨j, .int x, hx, rfl⟩ : (0 + j, cv ad (.int x)) ∈ lvp ad 0 lv)
  rw [Nat.zero_add] at hq
  exact lv_iinc X.1.1 X.1.2.1 hd hl.1 (k := q) (x := x) hq rfl hj rfl (fun ls' h' => k H locs ls' hP hD hS (he ▸ lvh_st1 (v := .int (x + Int32.ofInt n)) hl.2 hj hn h'))
end VV
