/-! the law: its own rows -/
def LF (p : Program) (s : State) (m : MethodId) (b : Nat) (c : Code) (G : GX) (A : Nat → Prop) : Prop := CallFix p m c cL_law 4 s #[Value.ref b] tb RL ∧ va_K G.1 vwCl (tysG G) s ∧ (∀ q : Nat, s.heap.size ≤ q → A q) ∧ SX G A s s.heap
section LR
variable {p : Program} {l : Launch} {e : Env} {R : Room} {s : State} {m : MethodId} {b : Nat} {below : List Frame} {meth : Method} {c : Code} {cells slots : Nat} {Q : State → Prop} {G : GX} {A : Nat → Prop} {ad : Nat → Nat} {ws : List CE} {pc : Nat} {H : Heap} {locs : List Loc} {ls : Array Slot} {rest : List Value}
theorem L_free (F : LF p s m b c G A) (hD : va_D A (cw G ad ws)) (hS : va_S A s.heap H locs) : ∀ q, va_A (cw G ad ws) H.size q → A q := by
  intro q h
  rcases h with ⟨k, e, h⟩ | h
  · exact hD.2 k (q, e) h
  · exact F.2.2.1 q (Nat.le_trans hS.1 h)
theorem L_PW (F : LF p s m b c G A) (hP : va_P G.1 vwCl (cw G ad ws) H) (hD : va_D A (cw G ad ws)) (hS : va_S A s.heap H locs) (hA1 : ∀ q, va_A (cw G ad ws) H.size q → A q) (U : State) (hU : U.heap = H) (hW : s.WarmedH U.vm) : PW G ad ws H.size U :=
  ⟨by rw [hU], by rw [hU]; exact hP, va_K.moved hW.alike F.2.1, hD.weaken (fun _ _ _ _ => trivial), by rw [hU]; exact ((F.2.2.2.kept hS.2.1).narrow hA1).warm hW⟩
theorem L_gV (F : LF p s m b c G A) {y2 : MethodName} {cc2 : ByteArray} {nL2 n h mc ms k ci idx : Nat} {ret2 : Option FieldType} {as fs : List Value} {post : (Nat → Nat) → Option Value → List CE → Prop} {T2 : u_T} {N2 : Nat} (hd : decode cL_law pc = .ok (.invokevirtual idx, 3)) (hc : CV RL idx y2 cc2 nL2 ret2 n) (M : Ct l G y2 cc2 nL2 ret2 h mc ms ad ws (.ref k :: as) post) (hk : ws[k]? = some (oB ci fs)) (hcl : vwCl[ci]? = some (y2.cls, T2, N2)) (hn : as.length = n) (hcat : (rest.map fun v => v.category).sum ≤ 8) (hR : (h + 1 ≤ R.frames ∧ 8 + (nL2 + 11) + 40 * h ≤ R.locals) ∧ cells + mc ≤ R.cells ∧ slots + ms ≤ R.slots)
    (hls : ls.size = 4) (hP : va_P G.1 vwCl (cw G ad ws) H) (hD : va_D A (cw G ad ws)) (hS : va_S A s.heap H locs)
    (kk : ∀ (ad2 : Nat → Nat) (v : Option Value) (ws2 : List CE) (H1 : Heap) (locs1 : List Loc), post ad2 v ws2 → va_P G.1 vwCl (cw G ad2 ws2) H1 → va_D A (cw G ad2 ws2) → va_S A s.heap H1 locs1 → W p l e R s m #[Value.ref b] below meth c H1 locs1 (cells + mc) (slots + ms) Q (F0 m (pc + 3) ls ((v.map (cv ad2)).toList ++ rest))) : W p l e R s m #[Value.ref b] below meth c H locs cells slots Q (F0 m pc ls ((as.map (cv ad)).reverse ++ .ref (ad k) :: rest)) := by
  obtain ⟨h1, h2, h3, h4, h5, hok⟩ := hc
  have hG : GoodIn tb (wsV RL idx y2.cls y2 (Cond.code y2 cc2 nL2 ret2 :: tb)) := by
    intro w hw
    rcases List.mem_append.mp hw with hw | hw
    · simp only [List.mem_cons, List.not_mem_nil, or_false] at hw
      rcases hw with rfl | rfl | rfl | rfl <;> exact tb_in (by assumption)
    · exact tb_goodIn h1 w hw
  have hr := va_runV (e := e) (below := below) (meth := meth) (As := as.map (cv ad)) (rest := rest) (n := n) (b := ad k) (g := F0 m pc ls ((as.map (cv ad)).reverse ++ .ref (ad k) :: rest)) (cells := cells) (slots := slots) (locs := locs) (H := H) F.1 (M H.size) (cwV n F.1.2.2.2.2 hG rfl rfl rfl ⟨rfl, hok⟩ hR.1)
    ⟨PW_fb, va_recv F.2.1 hP hcl (cw_get hk), fun U hU hW => ⟨rfl, L_PW F hP hD hS (L_free F hD hS) U hU hW⟩⟩ rfl (by rw [List.length_map]; exact hn) hls rfl (lv_room hcat) hd hR.2
  exact W_callQ hr hS (L_free F hD hS) (L_free F hD hS) kk
theorem L_gN (F : LF p s m b c G A) {y2 : MethodName} {cc2 : ByteArray} {nL2 n h mc ms k idx : Nat} {as : List Value} {post : (Nat → Nat) → Option Value → List CE → Prop} (hd : decode cL_law pc = .ok (.invokespecial idx, 3)) (hc : CN RL idx y2 cc2 nL2 n) (M : Ct l G y2 cc2 nL2 none h mc ms ad ws (.ref k :: as) post) (hn : as.length = n) (hcat : (rest.map fun v => v.category).sum ≤ 8) (hR : (h + 1 ≤ R.frames ∧ 8 + (nL2 + 11) + 40 * h ≤ R.locals) ∧ cells + mc ≤ R.cells ∧ slots + ms ≤ R.slots)
    (hls : ls.size = 4) (hP : va_P G.1 vwCl (cw G ad ws) H) (hD : va_D A (cw G ad ws)) (hS : va_S A s.heap H locs)
    (kk : ∀ (ad2 : Nat → Nat) (v : Option Value) (ws2 : List CE) (H1 : Heap) (locs1 : List Loc), post ad2 v ws2 → va_P G.1 vwCl (cw G ad2 ws2) H1 → va_D A (cw G ad2 ws2) → va_S A s.heap H1 locs1 → W p l e R s m #[Value.ref b] below meth c H1 locs1 (cells + mc) (slots + ms) Q (F0 m (pc + 3) ls ((v.map (cv ad2)).toList ++ rest))) : W p l e R s m #[Value.ref b] below meth c H locs cells slots Q (F0 m pc ls ((as.map (cv ad)).reverse ++ .ref (ad k) :: rest)) := by
  obtain ⟨h1, h2, h3, h4, h5, hok⟩ := hc
  have hpre : PreS s H (va_Pc ((Value.ref k :: as).map (cv ad)) (PW G ad ws H.size)) (.ref (ad k) :: as.map (cv ad)) := ⟨PW_fb, fun U hU hW => ⟨rfl, L_PW F hP hD hS (L_free F hD hS) U hU hW⟩⟩
  rcases h2 with h2 | ⟨host, h2⟩
  · have hr := va_runI (e := e) (below := below) (meth := meth) (As := as.map (cv ad)) (rest := rest) (n := n) (b := ad k) (g := F0 m pc ls ((as.map (cv ad)).reverse ++ .ref (ad k) :: rest)) (cells := cells) (slots := slots) (locs := locs) (H := H) F.1 (M H.size) (cwI n F.1.2.2.2.2 (tb_goodIn h1) rfl rfl rfl (F.1.2.2.2.2 _ h4) (F.1.2.2.2.2 _ h2) (F.1.2.2.2.2 _ h3) h5 hok hR.1) hpre rfl (by rw [List.length_map]; exact hn) hls rfl (lv_room hcat) hd hR.2
    exact W_callQ hr hS (L_free F hD hS) (L_free F hD hS) kk
  · have hr := va_runIN (e := e) (below := below) (meth := meth) (As := as.map (cv ad)) (rest := rest) (n := n) (b := ad k) (g := F0 m pc ls ((as.map (cv ad)).reverse ++ .ref (ad k) :: rest)) (cells := cells) (slots := slots) (locs := locs) (H := H) F.1 (M H.size) ⟨va_cnB n F.1.2.2.2.2 (tb_goodIn h1) rfl rfl rfl (F.2.2.2.2.2.2.1 _ h2) (F.1.2.2.2.2 _ h4) hok hR.1, h5, F.1.2.2.2.2 _ h3⟩ hpre rfl (by rw [List.length_map]; exact hn) hls rfl (lv_room hcat) hd hR.2
    exact W_callQ hr hS (L_free F hD hS) (L_free F hD hS) kk
theorem L_new (F : LF p s m b c G A) {idx ci N : Nat} {fs : List Value} (n : Nat) (hd : decode cL_law pc = .ok (.new idx, 3)) (hf : CNew RL idx ci N fs) (hfs : ∀ b : Nat → Nat, fs.map (cv b) = fs) (hn : ws.length = n) (hnk : n ≠ kP) (hw : okW n ws = true) (hcells : cells + 1 ≤ R.cells) (hslots : slots + N ≤ R.slots) (hP : va_P G.1 vwCl (cw G ad ws) H) (hD : va_D A (cw G ad ws)) (hS : va_S A s.heap H locs)
    (kk : ∀ (ad2 : Nat → Nat) (H1 : Heap), agr n ad ad2 → ad2 kP = ad kP → va_P G.1 vwCl (cw G ad2 (ws ++ [oB ci fs])) H1 → va_D A (cw G ad2 (ws ++ [oB ci fs])) → va_S A s.heap H1 locs → W p l e R s m #[Value.ref b] below meth c H1 locs (cells + 1) (slots + N) Q (F0 m (pc + 3) ls (.ref (ad2 n) :: rest))) : W p l e R s m #[Value.ref b] below meth c H locs cells slots Q (F0 m pc ls rest) := by
  obtain ⟨C, T, ty, ⟨h1, h2, h3, h4⟩, hcl, hin, hini, hty⟩ := hf
  refine va_new (D := G.1) (cl := vwCl) (ws := cw G ad ws) (Ts := tb) (fs := fs) F.1.1 F.1.2.1 F.1.2.2.2.2 h2 ty h3 F.1.2.2.2.1 (F.1.2.2.2.2 _ hcl) (F.1.2.2.2.2 _ hin) (F.1.2.2.2.2 _ hini) F.2.1 hP hD hS F.2.2.1 h1 hty hcells hslots hd (fun q H1 hP1 hD1 hS1 => ?_)
  have ag := adN_agr ad n q
  have ew : cw G (adN ad n q) (ws ++ [oB ci fs]) = cw G ad ws ++ [(q, .inr (ci, fs))] := by
    rw [cw_app, cw_ok ag hw (by omega), hn, adN_at]
    show _ ++ [(q, Sum.inr (ci, fs.map (cv (adN ad n q))))] = _
    rw [hfs]
  rw [← ew] at hP1 hD1
  have := kk (adN ad n q) H1 ag (adN_ne ad (Ne.symm hnk)) hP1 hD1 hS1
  rw [adN_at] at this
  exact this
end LR
