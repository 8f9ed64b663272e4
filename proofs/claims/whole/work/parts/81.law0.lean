/-! the law: scopes, the start -/
theorem okV_mono {n0 n1 : Nat} (h : n0 ≤ n1) {v : Value} (hv : okV n0 v = true) : okV n1 v = true := by
  cases v <;> first | rfl | exact decide_eq_true (Nat.lt_of_lt_of_le (of_decide_eq_true hv) h)
theorem okE_obj {n0 n1 : Nat} (h : n0 ≤ n1) {c0 : Nat} {fs : List Value} (hv : fs.all (okV n0) = true) : okE n1 (oB c0 fs) = true :=
  List.all_eq_true.mpr (fun v hm => okV_mono h (List.all_eq_true.mp hv v hm))
def FX (ws : List CE) : Prop := ∀ k e, (k = 3 ∨ 47 ≤ k) → ws[k]? = some e → ∃ c0, e = oB c0 []
theorem FX.fr {ks : List Nat} {ws ws2 : List CE} (h : FX ws) (hf : fr ks ws ws2) (hk : ∀ k ∈ ks, k ≠ 3 ∧ k < 47) : FX ws2 := by
  intro k e q he
  rw [hf.2 k (fun q2 => by have := hk k q2; omega)] at he
  exact h k e q he
theorem FX_app {ws : List CE} {c0 : Nat} (h : FX ws) : FX (ws ++ [oB c0 []]) := by
  intro k e q he
  rcases Nat.lt_or_ge k ws.length with w | w
  · rw [List.getElem?_append_left w] at he; exact h k e q he
  · rw [List.getElem?_append_right w] at he
    have := List.mem_of_getElem? he
    simp at this
    exact ⟨c0, this⟩
theorem RC_ok {ws : List CE} {n : Nat} {K : Nat → Nat} {kg mm : Nat} {Ln : Nat → Nat} {np : Nat} {pg : Nat → Nat} {nj : Nat} {Js : Nat → JD} {pn : Nat} {Pe : Nat → Nat} {hn : Nat} {U : Nat → Nat} {tr kk km kp kh rd : Nat} (hC : RC ws n K kg mm Ln np pg nj Js pn Pe hn U tr kk km kp kh rd) (hM : RM ws n K kg mm Ln np pg nj Js pn Pe hn U tr kk km kp kh rd) (hF : FX ws) (h47 : 47 ≤ ws.length) : okW ws.length ws = true := by
  obtain ⟨c0, ⟨_, c1, xs, c2, c2l, c2f⟩, ⟨c4, _, _, fm, c5, _⟩, ⟨fa, fl, fb, c6, c7, c8, _⟩, ⟨por, kp0, ks0, f10, fp, fs, ckk, c9, c10, c11, c12, _⟩, ⟨kr, ke, rd2, L0, ty, ft, fe, _, fw, csw, _, c13, fs14, c14, c15, c16, _⟩, ⟨s0', c0', fg, ft2, fb2, c17, c18, c19, c20⟩, ⟨fr1, ⟨c21, c22, _⟩, _⟩, ⟨fr2, ⟨c23, c24, _⟩, _⟩, ⟨fr3, ⟨c25, c26, _⟩, _⟩, ⟨fr4, ⟨c27, c28, _⟩, _⟩, _⟩ := hC
  obtain ⟨⟨rm, sa, sd, hs, c29⟩, ⟨_, _, _, _, ⟨f30, c30, _⟩, ⟨f31, c31, _⟩, ⟨f36, c36, _⟩⟩, _, ⟨f32, c32, _⟩, ⟨f34, c34, _⟩, ⟨f39, c39, _⟩, ⟨f40, c40, _⟩, ⟨f43, c43, _⟩, ⟨f44, c44, _⟩, ⟨f45, c45, _⟩, ⟨f46, c46, _⟩, ⟨⟨f33, c33⟩, ⟨f35, c35⟩, ⟨f37, c37⟩, ⟨f38, c38⟩, ⟨f41, c41⟩, ⟨f42, c42⟩⟩⟩ := hM
  have obj : ∀ {k : Nat} {c0 : Nat} {fs : List Value} {e : CE}, ws[k]? = some (oB c0 fs) → fs.all (okV 47) = true → ws[k]? = some e → okE ws.length e = true := fun h1 h2 h3 => by
    rw [h1] at h3; cases h3; exact okE_obj h47 h2
  have arr : ∀ {k N : Nat} {f : Nat → Int32} {e : CE}, ws[k]? = some (iA N f) → ws[k]? = some e → okE ws.length e = true := fun h1 h3 => by
    rw [h1] at h3; cases h3; rfl
  refine List.all_eq_true.mpr (fun e he => ?_)
  obtain ⟨k, hk⟩ := List.mem_iff_getElem?.mp he
  by_cases h : k = 3 ∨ 47 ≤ k
  · obtain ⟨c9', rfl⟩ := hF k e h hk
    rfl
  · have h2 : k < 47 := by omega
    match k, h2, hk with
    | 0, _, hk => exact obj c0 rfl hk
    | 1, _, hk => exact obj c1 rfl hk
    | 2, _, hk =>
      rw [c2] at hk
      cases hk
      refine List.all_eq_true.mpr (fun x hx => ?_)
      obtain ⟨j, hj⟩ := List.mem_iff_getElem?.mp hx
      have hj4 : j < 4 := by rw [← c2l]; exact (List.getElem?_eq_some_iff.mp hj).1
      obtain ⟨_, q, e1, e2, _⟩ := c2f j hj4
      rw [hj] at e1
      cases e1
      exact decide_eq_true (List.getElem?_eq_some_iff.mp e2).1
    | 3, _, hk => exact absurd (Or.inl rfl) h
    | 4, _, hk => exact obj c4 rfl hk
    | 5, _, hk => exact arr c5 hk
    | 6, _, hk => exact arr c6 hk
    | 7, _, hk => exact arr c7 hk
    | 8, _, hk => exact arr c8 hk
    | 9, _, hk => rcases ckk with ⟨rfl, rfl⟩ | ⟨rfl, rfl⟩ <;> exact obj c9 rfl hk
    | 10, _, hk => exact arr c10 hk
    | 11, _, hk => rcases ckk with ⟨rfl, rfl⟩ | ⟨rfl, rfl⟩; exact arr c11 hk; exact arr c12 hk
    | 12, _, hk => rcases ckk with ⟨rfl, rfl⟩ | ⟨rfl, rfl⟩; exact arr c12 hk; exact arr c11 hk
    | 13, _, hk => rcases csw with ⟨rfl, rfl⟩ | ⟨rfl, rfl⟩ <;> exact obj c13 rfl hk
    | 14, _, hk => exact arr c14 hk
    | 15, _, hk => rcases csw with ⟨rfl, rfl⟩ | ⟨rfl, rfl⟩; exact arr c15 hk; exact arr c16 hk
    | 16, _, hk => rcases csw with ⟨rfl, rfl⟩ | ⟨rfl, rfl⟩; exact arr c16 hk; exact arr c15 hk
    | 17, _, hk => exact obj c17 rfl hk
    | 18, _, hk => exact arr c18 hk
    | 19, _, hk => exact arr c19 hk
    | 20, _, hk => exact arr c20 hk
    | 21, _, hk => exact obj c21 rfl hk
    | 22, _, hk => exact arr c22 hk
    | 23, _, hk => exact obj c23 rfl hk
    | 24, _, hk => exact arr c24 hk
    | 25, _, hk => exact obj c25 rfl hk
    | 26, _, hk => exact arr c26 hk
    | 27, _, hk => exact obj c27 rfl hk
    | 28, _, hk => exact arr c28 hk
    | 29, _, hk => exact obj c29 rfl hk
    | 30, _, hk => exact arr c30 hk
    | 31, _, hk => exact arr c31 hk
    | 32, _, hk => exact arr c32 hk
    | 33, _, hk => exact arr c33 hk
    | 34, _, hk => exact arr c34 hk
    | 35, _, hk => exact arr c35 hk
    | 36, _, hk => exact arr c36 hk
    | 37, _, hk => exact arr c37 hk
    | 38, _, hk => exact arr c38 hk
    | 39, _, hk => exact arr c39 hk
    | 40, _, hk => exact arr c40 hk
    | 41, _, hk => exact arr c41 hk
    | 42, _, hk => exact arr c42 hk
    | 43, _, hk => exact arr c43 hk
    | 44, _, hk => exact arr c44 hk
    | 45, _, hk => exact arr c45 hk
    | 46, _, hk => exact arr c46 hk
    | k + 47, h2, _ => exact absurd h2 (by omega)
abbrev z0 : Nat → Nat := fun _ => 0
abbrev j0 : Nat → JD := fun _ => (fun _ => 0, 0, false)
theorem dg_z (i : Nat) : dg 0 i = 0 := by simp [dg]
theorem RC_start : RC wM 0 z0 0 0 z0 0 z0 0 j0 0 z0 0 z0 0 0 0 0 0 0 := by
  refine ⟨rfl, ⟨by decide, rfl, _, rfl, rfl, fun j hj => ⟨Nat.zero_lt_succ 4, 3, ?_, rfl, Or.inl rfl⟩⟩, ⟨rfl, by decide, fun j hj => by omega, _, rfl, fun j hj => by omega⟩, ⟨_, _, _, rfl, rfl, rfl, fun f hf => by omega, fun g hg => rfl, fun f hf => by omega, fun _ => ⟨fun i hi => rfl, fun i hi => rfl⟩⟩, ⟨z0, 11, 12, _, _, _, Or.inl ⟨rfl, rfl⟩, rfl, rfl, rfl, rfl, fun i hi => rfl, fun i hi => rfl⟩, ?_, ⟨_, _, _, _, _, rfl, rfl, rfl, rfl⟩, ⟨_, ⟨rfl, rfl, by decide, by decide, by decide⟩, fun i hi => by omega⟩, ⟨_, ⟨rfl, rfl, by decide, by decide, by decide⟩, fun i hi => by omega⟩, ⟨_, ⟨rfl, rfl, by decide, by decide, by decide⟩, fun i hi => by omega⟩, ⟨_, ⟨rfl, rfl, by decide, by decide, by decide⟩, fun i hi => by omega⟩, ?_⟩
  · match j, hj with
    | 0, _ => rfl
    | 1, _ => rfl
    | 2, _ => rfl
    | 3, _ => rfl
    | j + 4, h => omega
  · exact ⟨15, 16, 0, 0, _, _, _, Nat.le_refl 0, _, Or.inl ⟨rfl, rfl⟩, by decide, rfl, _, rfl, rfl, rfl, fun p0 hp => ⟨0, Nat.le_refl 0, rfl⟩⟩
  · exact ⟨by decide, by decide, fun i hi => by omega, fun i hi => by omega, fun i hi => by omega, fun i hi => by omega, fun q => by omega, fun _ => ⟨rfl, rfl, rfl, rfl⟩, by decide, by decide, by decide, by decide, by decide, by decide⟩
theorem RM_start : RM wM 0 z0 0 0 z0 0 z0 0 j0 0 z0 0 z0 0 0 0 0 0 0 := by
  have dz : ∀ i, (fun _ : Nat => nI 0) i = nI (dg 0 i) := fun i => by rw [dg_z]
  refine ⟨⟨nI 0, nI 0, nI 0, lN 0, rfl⟩, ⟨by decide, by decide, fun f hf => Nat.zero_lt_succ 4, fun j hj => by omega, ⟨_, rfl, fun i hi => rfl⟩, ⟨_, rfl, fun i hi => dz i⟩, ⟨_, rfl, fun j hj => by omega⟩⟩, ⟨by decide, by decide, by decide, by decide⟩, ⟨_, rfl, fun i hi => by omega⟩, ⟨_, rfl, fun i hi => by omega⟩, ⟨_, rfl, fun i hi => by omega⟩, ⟨_, rfl, fun i hi => by omega⟩, ⟨_, rfl, fun i hi => dz i⟩, ⟨_, rfl, fun i hi => by omega⟩, ⟨_, rfl, fun i hi => by omega⟩, ⟨_, rfl, fun i hi => by omega⟩, ⟨⟨_, rfl⟩, ⟨_, rfl⟩, ⟨_, rfl⟩, ⟨_, rfl⟩, ⟨_, rfl⟩, ⟨_, rfl⟩⟩⟩
theorem FX_start : FX wM := by
  intro k e h he
  rcases h with rfl | h
  · cases he; exact ⟨4, rfl⟩
  · have := (List.getElem?_eq_some_iff.mp he).1
    exact absurd (show k < 47 from this) (by omega)
