/-! counting by distances is counting one by one -/
theorem cnt_add (P : Nat → Bool) (m0 : Nat) : ∀ k, cnt P (m0 + k) = cnt P m0 + cnt (fun b => P (m0 + b)) k
  | 0 => rfl
  | k + 1 => by rw [← Nat.add_assoc, cnt, cnt_add P m0 k, cnt]; omega
theorem cnt_blocks (P : Nat → Bool) (N : Nat) : ∀ m0, cnt P (m0 * N) = sumF (fun s => cnt (fun b => P (s * N + b)) N) m0
  | 0 => by rw [Nat.zero_mul]; rfl
  | m0 + 1 => by rw [Nat.add_mul, Nat.one_mul, cnt_add, cnt_blocks P N m0, sumF]
theorem cnt_false : ∀ N, cnt (fun _ => false) N = 0
  | 0 => rfl
  | N + 1 => by rw [cnt, cnt_false N]; rfl
theorem cnt_or {P Q : Nat → Bool} (h : ∀ i, ¬ (P i = true ∧ Q i = true)) : ∀ N, cnt (fun i => P i || Q i) N = cnt P N + cnt Q N
  | 0 => rfl
  | N + 1 => by
    rw [cnt, cnt, cnt, cnt_or h N]
    have := h N
    cases hp : P N <;> cases hq : Q N
    · simp
    · simp; omega
    · simp; omega
    · exact absurd ⟨hp, hq⟩ this
theorem sumF_met (ok : Nat → Bool) (gp w : Nat → Nat) (M : Nat) : ∀ m0, sumF (fun part => metTo ok gp m0 part * w part) M = sumF (fun s => if ok s = true ∧ gp s < M then w (gp s) else 0) m0
  | 0 => by
    rw [sumF]
    have : ∀ M, sumF (fun part => metTo ok gp 0 part * w part) M = 0 := fun M => by
      induction M with
      | zero => rfl
      | succ M ih => rw [sumF, ih, metTo]; simp
    exact this M
  | m0 + 1 => by
    rw [sumF, ← sumF_met ok gp w M m0]
    have one : ∀ M, sumF (fun part => (if part = gp m0 then metTo ok gp m0 part + 1 else metTo ok gp m0 part) * w part) M = sumF (fun part => metTo ok gp m0 part * w part) M + if gp m0 < M then w (gp m0) else 0 := fun M => by
      induction M with
      | zero => rfl
      | succ M ih =>
        rw [sumF, sumF, ih]
        by_cases e : M = gp m0
        · rw [if_pos e, if_neg (show ¬ gp m0 < M by omega), if_pos (show gp m0 < M + 1 by omega), ← e, Nat.add_mul, Nat.one_mul]; omega
        · rw [if_neg e]
          by_cases q : gp m0 < M
          · rw [if_pos q, if_pos (by omega)]; omega
          · rw [if_neg q, if_neg (by omega)]; omega
    cases ho : ok m0 with
    | true =>
      rw [metTo_yes ho, one M]
      by_cases q : gp m0 < M
      · rw [if_pos q, if_pos ⟨rfl, q⟩]
      · rw [if_neg q, if_neg (fun v => q v.2)]
    | false =>
      rw [metTo_no ho, if_neg (fun v => by cases v.1), Nat.add_zero]
def allF (ok : Nat → Nat → Bool) (a : Nat) : Nat → Bool
  | 0 => true
  | f + 1 => allF ok a f && ok f (dg a f)
theorem allF_congr {ok : Nat → Nat → Bool} {a b : Nat} : ∀ {f : Nat}, (∀ g, g < f → dg a g = dg b g) → allF ok a f = allF ok b f
  | 0, _ => rfl
  | f + 1, h => by rw [allF, allF, allF_congr (fun g hg => h g (by omega)), h f (by omega)]
theorem dg_block {f b s0 : Nat} (hb : b < 10 ^ f) (hs : s0 < 10) : dg (s0 * 10 ^ f + b) f = s0 ∧ ∀ g, g < f → dg (s0 * 10 ^ f + b) g = dg b g := by
  have e : s0 * 10 ^ f + b = withP b f s0 := by
    have h0 : dg b f = 0 := dg_small hb (Nat.le_refl f)
    have := withP_add b f s0
    rw [h0, Nat.zero_mul] at this
    omega
  rw [e]
  exact ⟨dg_withP_self hs, fun g hg => dg_withP_ne hs (by omega)⟩
theorem por_cnt (ok gp : Nat → Nat → Nat) (okb : Nat → Nat → Bool) (hgp : ∀ f s, s < 10 → gp f s < 10) : ∀ f d, porTo (fun f => metTo (okb f) (gp f) 10) f d = cnt (fun a => allF okb a f && decide (sumF (fun g => gp g (dg a g)) f = d)) (10 ^ f)
  | 0, d => by
    rw [porTo, Nat.pow_zero, cnt, cnt]
    simp only [allF, sumF]
    by_cases h : d = 0
    · simp [h]
    · simp [h, Ne.symm h]
  | f + 1, d => by
    rw [porTo, conv, sumF_met, Nat.pow_succ, Nat.mul_comm, cnt_blocks]
    refine sumF_congr 10 (fun s0 hs => ?_)
    have hg := hgp f s0 hs
    by_cases hc : okb f s0 = true ∧ gp f s0 < min 10 (d + 1)
    · rw [if_pos hc, por_cnt ok gp okb hgp f (d - gp f s0)]
      refine cnt_congr (fun b hb => ?_)
      obtain ⟨h1, h2⟩ := dg_block hb hs
      have hsum : sumF (fun g => gp g (dg (s0 * 10 ^ f + b) g)) f = sumF (fun g => gp g (dg b g)) f := sumF_congr f (fun g hg => congrArg (gp g) (h2 g hg))
      rw [allF, h1, hc.1, Bool.and_true, allF_congr h2, sumF, h1, hsum]
      congr 1
      rw [decide_eq_decide]
      omega
    · rw [if_neg hc]
      symm
      refine (cnt_congr (P2 := fun _ => false) (fun b hb => ?_)).trans (cnt_false (10 ^ f))
      obtain ⟨h1, h2⟩ := dg_block hb hs
      rw [allF, h1]
      cases ho : okb f s0 with
      | false => simp
      | true =>
        rw [sumF, h1, decide_eq_false (fun e => hc ⟨ho, by omega⟩), Bool.and_false]
theorem cnt_upto (P : Nat → Bool) (S : Nat → Nat) (N : Nat) : ∀ D, sumF (fun d => cnt (fun a => P a && decide (S a = d)) N) D = cnt (fun a => P a && decide (S a < D)) N
  | 0 => by
    rw [sumF]
    symm
    exact (cnt_congr (P2 := fun _ => false) (fun a _ => by simp)).trans (cnt_false N)
  | D + 1 => by
    rw [sumF, cnt_upto P S N D, ← cnt_or (fun i q => by simp at q; omega)]
    refine cnt_congr (fun a _ => ?_)
    rw [← Bool.and_or_distrib_left]
    congr 1
    rw [Bool.eq_iff_iff]
    simp
    omega
theorem allOK_allF (K : Nat → Nat) (q : JD) (la kg a : Nat) : ∀ n, allOK K q la a kg n = allF (okP K q la kg) a n
  | 0 => rfl
  | n + 1 => by
    rw [allOK, allF, allOK_allF K q la kg a n, stepOK, okP, Bool.or_comm]
theorem pass_one {n : Nat} (h4 : n ≤ 4) (K : Nat → Nat) (q : JD) (la kg : Nat) : passC n K q la kg = passN n K q la kg := by
  rw [passN, passC]
  have h1 : ∀ d, porTo (metP K q la kg) n d = cnt (fun a => allF (okP K q la kg) a n && decide (sumF (fun g => gapK (K g) (dg la g) (dg a g)) n = d)) (10 ^ n) := fun d => por_cnt (fun _ _ => 0) (fun f s => gapK (K f) (dg la f) s) (okP K q la kg) (fun f s hs => gapK_lt (dg_lt _ _) hs) n d
  rw [sumF_congr _ (fun d _ => h1 d), cnt_upto]
  refine cnt_congr (fun a _ => ?_)
  rw [letsJ, allOK_allF]
  congr 1
  rw [decide_eq_decide]
  have h2 := gapP_le n K la a
  rw [gapP] at h2 ⊢
  omega
theorem within_one {n : Nat} (h4 : n ≤ 4) (K : Nat → Nat) (la years : Nat) : cnt (fun a => decide (stepP n K a la ≤ years)) (10 ^ n) = withinN n K la years := by
  rw [withinN]
  have h1 : ∀ d, porTo (metW K la) n d = cnt (fun a => allF (fun _ _ => true) a n && decide (sumF (fun g => stepK (K g) (dg a g) (dg la g)) n = d)) (10 ^ n) := fun d => por_cnt (fun _ _ => 0) (fun f s => stepK (K f) s (dg la f)) (fun _ _ => true) (fun f s hs => stepK_lt hs (dg_lt _ _)) n d
  rw [sumF_congr _ (fun d _ => h1 d), cnt_upto]
  refine cnt_congr (fun a _ => ?_)
  have h3 : ∀ n, allF (fun _ _ => true) a n = true := fun n => by
    induction n with
    | zero => rfl
    | succ n ih => rw [allF, ih]; rfl
  rw [h3, Bool.true_and, decide_eq_decide]
  have h2 := stepP_le n K a la
  rw [stepP] at h2 ⊢
  omega
theorem pass_lt {n : Nat} (h4 : n ≤ 4) (K : Nat → Nat) (q : JD) (la kg : Nat) : passN n K q la kg < 2147483648 := by
  rw [← pass_one h4, passC]
  have := cnt_le (fun a => letsJ n K q la a kg) (10 ^ n)
  have := pow_le4 h4
  omega
theorem strict_one {n : Nat} (h4 : n ≤ 4) (K : Nat → Nat) (mm kg nj : Nat) (Js : Nat → JD) (Ln : Nat → Nat) : R_strict n K mm kg nj Js Ln = r_strict n K mm kg nj Js Ln := by
  rw [R_strict, r_strict]
  congr 2
  have : (fun j => passC n K (Js j) (Ln (mm - 1)) kg) = (fun j => passN n K (Js j) (Ln (mm - 1)) kg) := by
    funext j
    exact pass_one h4 _ _ _ _
  rw [this]
theorem span_one {n : Nat} (h4 : n ≤ 4) (K : Nat → Nat) (mm : Nat) (Ln : Nat → Nat) (x : Int32) : R_span n K mm Ln x = r_span n K mm Ln x := by
  rw [R_span, r_span]
  have e : (decide (¬ x < 0) && decide (x ≤ nI 3)) = inR 4 x := by
    rw [← inR_of_le 3 (by decide) x]
    congr 1
    rw [decide_eq_decide]
    exact Int32.not_lt.symm
  rw [e, within_one h4]
