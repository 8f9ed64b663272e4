/-! both ways of reading a text are one -/
def rrD (pg : Nat → Nat) (k : Nat) : Nat → Int32 := fun i => if i < k then nI (pg i) - nI 48 else rr0 i
theorem rrD_next (pg : Nat → Nat) (k : Nat) : upd (rrD pg k) k (nI (pg k) - nI 48) = rrD pg (k + 1) := by
  funext i
  by_cases e : i = k
  · subst e; rw [pk_us, rrD, if_pos (by omega)]
  · rw [pk_un e, rrD, rrD]
    by_cases q : i < k
    · rw [if_pos q, if_pos (by omega)]
    · rw [if_neg q, if_neg (by omega)]
theorem scanD_ge (pg : Nat → Nat) : ∀ d k, k ≤ scanD pg d k ∧ scanD pg d k ≤ k + d
  | 0, k => by rw [scanD]; omega
  | d + 1, k => by
    rw [scanD]
    split
    · have := scanD_ge pg d (k + 1); omega
    · omega
theorem isDg0 (c : Nat) : isDg c 0 = decide (48 ≤ c ∧ c ≤ 57) := by
  rw [isDg, Nat.add_zero, Bool.decide_and]
theorem isDg1 (c : Nat) : isDg c 1 = decide (49 ≤ c ∧ c ≤ 57) := by
  rw [isDg, Bool.decide_and]
theorem runG_dig (n np : Nat) (pg : Nat → Nat) (hn : n ≤ 4) : ∀ d k, k + d = min np n → (scanD pg d k < min np n → runG n np pg (11 - k) k (k, 0, rrD pg k) = (scanD pg d k, (scanD pg d k + 1, 0, rrD pg (scanD pg d k + 1)))) ∧ (¬ scanD pg d k < min np n → runG n np pg (11 - k) k (k, 0, rrD pg k) = runG n np pg (11 - min np n) (min np n) (min np n, 0, rrD pg (min np n)))
  | 0, k, h => by
    rw [scanD]
    refine ⟨fun q => by omega, fun _ => ?_⟩
    rw [show k = min np n by omega]
  | d + 1, k, h => by
    have hk : k < np ∧ k < n := by omega
    obtain ⟨f, hf⟩ : ∃ f, 11 - k = f + 1 := ⟨10 - k, by omega⟩
    have hg : goS n (k, 0, rrD pg k) (pg k) = (isDg (pg k) 0, (k + 1, 0, rrD pg (k + 1))) := by
      rw [goS, if_pos ⟨rfl, hk.2⟩, isDg0]
      simp only
      rw [rrD_next]
    rw [hf, runG, if_pos hk.1, hg, scanD]
    cases hd : isDg (pg k) 0 with
    | true =>
      have ih := runG_dig n np pg hn d (k + 1) (by omega)
      rw [show 11 - (k + 1) = f by omega] at ih
      simpa using ih
    | false =>
      simp only [Bool.false_eq_true, if_false]
      refine ⟨fun _ => ?_, fun q => ?_⟩
      · trivial
      · exact absurd (by omega : k < min np n) q
theorem runG_st3 (n np : Nat) (pg : Nat → Nat) (f k r : Nat) (R : Nat → Int32) (hr : n ≤ r) : (runG n np pg (f + 1) k (r, 3, R)).1 = k ∧ (np ≤ k → runG n np pg (f + 1) k (r, 3, R) = (k, (r, 3, R))) := by
  rw [runG]
  by_cases h : k < np
  · rw [if_pos h]
    have hg : (goS n (r, 3, R) (pg k)).1 = false := by
      rw [goS, if_neg (by simp), if_neg (by simp)]
      simp
    rw [hg]
    exact ⟨rfl, fun q => by omega⟩
  · rw [if_neg h]
    exact ⟨rfl, fun _ => rfl⟩
theorem runG_end (n np : Nat) (pg : Nat → Nat) (f k : Nat) (s0 : GS) (h : np ≤ k) : runG n np pg f k s0 = (k, s0) := by
  cases f with
  | zero => rfl
  | succ f => rw [runG, if_neg (by omega)]
theorem runG_step (n np : Nat) (pg : Nat → Nat) (f k : Nat) (s0 : GS) (h : k < np) : runG n np pg (f + 1) k s0 = if (goS n s0 (pg k)).1 then runG n np pg f (k + 1) (goS n s0 (pg k)).2 else (k, (goS n s0 (pg k)).2) := by
  rw [runG, if_pos h]
/-- what is left behind the digits -/
def Tail9 (n np : Nat) (pg : Nat → Nat) (q : Nat × GS) : Prop := q.1 = faultT n np pg n ∧ q.2.1 = n ∧ ((np ≤ q.1 ∧ ¬ q.2.2.1 = 1) ↔ (faultT n np pg n = np ∧ ¬ pg (np - 1) = 43)) ∧ (np ≤ q.1 → q.2.2.1 ≠ 1 → ∀ i, i < 4 → q.2.2.2 i = rrD pg n i) ∧ (np ≤ q.1 → q.2.2.1 ≠ 1 → q.2.2.2 4 = (if pg n = 43 then nI (pg (n + 1)) - nI 48 else (-1))) ∧ (np ≤ q.1 → q.2.2.1 ≠ 1 → q.2.2.2 5 = (if pg (np - 1) = 33 then nI 1 else nI 0)) ∧ (np ≤ q.1 → q.2.2.1 ≠ 1 → (pg n = 43 → n + 1 < np ∧ 49 ≤ pg (n + 1) ∧ pg (n + 1) ≤ 57))
theorem goS_3 (n r st : Nat) (R : Nat → Int32) (c0 : Nat) (h1 : ¬ (st = 0 ∧ r < n)) (h2 : ¬ st = 1) : goS n (r, st, R) c0 = (decide ((c0 = 43 ∧ st = 0) ∨ (c0 = 33 ∧ st ≠ 3)), (r, if c0 = 43 then 1 else 3, upd R 5 (if c0 = 33 then nI 1 else R 5))) := by
  rw [goS, if_neg h1, if_neg h2]
theorem runG_tail (n np : Nat) (pg : Nat → Nat) (hn : n ≤ 4) (h : n < np) (f : Nat) : Tail9 n np pg (runG n np pg (f + 4) n (n, 0, rrD pg n)) := by
  have hr4 : ∀ i, i < 4 → i ≠ 5 ∧ i ≠ 4 := fun i hi => by omega
  have r5 : rrD pg n 5 = nI 0 := by rw [rrD, if_neg (by omega)]; rfl
  have r4 : rrD pg n 4 = (-1) := by rw [rrD, if_neg (by omega)]; rfl
  rw [runG_step n np pg (f + 3) n _ h, goS_3 n n 0 _ _ (by omega) (by omega)]
  simp only
  by_cases c43 : pg n = 43
  · rw [if_pos (by simp [c43]), if_pos c43, if_neg (by omega)]
    have ft : faultT n np pg n = if n + 1 = np ∨ isDg (pg (n + 1)) 1 = false then n + 1 else bangP np pg (n + 2) := by
      rw [faultT, if_neg (by omega), if_pos ⟨h, c43⟩]
    by_cases h1 : n + 1 = np
    · rw [runG_end n np pg _ _ _ (by omega)]
      rw [if_pos (Or.inl h1)] at ft
      exact ⟨ft.symm, rfl, ⟨fun q => absurd rfl q.2, fun q => absurd (by rw [show np - 1 = n by omega]; exact c43) q.2⟩, fun _ q => absurd rfl q, fun _ q => absurd rfl q, fun _ q => absurd rfl q, fun _ q => absurd rfl q⟩
    · rw [runG_step n np pg (f + 2) (n + 1) _ (by omega)]
      have hg : goS n (n, 1, upd (rrD pg n) 5 (rrD pg n 5)) (pg (n + 1)) = (decide (49 ≤ pg (n + 1) ∧ pg (n + 1) ≤ 57), (n, 2, upd (upd (rrD pg n) 5 (rrD pg n 5)) 4 (nI (pg (n + 1)) - nI 48))) := by
        rw [goS, if_neg (by omega), if_pos rfl]
      rw [hg]
      simp only
      by_cases hd : 49 ≤ pg (n + 1) ∧ pg (n + 1) ≤ 57
      · rw [if_pos (decide_eq_true hd)]
        rw [if_neg (by rw [isDg1, decide_eq_true hd]; simp [h1])] at ft
        have v4 : upd (upd (rrD pg n) 5 (rrD pg n 5)) 4 (nI (pg (n + 1)) - nI 48) 5 = nI 0 := by rw [pk_un (by decide), pk_us, r5]
        by_cases h2 : n + 2 = np
        · rw [runG_end n np pg _ _ _ (by omega)]
          rw [bangP, if_neg (by omega)] at ft
          have hl : np - 1 = n + 1 := by omega
          refine ⟨ft.symm, rfl, ⟨fun _ => ⟨by omega, by rw [hl]; omega⟩, fun _ => ⟨by show np ≤ n + 2; omega, by show ¬ 2 = 1; omega⟩⟩, fun _ _ i hi => ?_, fun _ _ => ?_, fun _ _ => ?_, fun _ _ _ => ⟨by omega, hd⟩⟩
          · show upd (upd (rrD pg n) 5 (rrD pg n 5)) 4 _ i = _
            rw [pk_un (hr4 i hi).2, pk_un (hr4 i hi).1]
          · rw [if_pos c43]
            show upd (upd (rrD pg n) 5 (rrD pg n 5)) 4 (nI (pg (n + 1)) - nI 48) 4 = nI (pg (n + 1)) - nI 48
            rw [pk_us]
          · rw [hl, if_neg (by omega)]
            exact v4
        · rw [runG_step n np pg (f + 1) (n + 2) _ (by omega), goS_3 n n 2 _ _ (by omega) (by omega)]
          simp only
          by_cases c33 : pg (n + 2) = 33
          · rw [if_pos (decide_eq_true (Or.inr ⟨c33, by omega⟩)), if_neg (by omega), if_pos c33]
            rw [bangP, if_pos ⟨by omega, c33⟩] at ft
            obtain ⟨s1, s2⟩ := runG_st3 n np pg f (n + 2 + 1) n (upd (upd (upd (rrD pg n) 5 (rrD pg n 5)) 4 (nI (pg (n + 1)) - nI 48)) 5 (nI 1)) (Nat.le_refl n)
            by_cases h3 : np ≤ n + 2 + 1
            · rw [s2 h3]
              have hl : np - 1 = n + 2 := by omega
              refine ⟨ft.symm, rfl, ⟨fun _ => ⟨by omega, by rw [hl]; omega⟩, fun _ => ⟨h3, by show ¬ 3 = 1; omega⟩⟩, fun _ _ i hi => ?_, fun _ _ => ?_, fun _ _ => ?_, fun _ _ _ => ⟨by omega, hd⟩⟩
              · show upd (upd (upd (rrD pg n) 5 (rrD pg n 5)) 4 _) 5 _ i = _
                rw [pk_un (hr4 i hi).1, pk_un (hr4 i hi).2, pk_un (hr4 i hi).1]
              · rw [if_pos c43]
                show upd (upd (upd (rrD pg n) 5 (rrD pg n 5)) 4 (nI (pg (n + 1)) - nI 48)) 5 (nI 1) 4 = nI (pg (n + 1)) - nI 48
                rw [pk_un (by decide), pk_us]
              · rw [hl, if_pos c33]
                show upd (upd (upd (rrD pg n) 5 (rrD pg n 5)) 4 (nI (pg (n + 1)) - nI 48)) 5 (nI 1) 5 = nI 1
                rw [pk_us]
            · have no : ¬ np ≤ (runG n np pg (f + 1) (n + 2 + 1) (n, 3, upd (upd (upd (rrD pg n) 5 (rrD pg n 5)) 4 (nI (pg (n + 1)) - nI 48)) 5 (nI 1))).1 := by rw [s1]; exact h3
              have r1 : (runG n np pg (f + 1) (n + 2 + 1) (n, 3, upd (upd (upd (rrD pg n) 5 (rrD pg n 5)) 4 (nI (pg (n + 1)) - nI 48)) 5 (nI 1))).2.1 = n := by
                rw [runG_step n np pg f _ _ (by omega), goS_3 n n 3 _ _ (by omega) (by omega), if_neg (by simp)]
              exact ⟨by rw [s1, ft], r1, ⟨fun q => absurd q.1 no, fun q => by omega⟩, fun q => absurd q no, fun q => absurd q no, fun q => absurd q no, fun q => absurd q no⟩
          · rw [if_neg (by simp [c33])]
            rw [bangP, if_neg (fun q => c33 q.2)] at ft
            have no : ¬ np ≤ n + 2 := by omega
            exact ⟨ft.symm, rfl, ⟨fun q => absurd q.1 no, fun q => by omega⟩, fun q => absurd q no, fun q => absurd q no, fun q => absurd q no, fun q => absurd q no⟩
      · rw [if_neg (by simp [hd])]
        rw [if_pos (Or.inr (by rw [isDg1]; exact decide_eq_false hd))] at ft
        have no : ¬ np ≤ n + 1 := by omega
        exact ⟨ft.symm, rfl, ⟨fun q => absurd q.1 no, fun q => by omega⟩, fun q => absurd q no, fun q => absurd q no, fun q => absurd q no, fun q => absurd q no⟩
  · have ft : faultT n np pg n = bangP np pg n := by
      rw [faultT, if_neg (by omega), if_neg (fun q => c43 q.2)]
    by_cases c33 : pg n = 33
    · rw [if_pos (decide_eq_true (Or.inr ⟨c33, by omega⟩)), if_neg c43, if_pos c33]
      rw [bangP, if_pos ⟨h, c33⟩] at ft
      obtain ⟨s1, s2⟩ := runG_st3 n np pg (f + 2) (n + 1) n (upd (rrD pg n) 5 (nI 1)) (Nat.le_refl n)
      by_cases h3 : np ≤ n + 1
      · rw [s2 h3]
        have hl : np - 1 = n := by omega
        refine ⟨ft.symm, rfl, ⟨fun _ => ⟨by omega, by rw [hl]; omega⟩, fun _ => ⟨h3, by show ¬ 3 = 1; omega⟩⟩, fun _ _ i hi => ?_, fun _ _ => ?_, fun _ _ => ?_, fun _ _ q => absurd q c43⟩
        · show upd (rrD pg n) 5 _ i = _
          rw [pk_un (hr4 i hi).1]
        · rw [if_neg c43]
          show upd (rrD pg n) 5 (nI 1) 4 = (-1)
          rw [pk_un (by decide), r4]
        · rw [hl, if_pos c33]
          show upd (rrD pg n) 5 (nI 1) 5 = nI 1
          rw [pk_us]
      · have no : ¬ np ≤ (runG n np pg (f + 2 + 1) (n + 1) (n, 3, upd (rrD pg n) 5 (nI 1))).1 := by rw [s1]; exact h3
        have r1 : (runG n np pg (f + 2 + 1) (n + 1) (n, 3, upd (rrD pg n) 5 (nI 1))).2.1 = n := by
          rw [runG_step n np pg (f + 2) _ _ (by omega), goS_3 n n 3 _ _ (by omega) (by omega), if_neg (by simp)]
        exact ⟨by rw [s1, ft], r1, ⟨fun q => absurd q.1 no, fun q => by omega⟩, fun q => absurd q no, fun q => absurd q no, fun q => absurd q no, fun q => absurd q no⟩
    · rw [if_neg (by simp [c33, c43])]
      rw [bangP, if_neg (fun q => c33 q.2)] at ft
      have no : ¬ np ≤ n := by omega
      exact ⟨ft.symm, rfl, ⟨fun q => absurd q.1 no, fun q => by omega⟩, fun q => absurd q no, fun q => absurd q no, fun q => absurd q no, fun q => absurd q no⟩
theorem markI_4 (n : Nat) (q : JD) : markI n q 4 = if q.2.1 = 0 then (-1) else nI q.2.1 := by simp [markI]
theorem markI_5 (n : Nat) (q : JD) : markI n q 5 = if q.2.2 then nI 1 else nI 0 := by simp [markI]
theorem nI_sub48 {a : Nat} (h : 48 ≤ a) : nI a - nI 48 = nI (a - 48) := by
  have h1 : nI (a - 48) + nI 48 = nI a := by rw [nI_add, Nat.sub_add_cancel h]
  generalize nI (a - 48) = x at *
  generalize nI a = z at *
  generalize nI 48 = w at *
  grind
theorem faultM_1 (n np : Nat) (pg : Nat → Nat) (hn : n ≤ 4) (hnp : np ≤ 10) : (faultM n np pg).1 = faultP n np pg := by
  have h0 : faultM n np pg = runG n np pg (11 - 0) 0 (0, 0, rrD pg 0) := by
    rw [faultM]
    have : rrD pg 0 = rr0 := by funext i; rw [rrD, if_neg (by omega)]
    rw [this]
  obtain ⟨d1, d2⟩ := runG_dig n np pg hn (min np n) 0 (by omega)
  have hs := scanD_ge pg (min np n) 0
  rw [h0, faultP]
  by_cases q : scanD pg (min np n) 0 < min np n
  · rw [d1 q, faultT, if_pos (by omega)]
  · have e : scanD pg (min np n) 0 = min np n := by omega
    rw [d2 q, e]
    rcases Nat.lt_or_ge n np with w | w
    · rw [show min np n = n by omega, show 11 - n = (7 - n) + 4 by omega]
      exact (runG_tail n np pg hn w (7 - n)).1
    · rw [show min np n = np by omega, runG_end n np pg _ _ _ (by omega), faultT]
      by_cases v : np < n
      · rw [if_pos v]
      · rw [if_neg v, if_neg (by omega), bangP, if_neg (by omega)]
theorem faultM_2 (n np : Nat) (pg : Nat → Nat) (hn : n ≤ 4) (hn0 : 0 < n) (hnp : np ≤ 10) : okM n np pg = isJ n np pg ∧ (isJ n np pg = true → okJ n (judgeOf n np pg) ∧ ∀ w, w < 6 → (faultM n np pg).2.2.2 w = markI n (judgeOf n np pg) w) := by
  have h1 := faultM_1 n np pg hn hnp
  have h0 : faultM n np pg = runG n np pg (11 - 0) 0 (0, 0, rrD pg 0) := by
    rw [faultM]
    have : rrD pg 0 = rr0 := by funext i; rw [rrD, if_neg (by omega)]
    rw [this]
  obtain ⟨d1, d2⟩ := runG_dig n np pg hn (min np n) 0 (by omega)
  have hs := scanD_ge pg (min np n) 0
  have noJ : ∀ {b : Bool}, b = false → isJ n np pg = false → b = isJ n np pg ∧ (isJ n np pg = true → okJ n (judgeOf n np pg) ∧ ∀ w, w < 6 → (faultM n np pg).2.2.2 w = markI n (judgeOf n np pg) w) := fun q1 q2 => ⟨q1.trans q2.symm, fun q3 => by rw [q2] at q3; cases q3⟩
  by_cases q : scanD pg (min np n) 0 < min np n
  · have e : faultP n np pg < np := by rw [faultP, faultT, if_pos (by omega)]; omega
    refine noJ ?_ ?_
    · rw [okM, decide_eq_false (by rw [h1]; omega)]; rfl
    · rw [isJ, decide_eq_false (show ¬ faultP n np pg = np by omega)]; simp
  · have e : scanD pg (min np n) 0 = min np n := by omega
    rcases Nat.lt_or_ge np n with w | w
    · have e2 : (faultM n np pg).2.1 = np := by
        rw [h0, d2 q, show min np n = np by omega, runG_end n np pg _ _ _ (by omega)]
      refine noJ ?_ ?_
      · rw [okM, decide_eq_false (show ¬ n ≤ (faultM n np pg).2.1 by omega)]; simp
      · rw [isJ, decide_eq_false (show ¬ n ≤ np by omega)]; rfl
    · have hdg : ∀ f, f < n → 48 ≤ pg f ∧ pg f ≤ 57 := fun f hf => by
        have := scanD_dg (pg := pg) (k := min np n) (i := 0) (by omega) f (by omega) (by omega)
        rw [isDg0] at this
        exact of_decide_eq_true this
      have hfP : faultP n np pg = faultT n np pg n := by rw [faultP, e, show min np n = n by omega]
      have dgs : ∀ w, w < 4 → rrD pg n w = markI n (judgeOf n np pg) w := fun w hw => by
        rw [rrD, markI, if_pos hw]
        by_cases v : w < n
        · rw [if_pos v, if_pos v, nI_sub48 (hdg w v).1]; rfl
        · rw [if_neg v, if_neg v, rr0, if_pos (by omega)]
      rcases Nat.lt_or_ge n np with v | v
      · have key : Tail9 n np pg (faultM n np pg) := by
          rw [h0, d2 q, show min np n = n by omega, show 11 - n = (7 - n) + 4 by omega]
          exact runG_tail n np pg hn v (7 - n)
        obtain ⟨k1, k2, k3, k4, k5, k6, k7⟩ := key
        refine ⟨?_, fun hj => ?_⟩
        · rw [Bool.eq_iff_iff]
          simp only [okM, isJ, Bool.and_eq_true, decide_eq_true_eq, hfP]
          constructor
          · rintro ⟨⟨a, b⟩, c⟩
            have := k3.mp ⟨a, c⟩
            exact ⟨⟨w, this.1⟩, this.2⟩
          · rintro ⟨⟨a, b⟩, c⟩
            have := k3.mpr ⟨b, c⟩
            exact ⟨⟨this.1, by omega⟩, this.2⟩
        · simp only [isJ, Bool.and_eq_true, decide_eq_true_eq, hfP] at hj
          obtain ⟨a, c⟩ := k3.mpr ⟨hj.1.2, hj.2⟩
          have k4 := k4 a c
          have k5 := k5 a c
          have k6 := k6 a c
          have k7 := k7 a c
          have far : (judgeOf n np pg).2.1 = if pg n = 43 then pg (n + 1) - 48 else 0 := by
            show (if n < np ∧ pg n = 43 then pg (n + 1) - 48 else 0) = _
            by_cases u : pg n = 43
            · rw [if_pos ⟨v, u⟩, if_pos u]
            · rw [if_neg (fun x => u x.2), if_neg u]
          refine ⟨⟨fun f hf => by have := hdg f hf; show pg f - 48 < 10; omega, ?_⟩, fun x hx => ?_⟩
          · rw [far]
            by_cases u : pg n = 43
            · have := k7 u
              rw [if_pos u]; omega
            · rw [if_neg u]; omega
          · rcases (show x < 4 ∨ x = 4 ∨ x = 5 by omega) with u | rfl | rfl
            · rw [k4 x u]; exact dgs x u
            · rw [k5, markI_4, far]
              by_cases u : pg n = 43
              · have := k7 u
                rw [if_pos u, if_pos u, if_neg (by omega), nI_sub48 (by omega)]
              · rw [if_neg u, if_neg u, if_pos rfl]
            · rw [k6, markI_5]
              show _ = if decide (pg (np - 1) = 33) = true then nI 1 else nI 0
              by_cases u : pg (np - 1) = 33
              · rw [if_pos u, decide_eq_true u, if_pos rfl]
              · rw [if_neg u, decide_eq_false u]; rfl
      · obtain rfl : n = np := by omega
        have hl := hdg (n - 1) (by omega)
        have hF : faultM n n pg = (n, (n, 0, rrD pg n)) := by rw [h0, d2 q, show min n n = n by omega, runG_end n n pg _ _ _ (by omega)]
        have ft : faultT n n pg n = n := by rw [faultT, if_neg (by omega), if_neg (by omega), bangP, if_neg (by omega)]
        rw [ft] at hfP
        have hj1 : isJ n n pg = true := by
          rw [isJ, decide_eq_true (Nat.le_refl n), decide_eq_true hfP, decide_eq_true (show ¬ pg (n - 1) = 43 by omega)]; rfl
        refine ⟨?_, fun _ => ⟨⟨fun f hf => by have := hdg f hf; show pg f - 48 < 10; omega, ?_⟩, fun x hx => ?_⟩⟩
        · rw [hj1, okM, hF]
          simp
        · show (if n < n ∧ pg n = 43 then pg (n + 1) - 48 else 0) < 10
          rw [if_neg (by omega)]; omega
        · rw [hF]
          show rrD pg n x = _
          rcases (show x < 4 ∨ x = 4 ∨ x = 5 by omega) with u | rfl | rfl
          · exact dgs x u
          · rw [rrD, if_neg (by omega), markI_4]
            show _ = if (if n < n ∧ pg n = 43 then pg (n + 1) - 48 else 0) = 0 then (-1) else _
            rw [if_neg (show ¬ (n < n ∧ pg n = 43) by omega), if_pos rfl]
            rfl
          · rw [rrD, if_neg (by omega), markI_5]
            show _ = if decide (pg (n - 1) = 33) = true then nI 1 else nI 0
            rw [decide_eq_false (by omega)]
            rfl
