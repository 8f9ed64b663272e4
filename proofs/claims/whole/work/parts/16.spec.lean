/-! the numbers of the document, as natural numbers -/
def dg (p f : Nat) : Nat := p / 10 ^ f % 10
def dist (a b : Nat) : Nat := if a ≤ b then b - a else a - b
def gapK (k a b : Nat) : Nat := if k = 2 ∨ k = 4 then (if a = b then 0 else 9) else if k = 3 then min (dist a b) (10 - dist a b) else dist a b
def stepK (k a b : Nat) : Nat := if k = 3 then min (dist a b) (10 - dist a b) else dist a b
def agedK (k a : Nat) : Nat := if k = 1 then a - 1 else if k = 3 then (a + 1) % 10 else a
def slipK (k a : Nat) (up : Bool) : Option Nat := if k = 3 then some ((a + (if up then 1 else 9)) % 10) else if up then (if 9 ≤ a then none else some (a + 1)) else (if a = 0 then none else some (a - 1))
def sumF (g : Nat → Nat) : Nat → Nat
  | 0 => 0
  | n + 1 => sumF g n + g n
def gapP (n : Nat) (K : Nat → Nat) (a b : Nat) : Nat := sumF (fun f => gapK (K f) (dg a f) (dg b f)) n
def stepP (n : Nat) (K : Nat → Nat) (a b : Nat) : Nat := sumF (fun f => stepK (K f) (dg a f) (dg b f)) n
def withP (p f v : Nat) : Nat := p - dg p f * 10 ^ f + v * 10 ^ f
def slipP (K : Nat → Nat) (p f : Nat) (up : Bool) : Option Nat := (slipK (K f) (dg p f) up).map (withP p f)
def agedP (n : Nat) (K : Nat → Nat) (p : Nat) : Nat := sumF (fun f => agedK (K f) (dg p f) * 10 ^ f) n + p / 10 ^ n * 10 ^ n
theorem dg_lt (p f : Nat) : dg p f < 10 := Nat.mod_lt _ (by decide)
theorem dg_mul_le (p f : Nat) : dg p f * 10 ^ f ≤ p := by
  unfold dg
  calc p / 10 ^ f % 10 * 10 ^ f ≤ p / 10 ^ f * 10 ^ f := Nat.mul_le_mul_right _ (Nat.mod_le _ _)
    _ ≤ p := Nat.div_mul_le_self _ _
theorem dist_comm (a b : Nat) : dist a b = dist b a := by unfold dist; split <;> split <;> omega
theorem gapK_comm (k a b : Nat) : gapK k a b = gapK k b a := by
  unfold gapK
  rw [dist_comm a b]
  simp only [eq_comm]
theorem stepK_comm (k a b : Nat) : stepK k a b = stepK k b a := by unfold stepK; rw [dist_comm a b]
theorem dist_lt {a b : Nat} (ha : a < 10) (hb : b < 10) : dist a b < 10 := by unfold dist; split <;> omega
theorem gapK_lt {k a b : Nat} (ha : a < 10) (hb : b < 10) : gapK k a b < 10 := by
  have := dist_lt ha hb
  unfold gapK
  split
  · split <;> omega
  · split <;> omega
theorem stepK_lt {k a b : Nat} (ha : a < 10) (hb : b < 10) : stepK k a b < 10 := by
  have := dist_lt ha hb
  unfold stepK
  split <;> omega
theorem gapK_self (k a : Nat) : gapK k a a = 0 := by
  unfold gapK dist
  simp
theorem agedK_lt {k a : Nat} (ha : a < 10) : agedK k a < 10 := by unfold agedK; split <;> (try split) <;> omega
theorem slipK_lt {k a v : Nat} {up : Bool} (ha : a < 10) (h : slipK k a up = some v) : v < 10 := by
  unfold slipK at h
  split at h
  · cases h; omega
  · split at h
    · split at h
      · cases h
      · cases h; omega
    · split at h
      · cases h
      · cases h; omega
theorem sumF_le {g : Nat → Nat} {b : Nat} : ∀ n, (∀ f, f < n → g f ≤ b) → sumF g n ≤ n * b
  | 0, _ => by simp [sumF]
  | n + 1, h => by
    have h1 := sumF_le n (fun f hf => h f (by omega))
    have h2 := h n (by omega)
    rw [sumF, Nat.add_mul]
    omega
theorem sumF_congr {g h : Nat → Nat} : ∀ n, (∀ f, f < n → g f = h f) → sumF g n = sumF h n
  | 0, _ => rfl
  | n + 1, e => by rw [sumF, sumF, sumF_congr n (fun f hf => e f (by omega)), e n (by omega)]
theorem gapP_comm (n : Nat) (K : Nat → Nat) (a b : Nat) : gapP n K a b = gapP n K b a := sumF_congr n (fun f _ => gapK_comm _ _ _)
theorem stepP_comm (n : Nat) (K : Nat → Nat) (a b : Nat) : stepP n K a b = stepP n K b a := sumF_congr n (fun f _ => stepK_comm _ _ _)
theorem gapP_le (n : Nat) (K : Nat → Nat) (a b : Nat) : gapP n K a b ≤ n * 9 := sumF_le n (fun f _ => Nat.le_of_lt_succ (gapK_lt (dg_lt _ _) (dg_lt _ _)))
theorem stepP_le (n : Nat) (K : Nat → Nat) (a b : Nat) : stepP n K a b ≤ n * 9 := sumF_le n (fun f _ => Nat.le_of_lt_succ (stepK_lt (dg_lt _ _) (dg_lt _ _)))
/-! digits -/
theorem dg_split (p f : Nat) : p = p % 10 ^ f + dg p f * 10 ^ f + p / 10 ^ (f + 1) * 10 ^ (f + 1) := by
  have h1 := Nat.div_add_mod p (10 ^ f)
  have h2 := Nat.div_add_mod (p / 10 ^ f) 10
  have h3 : p / 10 ^ (f + 1) = p / 10 ^ f / 10 := by rw [Nat.pow_succ, Nat.div_div_eq_div_mul]
  unfold dg
  rw [h3, Nat.pow_succ]
  generalize p / 10 ^ f = q at *
  generalize 10 ^ f = t at *
  have h4 : t * q = t * (10 * (q / 10)) + t * (q % 10) := by rw [← Nat.mul_add, h2]
  have h5 : q / 10 * (t * 10) = t * (10 * (q / 10)) := by rw [Nat.mul_comm, Nat.mul_assoc]
  have h6 : q % 10 * t = t * (q % 10) := Nat.mul_comm _ _
  omega
theorem withP_eq (p f v : Nat) : withP p f v = p % 10 ^ f + v * 10 ^ f + p / 10 ^ (f + 1) * 10 ^ (f + 1) := by
  have h := dg_split p f
  unfold withP
  generalize dg p f * 10 ^ f = x at *
  generalize p / 10 ^ (f + 1) * 10 ^ (f + 1) = z at *
  generalize p % 10 ^ f = w at *
  omega
theorem withP_lt {p f v n : Nat} (hp : p < 10 ^ n) (hf : f < n) (hv : v < 10) : withP p f v < 10 ^ n := by
  rw [withP_eq]
  obtain ⟨d, rfl⟩ : ∃ d, n = f + 1 + d := ⟨n - (f + 1), by omega⟩
  have h1 : p % 10 ^ f < 10 ^ f := Nat.mod_lt _ (Nat.pow_pos (by decide))
  have h2 : p / 10 ^ (f + 1) < 10 ^ d := by
    apply Nat.div_lt_of_lt_mul
    rw [← Nat.pow_add]; exact hp
  have h3 : v * 10 ^ f ≤ 9 * 10 ^ f := Nat.mul_le_mul_right _ (by omega)
  have h4 : p / 10 ^ (f + 1) * 10 ^ (f + 1) ≤ (10 ^ d - 1) * 10 ^ (f + 1) := Nat.mul_le_mul_right _ (by omega)
  have h5 : (10 ^ d - 1) * 10 ^ (f + 1) + 10 ^ (f + 1) = 10 ^ (f + 1 + d) := by
    rw [Nat.pow_add 10 (f + 1) d, Nat.sub_mul, Nat.one_mul, Nat.mul_comm (10 ^ d)]
    have : 10 ^ (f + 1) ≤ 10 ^ (f + 1) * 10 ^ d := Nat.le_mul_of_pos_right _ (Nat.pow_pos (by decide))
    omega
  have h6 : (10 : Nat) ^ (f + 1) = 10 ^ f * 10 := Nat.pow_succ ..
  omega
theorem withP_add (p f v : Nat) : withP p f v + dg p f * 10 ^ f = p + v * 10 ^ f := by
  have := dg_mul_le p f
  unfold withP
  omega
theorem dg_withP_self {p f v : Nat} (hv : v < 10) : dg (withP p f v) f = v := by
  rw [withP_eq, dg]
  have h1 : p % 10 ^ f < 10 ^ f := Nat.mod_lt _ (Nat.pow_pos (by decide))
  have h2 : p % 10 ^ f + v * 10 ^ f + p / 10 ^ (f + 1) * 10 ^ (f + 1) = p % 10 ^ f + 10 ^ f * (v + 10 * (p / 10 ^ (f + 1))) := by
    rw [Nat.pow_succ, Nat.mul_add]
    have : p / (10 ^ f * 10) * (10 ^ f * 10) = 10 ^ f * (10 * (p / (10 ^ f * 10))) := by rw [Nat.mul_comm, Nat.mul_assoc]
    rw [Nat.mul_comm v]
    omega
  rw [h2, Nat.add_mul_div_left _ _ (Nat.pow_pos (by decide)), Nat.div_eq_of_lt h1]
  omega
theorem dg_withP_ne {p f g v : Nat} (hv : v < 10) (h : g ≠ f) : dg (withP p f v) g = dg p g := by
  rcases Nat.lt_or_gt_of_ne h with h | h
  · obtain ⟨d, rfl⟩ : ∃ d, f = g + 1 + d := ⟨f - (g + 1), by omega⟩
    have e : ∀ q : Nat, dg q g = q % 10 ^ (g + 1) / 10 ^ g := fun q => by
      unfold dg; rw [Nat.pow_succ, Nat.mod_mul_right_div_self]
    rw [e, e]
    have key : withP p (g + 1 + d) v % 10 ^ (g + 1) = p % 10 ^ (g + 1) := by
      have h1 := withP_add p (g + 1 + d) v
      have h2 : (withP p (g + 1 + d) v + dg p (g + 1 + d) * 10 ^ (g + 1 + d)) % 10 ^ (g + 1) = (p + v * 10 ^ (g + 1 + d)) % 10 ^ (g + 1) := by rw [h1]
      rw [Nat.pow_add 10 (g + 1) d] at h2
      rw [show dg p (g + 1 + d) * (10 ^ (g + 1) * 10 ^ d) = 10 ^ (g + 1) * (dg p (g + 1 + d) * 10 ^ d) by rw [← Nat.mul_assoc, Nat.mul_comm (dg p _), Nat.mul_assoc], show v * (10 ^ (g + 1) * 10 ^ d) = 10 ^ (g + 1) * (v * 10 ^ d) by rw [← Nat.mul_assoc, Nat.mul_comm v, Nat.mul_assoc], Nat.add_mul_mod_self_left, Nat.add_mul_mod_self_left] at h2
      exact h2
    rw [key]
  · obtain ⟨d, rfl⟩ : ∃ d, g = f + 1 + d := ⟨g - (f + 1), by omega⟩
    have e : ∀ q : Nat, dg q (f + 1 + d) = q / 10 ^ (f + 1) / 10 ^ d % 10 := fun q => by
      unfold dg; rw [Nat.pow_add, Nat.div_div_eq_div_mul]
    rw [e, e]
    have key : withP p f v / 10 ^ (f + 1) = p / 10 ^ (f + 1) := by
      rw [withP_eq]
      have h1 : p % 10 ^ f < 10 ^ f := Nat.mod_lt _ (Nat.pow_pos (by decide))
      have h3 : v * 10 ^ f ≤ 9 * 10 ^ f := Nat.mul_le_mul_right _ (by omega)
      have h6 : (10 : Nat) ^ (f + 1) = 10 ^ f * 10 := Nat.pow_succ ..
      rw [Nat.mul_comm (p / 10 ^ (f + 1)), Nat.add_mul_div_left _ _ (Nat.pow_pos (by decide)), Nat.div_eq_of_lt (by omega), Nat.zero_add]
    rw [key]
theorem dg_small {p f n : Nat} (hp : p < 10 ^ n) (hf : n ≤ f) : dg p f = 0 := by
  have h : p / 10 ^ f = 0 := Nat.div_eq_of_lt (Nat.lt_of_lt_of_le hp (Nat.pow_le_pow_right (by decide) hf))
  unfold dg
  rw [h]
theorem dg_ext : ∀ {n p q : Nat}, p < 10 ^ n → q < 10 ^ n → (∀ f, f < n → dg p f = dg q f) → p = q
  | 0, p, q, hp, hq, _ => by simp at hp hq; omega
  | n + 1, p, q, hp, hq, h => by
    have h0 : p % 10 = q % 10 := by simpa [dg] using h 0 (by omega)
    have h1 : p / 10 = q / 10 := by
      refine dg_ext (n := n) (by rw [Nat.pow_succ] at hp; omega) (by rw [Nat.pow_succ] at hq; omega) (fun f hf => ?_)
      have := h (f + 1) (by omega)
      simp only [dg, Nat.pow_succ', ← Nat.div_div_eq_div_mul] at this ⊢
      exact this
    omega
theorem pow_le4 {n : Nat} (h : n ≤ 4) : 10 ^ n ≤ 10000 := Nat.pow_le_pow_right (n := 10) (by decide) h
/-! Int32 -/
theorem i32_withP (p f v : Nat) : nI p + (nI v - nI (dg p f)) * nI (10 ^ f) = nI (withP p f v) := by
  have h := congrArg nI (withP_add p f v)
  rw [← nI_add, ← nI_add, ← pk_mul, ← pk_mul] at h
  generalize nI p = a at *
  generalize nI v = b at *
  generalize nI (dg p f) = d at *
  generalize nI (10 ^ f) = t at *
  generalize nI (withP p f v) = w at *
  grind
theorem i32_dg {p f : Nat} (hp : p < 2147483648) (hf : f < 5) : nI p / nI (10 ^ f) - nI p / nI (10 ^ f) / nI 10 * nI 10 = nI (dg p f) := by
  have h1 : 10 ^ f < 2 ^ 31 := by
    have : 10 ^ f ≤ 10 ^ 4 := Nat.pow_le_pow_right (by decide) (by omega)
    omega
  rw [pk_div (by omega) (Nat.pow_pos (by decide)) h1]
  have h2 : p / 10 ^ f < 2 ^ 31 := Nat.lt_of_le_of_lt (Nat.div_le_self _ _) (by omega)
  exact pk_rem h2 (by decide) (by decide)
