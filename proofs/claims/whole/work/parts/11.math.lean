/-! the mathematics that both sides are held against -/
def jm_hash (t s : Nat) : Nat := ((t * 40503 + s) % 65536) ^^^ ((t * 40503 + s) % 65536 / 256)
def jm_ctz : Nat → Nat → Nat
  | 0, _ => 0
  | n + 1, x => if x % 2 = 1 then 0 else jm_ctz n (x / 2) + 1
def jm_rank (h B : Nat) : Nat := if h / 2 ^ B = 0 then 17 - B else 1 + jm_ctz 16 (h / 2 ^ B)
theorem jm_hash_lt (t s : Nat) : jm_hash t s < 65536 := by
  have h1 : (t * 40503 + s) % 65536 < 2 ^ 16 := Nat.mod_lt _ (by decide)
  exact Nat.xor_lt_two_pow h1 (Nat.lt_of_le_of_lt (Nat.div_le_self _ _) h1)
theorem jm_p6 {B : Nat} (h : B ≤ 6) : 2 ^ B ≤ 64 := Nat.pow_le_pow_right (n := 2) (by decide) h
theorem jm_p1 (B : Nat) : 1 ≤ 2 ^ B := Nat.one_le_two_pow
theorem jm_p4 {B : Nat} (h : 2 ≤ B) : 4 ≤ 2 ^ B := Nat.pow_le_pow_right (n := 2) (i := 2) (by decide) h
theorem jm_ctz_le : ∀ n x, jm_ctz n x ≤ n
  | 0, _ => Nat.le_refl 0
  | n + 1, x => by
    unfold jm_ctz
    have := jm_ctz_le n (x / 2)
    split <;> omega
/-- below 2 to the n, a number that is not 0 has its lowest one below place n -/
theorem jm_ctz_lt : ∀ n x, 0 < x → x < 2 ^ n → jm_ctz n x < n
  | 0, x, h0, h => by omega
  | n + 1, x, h0, h => by
    unfold jm_ctz
    rw [Nat.pow_succ] at h
    by_cases hx : x % 2 = 1
    · rw [if_pos hx]; omega
    · rw [if_neg hx]
      have := jm_ctz_lt n (x / 2) (by omega) (by omega)
      omega
/-- more fuel changes nothing -/
theorem jm_ctz_fuel : ∀ n m x, 0 < x → x < 2 ^ n → n ≤ m → jm_ctz m x = jm_ctz n x
  | 0, m, x, h0, h, _ => by omega
  | n + 1, 0, x, h0, h, hm => by omega
  | n + 1, m + 1, x, h0, h, hm => by
    unfold jm_ctz
    rw [Nat.pow_succ] at h
    by_cases hx : x % 2 = 1
    · rw [if_pos hx, if_pos hx]
    · rw [if_neg hx, if_neg hx, jm_ctz_fuel n m (x / 2) (by omega) (by omega) (by omega)]
theorem jm_left_lt {h B : Nat} (hh : h < 65536) (hB : B ≤ 16) : h / 2 ^ B < 2 ^ (16 - B) := by
  rw [Nat.div_lt_iff_lt_mul (Nat.two_pow_pos B), ← Nat.pow_add, show 16 - B + B = 16 by omega]
  exact hh
theorem jm_rank_le {h B : Nat} (hh : h < 65536) (hB : B ≤ 6) : jm_rank h B ≤ 17 - B := by
  unfold jm_rank
  split
  · exact Nat.le_refl _
  · rename_i h0
    have h1 := jm_left_lt hh (Nat.le_trans hB (by decide))
    have h2 := jm_ctz_lt (16 - B) (h / 2 ^ B) (Nat.pos_of_ne_zero h0) h1
    rw [jm_ctz_fuel (16 - B) 16 _ (Nat.pos_of_ne_zero h0) h1 (by omega)]
    omega
theorem jm_rank_pos {h B : Nat} (hB : B ≤ 6) : 1 ≤ jm_rank h B := by
  unfold jm_rank
  split <;> omega
/-- the lowest one as Java's left & -left -/
theorem jm_low : ∀ n x, 0 < x → x < 2 ^ n → ∃ q, x = 2 ^ jm_ctz n x * (2 * q + 1)
  | 0, x, h0, h => by omega
  | n + 1, x, h0, h => by
    unfold jm_ctz
    rw [Nat.pow_succ] at h
    by_cases hx : x % 2 = 1
    · exact ⟨x / 2, by rw [if_pos hx]; omega⟩
    · obtain ⟨q, hq⟩ := jm_low n (x / 2) (by omega) (by omega)
      refine ⟨q, ?_⟩
      rw [if_neg hx, Nat.pow_succ, Nat.mul_comm (2 ^ _) 2, Nat.mul_assoc, ← hq]
      omega
/-- a sketch: its bits, its ranks, its list (none: full) -/
abbrev js_K : Type := Nat × (Nat → Nat) × Option (List Nat)
def jm_up (f : Nat → Nat) (k v : Nat) : Nat → Nat := fun j => if j = k then v else f j
def jm_raise (S : js_K) (b r : Nat) : js_K := if S.2.1 b < r then (S.1, jm_up S.2.1 b r, S.2.2) else S
def jm_would (S : js_K) (h : Nat) : Prop := S.2.1 (h % 2 ^ S.1) < jm_rank h S.1
