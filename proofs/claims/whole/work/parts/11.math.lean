/-! the mathematics that both sides are held against -/
def jm_hash (t s : Nat) : Nat := ((t * 40503 + s) % 65536) ^^^ ((t * 40503 + s) % 65536 / 256)
def jm_ctz : Nat → Nat → Nat
  | 0, _ => 0
  | n + 1, x => if x % 2 = 1 then 0 else jm_ctz n (x / 2) + 1
def jm_rank (h B : Nat) : Nat := if h / 2 ^ B = 0 then 17 - B else 1 + jm_ctz 16 (h / 2 ^ B)
theorem jm_hash_lt (t s : Nat) : jm_hash t s < 65536 := by
  have h1 : (t * 40503 + s) % 65536 < 2 ^ 16 := Nat.mod_lt _ (by decide)
  exact Nat.xor_lt_two_pow h1 (Nat.lt_of_le_of_lt (Nat.div_le_self _ _) h1)
theorem jm_p6 {B : Nat} (h : B ≤ 6) : 2 ^ B ≤ 64 := Nat.pow_le_pow_right (n := 2) (by decide) h
theorem jm_p1 (B : Nat) : 1 ≤ 2 ^ B := Nat.one_le_two_pow
theorem jm_p4 {B : Nat} (h : 2 ≤ B) : 4 ≤ 2 ^ B := Nat.pow_le_pow_right (n := 2) (i := 2) (by decide) h
theorem jm_ctz_le : ∀ n x, jm_ctz n x ≤ n
  | 0, _ => Nat.le_refl 0
  | n + 1, x => by
    unfold jm_ctz
    have := jm_ctz_le n (x / 2)
    split <;> omega
/-- below 2 to the n, a number that is not 0 has its lowest one below place n -/
theorem jm_ctz_lt : ∀ n x, 0 < x → x < 2 ^ n → jm_ctz n x < n
  | 0, x, h0, h => by omega
  | n + 1, x, h0, h => by
    unfold jm_ctz
    rw [Nat.pow_succ] at h
    by_cases hx : x % 2 = 1
    · rw [if_pos hx]; omega
    · rw [if_neg hx]
      have := jm_ctz_lt n (x / 2) (by omega) (by omega)
      omega
/-- more fuel changes nothing -/
theorem jm_ctz_fuel : ∀ n m x, 0 < x → x < 2 ^ n → n ≤ m → jm_ctz m x = jm_ctz n x
  | 0, m, x, h0, h, _ => by omega
  | n + 1, 0, x, h0, h, hm => by omega
  | n + 1, m + 1, x, h0, h, hm => by
    unfold jm_ctz
    rw [Nat.pow_succ] at h
    by_cases hx : x % 2 = 1
    · rw [if_pos hx, if_pos hx]
    · rw [if_neg hx, if_neg hx, jm_ctz_fuel n m (x / 2) (by omega) (by omega) (by omega)]
theorem jm_left_lt {h B : Nat} (hh : h < 65536) (hB : B ≤ 16) : h / 2 ^ B < 2 ^ (16 - B) := by
  rw [Nat.div_lt_iff_lt_mul (Nat.two_pow_pos B), ← Nat.pow_add, show 16 - B + B = 16 by omega]
  exact hh
theorem jm_rank_le {h B : Nat} (hh : h < 65536) (hB : B ≤ 6) : jm_rank h B ≤ 17 - B := by
  unfold jm_rank
  split
  · exact Nat.le_refl _
  · rename_i h0
    have h1 := jm_left_lt hh (Nat.le_trans hB (by decide))
    have h2 := jm_ctz_lt (16 - B) (h / 2 ^ B) (Nat.pos_of_ne_zero h0) h1
    rw [jm_ctz_fuel (16 - B) 16 _ (Nat.pos_of_ne_zero h0) h1 (by omega)]
    omega
theorem jm_rank_pos {h B : Nat} (hB : B ≤ 6) : 1 ≤ jm_rank h B := by
  unfold jm_rank
  split <;> omega
/-- the lowest one as Java's left & -left -/
theorem jm_low : ∀ n x, 0 < x → x < 2 ^ n → ∃ q, x = 2 ^ jm_ctz n x * (2 * q + 1)
  | 0, x, h0, h => by omega
  | n + 1, x, h0, h => by
    unfold jm_ctz
    rw [Nat.pow_succ] at h
    by_cases hx : x % 2 = 1
    · exact ⟨x / 2, by rw [if_pos hx]; omega⟩
    · obtain ⟨q, hq⟩ := jm_low n (x / 2) (by omega) (by omega)
      refine ⟨q, ?_⟩
      rw [if_neg hx, Nat.pow_succ, Nat.mul_comm (2 ^ _) 2, Nat.mul_assoc, ← hq]
      omega
/-- a sketch: its bits, its ranks, its list (none: full) -/
abbrev js_K : Type := Nat × (Nat → Nat) × Option (List Nat)
def jm_up (f : Nat → Nat) (k v : Nat) : Nat → Nat := fun j => if j = k then v else f j
def jm_raise (S : js_K) (b r : Nat) : js_K := if S.2.1 b < r then (S.1, jm_up S.2.1 b r, S.2.2) else S
def jm_would (S : js_K) (h : Nat) : Prop := S.2.1 (h % 2 ^ S.1) < jm_rank h S.1
def jm_sum (f : Nat → Nat) : Nat → Nat
  | 0 => 0
  | n + 1 => jm_sum f n + f n
def jm_max (f : Nat → Nat) : Nat → Nat
  | 0 => 0
  | n + 1 => if jm_max f n < f n then f n else jm_max f n
def jm_set (p : Nat → Bool) : Nat → Int64
  | 0 => lN 0
  | n + 1 => if p n then jm_set p n ||| (lN 1 <<< ((nI n).toInt64 &&& 63)) else jm_set p n
theorem jm_sum_le {f : Nat → Nat} {c : Nat} : ∀ n, (∀ b, b < n → f b ≤ c) → jm_sum f n ≤ n * c
  | 0, _ => by simp [jm_sum]
  | n + 1, h => by
    have h1 := jm_sum_le n (fun b hb => h b (by omega))
    have h2 := h n (by omega)
    rw [jm_sum, Nat.succ_mul]; omega
theorem jm_sum_ge {f : Nat → Nat} : ∀ n, (∀ b, b < n → 1 ≤ f b) → n ≤ jm_sum f n
  | 0, _ => by simp [jm_sum]
  | n + 1, h => by
    have h1 := jm_sum_ge n (fun b hb => h b (by omega))
    have h2 := h n (by omega)
    rw [jm_sum]; omega
theorem jm_sum_cong {f g : Nat → Nat} : ∀ n, (∀ b, b < n → f b = g b) → jm_sum f n = jm_sum g n
  | 0, _ => rfl
  | n + 1, h => by rw [jm_sum, jm_sum, jm_sum_cong n (fun b hb => h b (by omega)), h n (by omega)]
theorem jm_max_cong {f g : Nat → Nat} : ∀ n, (∀ b, b < n → f b = g b) → jm_max f n = jm_max g n
  | 0, _ => rfl
  | n + 1, h => by rw [jm_max, jm_max, jm_max_cong n (fun b hb => h b (by omega)), h n (by omega)]
theorem jm_max_le {f : Nat → Nat} {c : Nat} : ∀ n, (∀ b, b < n → f b ≤ c) → jm_max f n ≤ c
  | 0, _ => by simp [jm_max]
  | n + 1, h => by
    have h1 := jm_max_le n (fun b hb => h b (by omega))
    have h2 := h n (by omega)
    rw [jm_max]; split <;> assumption
def jm_fil (rk : Nat → Nat) (m : Nat) : Nat := jm_sum (fun b => if 0 < rk b then 1 else 0) m
def jm_emp (rk : Nat → Nat) (m : Nat) : Nat := jm_sum (fun b => if rk b = 0 then 1 else 0) m
theorem jm_fil_emp (rk : Nat → Nat) : ∀ m, jm_fil rk m + jm_emp rk m = m
  | 0 => rfl
  | m + 1 => by
    have := jm_fil_emp rk m
    unfold jm_fil jm_emp at *
    rw [jm_sum, jm_sum]
    by_cases h : rk m = 0
    · rw [if_neg (by omega), if_pos h]; omega
    · rw [if_pos (by omega), if_neg h]; omega
theorem jm_fil_le (rk : Nat → Nat) (m : Nat) : jm_fil rk m ≤ m := by have := jm_fil_emp rk m; omega
def jm_S (rk : Nat → Nat) (m : Nat) : Nat := jm_sum (fun b => 65536 / 2 ^ rk b) m
def jm_raw (m s : Nat) : Nat := m * m * 65536 * 7 / (10 * s)
def jm_harm (m e : Nat) : Nat := jm_sum (fun i => m / (e + 1 + i)) (m - e)
def jm_est (rk : Nat → Nat) (m : Nat) : Nat := if 0 < jm_emp rk m ∧ jm_raw m (jm_S rk m) ≤ 5 * m / 2 then jm_harm m (jm_emp rk m) else jm_raw m (jm_S rk m)
def jm_root (m : Nat) : Nat := if m < 9 then 2 else if m < 25 then 4 else if m < 64 then 5 else 8
def jm_err (rk : Nat → Nat) (m : Nat) : Nat := jm_est rk m * 104 / (100 * jm_root m)
theorem jm_S_le (rk : Nat → Nat) (m : Nat) : jm_S rk m ≤ m * 65536 := jm_sum_le m (fun b _ => Nat.div_le_self _ _)
theorem jm_S_ge {rk : Nat → Nat} {m : Nat} (h : ∀ b, b < m → rk b ≤ 16) : m ≤ jm_S rk m := jm_sum_ge m (fun b hb => by
  have h1 : 2 ^ rk b ≤ 2 ^ 16 := Nat.pow_le_pow_right (by decide) (h b hb)
  exact Nat.div_pos h1 (Nat.two_pow_pos _))
theorem jm_raw_le {m s : Nat} (h0 : 0 < m) (h : m ≤ s) (h6 : m ≤ 64) : jm_raw m s ≤ 3000000 := by
  unfold jm_raw
  have h1 : m * m * 65536 * 7 / (10 * s) ≤ m * m * 65536 * 7 / (10 * m) := Nat.div_le_div_left (by omega) (by omega)
  have h2 : m * m * 65536 * 7 / (10 * m) ≤ 64 * 458752 / 10 := by
    rw [Nat.div_le_iff_le_mul (by omega)]
    have : m * m * 65536 * 7 = m * (m * 458752) := by rw [Nat.mul_assoc, Nat.mul_assoc]
    rw [this, show 64 * 458752 / 10 * (10 * m) = m * (29360120) by omega]
    have : m * (m * 458752) ≤ m * (64 * 458752) := Nat.mul_le_mul_left m (by omega)
    omega
  omega
theorem jm_harm_le {m e : Nat} (h6 : m ≤ 64) : jm_harm m e ≤ 4096 := by
  have h1 : jm_harm m e ≤ (m - e) * m := jm_sum_le _ (fun i _ => Nat.div_le_self _ _)
  have h2 : (m - e) * m ≤ 64 * 64 := Nat.mul_le_mul (by omega) h6
  omega
theorem jm_est_le {rk : Nat → Nat} {m : Nat} (h0 : 0 < m) (h6 : m ≤ 64) (h : ∀ b, b < m → rk b ≤ 16) : jm_est rk m ≤ 3000000 := by
  unfold jm_est
  split
  · have := jm_harm_le (m := m) (e := jm_emp rk m) h6; omega
  · exact jm_raw_le h0 (jm_S_ge h) h6
theorem jm_root_le (m : Nat) : 2 ≤ jm_root m ∧ jm_root m ≤ 8 := by unfold jm_root; split <;> (try split) <;> (try split) <;> omega
theorem jm_root_is : ∀ B, 2 ≤ B → B ≤ 6 → ∀ r, r * r ≤ 2 ^ B → 2 ^ B < (r + 1) * (r + 1) → r = jm_root (2 ^ B) := by
  intro B h2 h6 r h1 h3
  have hp := jm_p6 h6
  have hr : r ≤ 8 := by
    rcases Nat.lt_or_ge 8 r with q | q
    · have := Nat.mul_le_mul q q; omega
    · exact q
  have hB : B = 2 ∨ B = 3 ∨ B = 4 ∨ B = 5 ∨ B = 6 := by omega
  have hr9 : r = 0 ∨ r = 1 ∨ r = 2 ∨ r = 3 ∨ r = 4 ∨ r = 5 ∨ r = 6 ∨ r = 7 ∨ r = 8 := by omega
  rcases hB with rfl | rfl | rfl | rfl | rfl <;> rcases hr9 with rfl | rfl | rfl | rfl | rfl | rfl | rfl | rfl | rfl <;> first | rfl | (exfalso; revert h1 h3; decide)
theorem jn_lgt {a b : Nat} (h : b < a) (ha : a < 2 ^ 63) : lg_cmp (lN a) (lN b) = nI 1 := by
  unfold lg_cmp
  rw [if_pos ((pk_lLT (by omega) ha).mpr h)]; rfl
theorem jn_leq (x : Int64) : lg_cmp x x = nI 0 := by
  unfold lg_cmp
  rw [if_neg (by simp), if_pos rfl]; rfl
theorem jn_negN {x : Nat} (h : x < 65536) : -(nI x) = nI (4294967296 - x) := by
  rw [← pk_sub (by omega : x ≤ 4294967296), show nI 4294967296 = 0 from rfl, Int32.zero_sub]
theorem jn_low {x : Nat} (h0 : 0 < x) (h : x < 65536) : nI x &&& -(nI x) = nI (2 ^ jm_ctz 16 x) := by
  rw [jn_negN h, jn_and]
  congr 1
  obtain ⟨q, hq⟩ := jm_low 16 x h0 h
  have hz := jm_ctz_lt 16 x h0 h
  generalize jm_ctz 16 x = z at hq hz ⊢
  have hpz : 0 < 2 ^ z := Nat.two_pow_pos z
  have hx1 : x - 1 = 2 ^ z * (2 * q) + (2 ^ z - 1) := by
    have : 2 ^ z * (2 * q + 1) = 2 ^ z * (2 * q) + 2 ^ z := by rw [Nat.mul_add, Nat.mul_one]
    omega
  apply Nat.eq_of_testBit_eq
  intro i
  rw [Nat.testBit_and, show 4294967296 - x = 2 ^ 32 - ((x - 1) + 1) by omega, Nat.testBit_two_pow_sub_succ (by omega), Nat.testBit_two_pow, hx1, Nat.testBit_two_pow_mul_add _ (by omega)]
  rw [show x.testBit i = (2 ^ z * (2 * q + 1)).testBit i by rw [← hq], Nat.testBit_two_pow_mul]
  rcases Nat.lt_or_ge i z with a | a
  · have e1 : ¬ i ≥ z := by omega
    have e2 : ¬ z = i := by omega
    simp [e1, e2]
  · rw [if_neg (by omega)]
    rcases Nat.eq_or_lt_of_le a with b | b
    · subst b
      have e1 : z < 32 := by omega
      simp [e1]
    · obtain ⟨t, ht⟩ : ∃ t, i - z = t + 1 := ⟨i - z - 1, by omega⟩
      have e2 : ¬ z = i := by omega
      rw [ht, Nat.testBit_succ, Nat.testBit_succ, show (2 * q + 1) / 2 = q by omega, show 2 * q / 2 = q by omega]
      simp [e2]; intro _ hh _; exact hh
def jm_b1 (x : Int32) : Int32 := x - ((x.toUInt32 >>> ((nI 1).toUInt32 &&& Int32.toUInt32 31)).toInt32 &&& nI 1431655765)
def jm_b2 (x : Int32) : Int32 := (x &&& nI 858993459) + ((x.toUInt32 >>> ((nI 2).toUInt32 &&& Int32.toUInt32 31)).toInt32 &&& nI 858993459)
def jm_b3 (x : Int32) : Int32 := (x + (x.toUInt32 >>> ((nI 4).toUInt32 &&& Int32.toUInt32 31)).toInt32) &&& nI 252645135
def jm_b4 (x : Int32) : Int32 := x + (x.toUInt32 >>> ((nI 8).toUInt32 &&& Int32.toUInt32 31)).toInt32
def jm_b5 (x : Int32) : Int32 := x + (x.toUInt32 >>> ((nI 16).toUInt32 &&& Int32.toUInt32 31)).toInt32
def jm_bc (x : Int32) : Int32 := jm_b5 (jm_b4 (jm_b3 (jm_b2 (jm_b1 x)))) &&& nI 63
theorem jm_bc_pow : ∀ z, z < 17 → jm_bc (nI (2 ^ z) - nI 1) = nI z := by decide +kernel
theorem jm_bc_low {x : Nat} (h0 : 0 < x) (h : x < 65536) : jm_bc ((nI x &&& -(nI x)) - nI 1) = nI (jm_ctz 16 x) := by
  rw [jn_low h0 h]
  exact jm_bc_pow _ (by have := jm_ctz_lt 16 x h0 h; omega)
theorem jm_getD_mem {l : List Nat} {k : Nat} (h : k < l.length) : l.getD k 0 ∈ l := by
  simp [List.getD, h]
theorem jm_fill_0 (G : js_G) (k : Nat) (x : Int32) : G = js_up G k (fun j => if j < 0 then x else G k j) := by
  funext a
  by_cases h : a = k
  · subst h; simp [js_up]
  · simp [js_up, h]
theorem jm_fill_s (G : js_G) (k i : Nat) (x : Int32) : js_st (js_up G k (fun j => if j < i then x else G k j)) k i x = js_up G k (fun j => if j < i + 1 then x else G k j) := by
  funext a
  by_cases h : a = k
  · subst h
    simp only [js_st, js_up_s]
    funext j
    simp only [upd]
    by_cases hj : j = i
    · subst hj; simp
    · by_cases h2 : j < i
      · simp [hj, h2, show j < i + 1 by omega]
      · simp [hj, h2, show ¬ j < i + 1 by omega]
  · rw [js_st_n h, js_up_n h, js_up_n h]
