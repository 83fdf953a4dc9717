/-! the class's own words: histories, answers of orders -/
abbrev js_C : Type := js_T × List js_T × (Nat → Option js_T) × List Nat
def jr_H (G : js_G) (h : List js_T) : Prop := ∃ o : Nat, o < 6 ∧ G 183 1 = nI o ∧ G 183 2 = nI h.length ∧ h.length ≤ 6 ∧ ∀ k s, h[k]? = some s → jr_T G (3 + (o + k) % 6) s
def jr_V (G : js_G) (v : Nat → Option js_T) : Prop := ∀ i, i < 2 → G 186 i = nI (if v i = none then 0 else 1) ∧ ∀ s, v i = some s → jr_T G (1 + i) s
def jr_P (G : js_G) (p : List Nat) : Prop := G 187 1 = nI p.length ∧ p.length ≤ 80 ∧ ∀ k, k < p.length → G 188 k = nI (p.getD k 0) ∧ 33 ≤ p.getD k 0 ∧ p.getD k 0 ≤ 126
def jr_C (G : js_G) (c : js_C) : Prop := jr_T G 0 c.1 ∧ jr_H G c.2.1 ∧ jr_V G c.2.2.1 ∧ jr_P G c.2.2.2
def jm_rec (h : List js_T) (s : js_T) : List js_T := (if h.length = 6 then h.tail else h) ++ [s]
/-- what record and undo may change besides the state itself: the history's cell, and the ring's states -/
def js_frH (G G' : js_G) : Prop := ∀ a, a ≠ 183 → (a < 54 ∨ 162 ≤ a) → (∀ t, 3 ≤ t → t < 9 → a ≠ js_kA t) → G' a = G a
theorem js_frH.of {t : Nat} {G G1 G2 : js_G} (h0 : ∀ a, a ≠ 183 → G1 a = G a) (h : js_frT t G1 G2) (h1 : 3 ≤ t) (h2 : t < 9) : js_frH G G2 := fun a x y z => (h a (z t h1 h2) (by omega)).trans (h0 a x)
theorem jr_T.frH {G G' : js_G} {u : Nat} {s : js_T} (h : jr_T G u s) (hf : js_frH G G') (hu : u < 3) : jr_T G' u s := by
  obtain ⟨h1, h2, h3⟩ := h
  have e : ∀ a, a < 54 → G' a = G a := fun a ha => hf a (by omega) (Or.inl ha) (fun t h1 h2 => by unfold js_kA; omega)
  refine ⟨?_, h2, fun i hi => (h3 i hi).co (e _ (by unfold js_kS; omega)) (e _ (by unfold js_kR; omega)) (e _ (by unfold js_kT; omega))⟩
  rw [hf _ (by unfold js_kA; omega) (by unfold js_kA; omega) (fun t h1 h2 => by unfold js_kA; omega)]
  exact h1
theorem jr_T.c183 {G G' : js_G} {u : Nat} {s : js_T} (h : jr_T G u s) (h0 : ∀ a, a ≠ 183 → G' a = G a) (hu : u < 9) : jr_T G' u s := by
  obtain ⟨h1, h2, h3⟩ := h
  exact ⟨by rw [h0 _ (by unfold js_kA; omega)]; exact h1, h2, fun i hi => (h3 i hi).co (h0 _ (by unfold js_kS; omega)) (h0 _ (by unfold js_kR; omega)) (h0 _ (by unfold js_kT; omega))⟩
theorem js_frT.s183 {t i : Nat} {G G' : js_G} (h : js_frT t G G') (ht : t < 9) : G' 183 i = G 183 i := by rw [h 183 (by unfold js_kA; omega) (by omega)]
/-- one more state is recorded -/
theorem jr_H_push {G G1 G2 G3 : js_G} {h : List js_T} {s : js_T} {o : Nat} (ho : o < 6) (hl : h.length ≤ 5) (e1 : G1 183 1 = nI o) (hh : ∀ k s, h[k]? = some s → jr_T G (3 + (o + k) % 6) s) (h0 : ∀ a, a ≠ 183 → G1 a = G a)
    (hT : jr_T G2 (3 + (o + h.length) % 6) s) (hf : js_frT (3 + (o + h.length) % 6) G1 G2) (e3 : js_st G2 183 2 (nI (h.length + 1)) = G3) : jr_H G3 (h ++ [s]) := by
  have n3 : ∀ a, a ≠ 183 → G3 a = G2 a := fun a ha => by rw [← e3]; exact js_st_n ha
  refine ⟨o, ho, ?_, ?_, by simp; omega, fun k q hq => ?_⟩
  · rw [← e3, js_st_s]; simp only [upd]; rw [if_neg (by decide), hf.s183 (by omega)]; exact e1
  · rw [← e3, js_st_s]; simp [upd]
  · rcases Nat.lt_trichotomy k h.length with z | z | z
    · rw [List.getElem?_append_left z] at hq
      have := hh k q hq
      refine jr_T.c183 (jr_T.frT (jr_T.c183 this h0 (by omega)) hf (by omega) (by omega) ?_) n3 (by omega)
      have h6 : (o + k) % 6 < 6 := Nat.mod_lt _ (by decide)
      omega
    · subst z
      simp at hq
      subst hq
      exact hT.c183 n3 (by omega)
    · rw [List.getElem?_eq_none (by simp; omega)] at hq; cases hq
def jm_takes (s B : Nat) (rk : Nat → Nat) (ls : Option (List Nat)) (a : Nat) : Nat → (Nat → Nat) × Option (List Nat) × Nat
  | 0 => (rk, ls, 0)
  | n + 1 => (jm_rs (jm_takes s B rk ls a n).1 (jm_hash (a + n) s % 2 ^ B) (jm_rank (jm_hash (a + n) s) B), jm_add1 (jm_takes s B rk ls a n).2.1 (a + n), (jm_takes s B rk ls a n).2.2 + if (jm_takes s B rk ls a n).1 (jm_hash (a + n) s % 2 ^ B) < jm_rank (jm_hash (a + n) s) B then 1 else 0)
theorem jr_S_list {G G' : js_G} {j B : Nat} {rk : Nat → Nat} {ls ls' : Option (List Nat)} (h : jr_S G j B rk ls) (hL : jr_L G' j ls') (hR : G' (js_kR j) = G (js_kR j)) (h0 : G' (js_kS j) 0 = G (js_kS j) 0) : jr_S G' j B rk ls' := by
  obtain ⟨a, b, c, d, e, f⟩ := h
  exact ⟨a, b, h0.trans c, fun b hb => by rw [hR]; exact d b hb, e, hL⟩
def jm_rkl (s B : Nat) (l : List Nat) : Nat → Nat := l.foldl (fun rk t => jm_rs rk (jm_hash t s % 2 ^ B) (jm_rank (jm_hash t s) B)) (fun _ => 0)
theorem jm_rkl_take {s B : Nat} {l : List Nat} {k : Nat} (h : k < l.length) : jm_rkl s B (l.take (k + 1)) = jm_rs (jm_rkl s B (l.take k)) (jm_hash (l.getD k 0) s % 2 ^ B) (jm_rank (jm_hash (l.getD k 0) s) B) := by
  unfold jm_rkl
  rw [List.take_succ, List.foldl_append]
  simp [List.getD, h]
def jm_ad (a b : Nat) : Nat := if a ≤ b then b - a else a - b
def jm_dist (s B : Nat) (l : List Nat) : Nat := jm_ad l.length (jm_est (jm_rkl s B l) (2 ^ B))
theorem jn_abs {a b : Nat} (ha : a < 2 ^ 30) (hb : b < 2 ^ 30) : (if 0 ≤ nI a - nI b then nI a - nI b else 0 - (nI a - nI b)) = nI (jm_ad b a) := by
  unfold jm_ad
  by_cases h : b ≤ a
  · rw [if_pos h, pk_sub h, if_pos (nI_pos' (by omega))]
  · have h2 := pk_sneg (by omega) (Nat.lt_of_not_le h) (a := a) (b := b)
    rw [if_neg h, if_neg (fun q => by have x := Int32.lt_iff_toInt_lt.mp h2; have y := Int32.le_iff_toInt_le.mp q; omega), ← pk_sub (by omega)]
    rw [Int32.zero_sub, Int32.neg_sub]
abbrev jb (x : Int32) (n : Nat) : Prop := x < 0 ∨ nI n ≤ x
theorem jb_or (x : Int32) {n : Nat} (hn : n < 2 ^ 31) : jb x n ∨ ∃ i, i < n ∧ x = nI i := by
  rcases pk_ix x hn with h | h | h
  · exact Or.inl (Or.inl h)
  · exact Or.inl (Or.inr h)
  · exact Or.inr h
theorem jb_no {i n : Nat} (h : i < n) (hn : n < 2 ^ 31) : ¬ jb (nI i) n := by
  rintro (q | q)
  · exact nI_pos (by omega) q
  · have := (nI_leI hn (by omega)).mp q; omega
theorem jb_pos {x : Int32} {n : Nat} (hn : n < 2 ^ 31) (h : nI n ≤ x) : ¬ x < 0 := fun q => by
  have a := Int32.lt_iff_toInt_lt.mp q
  have b := Int32.le_iff_toInt_le.mp h
  rw [nI_toInt hn] at b
  have c : (0 : Int32).toInt = 0 := rfl
  omega
abbrev jm_rng (x m : Int32) : Prop := ¬ jb x 100000 ∧ ¬ m < nI 1 ∧ ¬ nI 999 < m ∧ ¬ nI 100000 < x + m
theorem jm_rng_is {x m : Int32} (h : jm_rng x m) : ∃ a n, x = nI a ∧ m = nI n ∧ 1 ≤ n ∧ n ≤ 999 ∧ a + n ≤ 100000 := by
  obtain ⟨h1, h2, h3, h4⟩ := h
  rcases jb_or x (n := 100000) (by decide) with q | ⟨a, ha, rfl⟩
  · exact absurd q h1
  · rcases pk_ix m (n := 1000) (by decide) with q | q | ⟨n, hn, rfl⟩
    · exact absurd (by have a := Int32.lt_iff_toInt_lt.mp q; refine Int32.lt_iff_toInt_lt.mpr ?_; rw [nI_toInt (by decide)]; have c : (0 : Int32).toInt = 0 := rfl; omega) h2
    · exact absurd (by have a := Int32.le_iff_toInt_le.mp q; refine Int32.lt_iff_toInt_lt.mpr ?_; rw [nI_toInt (by decide)] at *; omega) h3
    · refine ⟨a, n, rfl, rfl, ?_, by omega, ?_⟩
      · rcases Nat.eq_zero_or_pos n with z | z
        · subst z; exact absurd (by decide) h2
        · exact z
      · rw [nI_add] at h4
        exact Nat.le_of_not_lt (fun q => h4 ((nI_ltI (by decide) (by omega)).mpr q))
theorem jm_rng_of {a n : Nat} (h1 : 1 ≤ n) (h2 : n ≤ 999) (h3 : a + n ≤ 100000) : jm_rng (nI a) (nI n) := by
  refine ⟨jb_no (by omega) (by decide), fun q => ?_, fun q => ?_, fun q => ?_⟩
  · have := (nI_ltI (by omega) (by decide)).mp q; omega
  · have := (nI_ltI (by decide) (by omega)).mp q; omega
  · rw [nI_add] at q
    have := (nI_ltI (by decide) (by omega)).mp q; omega
def jm_tp (m : Nat) : Nat → Nat
  | 0 => 0
  | i + 1 => if m / 2 ^ (i + 1) = 0 then jm_tp m i else i + 1
theorem jm_tp_le (m : Nat) : ∀ i, jm_tp m i ≤ i
  | 0 => Nat.le_refl 0
  | i + 1 => by unfold jm_tp; have := jm_tp_le m i; split <;> omega
def jm_share (m B : Nat) : Int32 := if m = 0 then nI 0 else ((nI (127 + jm_tp m 6 - B)) <<< (nI 23 &&& 31)) ||| ((nI m <<< (nI (23 - jm_tp m 6) &&& 31)) &&& nI 8388607)
theorem jm_hash_ok {t s : Nat} (h : (nI t * nI 40503 + nI s) &&& nI 65535 = nI ((t * 40503 + s) % 65536)) : True := trivial
