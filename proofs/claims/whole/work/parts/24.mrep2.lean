/-! lemmas of the reference's calls -/
theorem jw_ifn {x : Int32} {n : Nat} (h : 0 < n) (hn : n < 2 ^ 31) : (if nI 0 ≤ x ∧ x ≤ nI (n - 1) then 1 else 0) = (if ¬ jb x n then 1 else 0) := by
  obtain ⟨k, rfl⟩ : ∃ k, n = k + 1 := ⟨n - 1, by omega⟩
  exact jw_if hn
theorem jw_len {p : Int32} {n : Nat} (hn : n ≤ 40) : (nI 0 ≤ p ∧ p ≤ nI n - nI 1) ↔ ¬ jb p n := by
  rcases Nat.eq_zero_or_pos n with h | h
  · subst h
    constructor
    · rintro ⟨a, b⟩
      have a2 := Int32.le_iff_toInt_le.mp a
      have b2 := Int32.le_iff_toInt_le.mp b
      rw [nI_toInt (by decide)] at a2
      rw [show (nI 0 - nI 1).toInt = -1 from rfl] at b2
      omega
    · intro q
      exfalso
      apply q
      unfold jb
      rw [Int32.lt_iff_toInt_lt, Int32.le_iff_toInt_le, nI_toInt (by decide)]
      have : (0 : Int32).toInt = 0 := rfl
      omega
  · obtain ⟨k, rfl⟩ : ∃ k, n = k + 1 := ⟨n - 1, by omega⟩
    rw [pk_sub (by omega), Nat.add_sub_cancel]
    exact jw_jb (by omega)
theorem jw_leni {p : Int32} {n : Nat} (hn : n ≤ 40) : (if nI 0 ≤ p ∧ p ≤ nI n - nI 1 then 1 else 0) = (if ¬ jb p n then 1 else 0) := by
  by_cases h : nI 0 ≤ p ∧ p ≤ nI n - nI 1
  · rw [if_pos h, if_pos ((jw_len hn).mp h)]
  · rw [if_neg h, if_neg (fun q => h ((jw_len hn).mpr q))]
theorem jw_none {p : Int32} : ¬ (nI 0 ≤ p ∧ p ≤ -6 - nI 1) := by
  rintro ⟨a, b⟩
  have a2 := Int32.le_iff_toInt_le.mp a
  have b2 := Int32.le_iff_toInt_le.mp b
  rw [nI_toInt (by decide)] at a2
  rw [show (-6 - nI 1 : Int32).toInt = -7 from rfl] at b2
  omega
theorem jw_bits {b : Int32} : (nI 2 ≤ b ∧ b ≤ nI 6) ↔ ¬ (b < nI 2 ∨ nI 6 < b) := by
  constructor
  · rintro ⟨x, z⟩ (q | q)
    · exact Int32.not_lt.mpr x q
    · exact Int32.not_lt.mpr z q
  · intro q
    exact ⟨Int32.not_lt.mp (fun z => q (Or.inl z)), Int32.not_lt.mp (fun z => q (Or.inr z))⟩
theorem mr_S_bits {G : js_G} {s B b : Nat} (h : mr_S G 192 (1 + 106 * s) B (fun _ => 0) (some [])) (h2 : 2 ≤ b) (h6 : b ≤ 6) : mr_S (js_st G 192 ((1 + 106 * s) + 0) (nI b)) 192 (1 + 106 * s) b (fun _ => 0) (some []) := by
  obtain ⟨-, -, -, d, -, e, -, -, -⟩ := h
  refine ⟨h2, h6, by rw [js_st_s]; simp [upd], fun x hx => ?_, fun _ _ => Nat.zero_le _, ?_, by decide, fun t ht => (by cases ht), fun i hi => (by cases hi)⟩
  · rw [js_st_s]; refine (if_neg (by omega)).trans ((d x hx).trans ?_)
    unfold jz; split <;> split <;> rfl
  · rw [js_st_s]; exact (if_neg (by omega)).trans e
theorem jm_tk1 {s B : Nat} {rk : Nat → Nat} {ls : Option (List Nat)} {t : Nat} : (jm_takes s B rk ls t 1).2.2 = (if rk (jm_hash t s % 2 ^ B) < jm_rank (jm_hash t s) B then 1 else 0) := Nat.zero_add _
theorem jn_or0 (v : Int64) : v ||| lN 0 = v := Int64.or_zero
theorem js_frM.up {G G' : js_G} (h : ∀ a, a ≠ 192 → G' a = G a) : js_frM G G' := fun a x => h a (by omega)
theorem mr_H_pop {G G' : js_G} {h : List js_T} {s : js_T} {v : Int32} (hH : mr_H G (h ++ [s])) (e2 : G' 191 2 = nI h.length) (e : G' 193 = G 193) : mr_H G' h := by
  obtain ⟨a, b, d⟩ := hH
  simp only [List.length_append, List.length_cons, List.length_nil] at b
  exact ⟨e2, by omega, fun k q hk => (d k q (by rw [List.getElem?_append_left (List.getElem?_eq_some_iff.mp hk).1]; exact hk)).co e⟩
theorem mr_C.save {G Gb : js_G} {c : js_C} {i : Nat} (h : mr_C G c) (hi : i < 2) (eb : js_mv G 192 0 194 (637 * i) 637 = Gb) : mr_C (js_st Gb 195 i (nI 1)) (c.1, c.2.1, (fun k => if k = i then some c.1 else c.2.2.1 k), c.2.2.2) := by
  subst eb
  obtain ⟨h1, ⟨a, b, d⟩, h3, h4⟩ := h
  have e : ∀ a, a ≠ 194 → a ≠ 195 → js_st (js_mv G 192 0 194 (637 * i) 637) 195 i (nI 1) a = G a := fun a x z => by rw [js_st_n z, js_mv_n x]
  refine ⟨h1.co (e 192 (by decide) (by decide)), ⟨by rw [e 191 (by decide) (by decide)]; exact a, b, fun k s hk => (d k s hk).co (e 193 (by decide) (by decide))⟩, fun k hk => ⟨?_, fun s hs => ?_⟩, ⟨by rw [e 191 (by decide) (by decide)]; exact h4.1, h4.2.1, fun k hk => by rw [e 196 (by decide) (by decide)]; exact h4.2.2 k hk⟩⟩
  · rw [js_st_s]
    unfold upd
    by_cases z : k = i
    · rw [if_pos z]; simp [z]
    · rw [if_neg z, js_mv_n (by decide), (h3 k hk).1]; simp [z]
  · by_cases z : k = i
    · subst z
      simp at hs
      subst hs
      refine h1.mv (fun j hj => ?_)
      rw [js_st_n (by decide)]
      exact js_mv_in hj
    · simp only [if_neg z] at hs
      refine ((h3 k hk).2 s hs).mv (fun j hj => ?_)
      rw [js_st_n (by decide)]
      exact js_mv_out (by omega)
