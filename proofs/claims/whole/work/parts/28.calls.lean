theorem jw_bits_ex {b : Int32} (h : ¬ (b < nI 2 ∨ nI 6 < b)) : ∃ v, b = nI v ∧ 2 ≤ v ∧ v ≤ 6 := by
  obtain ⟨h1, h2⟩ := jw_bits.mpr h
  rcases pk_ix b (n := 7) (by decide) with q | q | ⟨i, hi, rfl⟩
  · exfalso; have a := Int32.lt_iff_toInt_lt.mp q; have b2 := Int32.le_iff_toInt_le.mp h1; rw [nI_toInt (by decide)] at b2; have c : (0 : Int32).toInt = 0 := rfl; omega
  · exfalso; have a := Int32.le_iff_toInt_le.mp q; have b2 := Int32.le_iff_toInt_le.mp h2; rw [nI_toInt (by decide)] at a b2; omega
  · have := (nI_leI (by decide) (by omega)).mp h1
    exact ⟨i, rfl, this, by omega⟩
theorem jw_nat {b : Int32} (h : ¬ b < 0) : ∃ v, v < 2 ^ 31 ∧ b = nI v := by
  rcases pk_ix b (n := 2147483647) (by decide) with q | q | ⟨i, hi, rfl⟩
  · exact absurd q h
  · refine ⟨2147483647, by decide, ?_⟩
    have a := Int32.le_iff_toInt_le.mp q
    rw [nI_toInt (by decide)] at a
    have b2 := Int32.toInt_lt b
    apply Int32.toInt_inj.mp
    rw [nI_toInt (by decide)]
    omega
  · exact ⟨i, by omega, rfl⟩
theorem jw_opt {α : Type} (o : Option α) : o = none ∨ ∃ a, o = some a := by
  cases o with
  | none => exact Or.inl rfl
  | some a => exact Or.inr ⟨a, rfl⟩
theorem jw_last {α : Type} (l : List α) : l = [] ∨ ∃ k a, l = k ++ [a] := by
  rcases List.eq_nil_or_concat l with h | ⟨k, a, h⟩
  · exact Or.inl h
  · exact Or.inr ⟨k, a, by simpa using h⟩
theorem cx_salt (la : Launch) {y : js_L} (hy : js_Dy y) {G : js_G} {c : js_C} (hC : jr_C G c) (x : Int32) : js_Ci la y yX4_salt wsX4_salt 5 122 [.ref (js_ad y (190)), .int (x)] G (fun r G' => jP (ms_salt c x) r G G') := by
  rcases jb_or x (n := 65536) (by decide) with hx | ⟨v, hv, rfl⟩
  · exact c_X4_salt_1 la hy hC hx
  · exact c_X4_salt_2 la hy hC hv
theorem cm_salt (la : Launch) {y : js_L} (hy : js_Dy y) {G : js_G} {c : js_C} (hC : mr_C G c) (x : Int32) : js_Ci la y yX5_salt wsX5_salt 5 101 [.ref (js_ad y (191)), .int (x)] G (fun r G' => mP (ms_salt c x) r G G') := by
  rcases jb_or x (n := 65536) (by decide) with hx | ⟨v, hv, rfl⟩
  · exact c_X5_salt_1 la hy hC hx
  · exact c_X5_salt_2 la hy hC hv
theorem cx_bits (la : Launch) {y : js_L} (hy : js_Dy y) {G : js_G} {c : js_C} (hC : jr_C G c) (x : Int32) (b : Int32) : js_Ci la y yX4_bits wsX4_bits 5 122 [.ref (js_ad y (190)), .int (x), .int (b)] G (fun r G' => jP (ms_bits c x b) r G G') := by
  rcases jb_or x (n := 6) (by decide) with hx | ⟨i, hi, rfl⟩
  · exact c_X4_bits_1 la hy hC hx
  · by_cases hb : b < nI 2 ∨ nI 6 < b
    · exact c_X4_bits_2 la hy hC hi hb
    · obtain ⟨v, rfl, h2, h6⟩ := jw_bits_ex hb
      exact c_X4_bits_3 la hy hC hi h2 h6
theorem cm_bits (la : Launch) {y : js_L} (hy : js_Dy y) {G : js_G} {c : js_C} (hC : mr_C G c) (x : Int32) (b : Int32) : js_Ci la y yX5_bits wsX5_bits 5 101 [.ref (js_ad y (191)), .int (x), .int (b)] G (fun r G' => mP (ms_bits c x b) r G G') := by
  rcases jb_or x (n := 6) (by decide) with hx | ⟨i, hi, rfl⟩
  · exact c_X5_bits_1 la hy hC hx
  · by_cases hb : b < nI 2 ∨ nI 6 < b
    · exact c_X5_bits_2 la hy hC hi hb
    · obtain ⟨v, rfl, h2, h6⟩ := jw_bits_ex hb
      exact c_X5_bits_3 la hy hC hi h2 h6
theorem cx_add (la : Launch) {y : js_L} (hy : js_Dy y) {G : js_G} {c : js_C} (hC : jr_C G c) (x : Int32) (t : Int32) : js_Ci la y yX4_add wsX4_add 5 122 [.ref (js_ad y (190)), .int (x), .int (t)] G (fun r G' => jP (ms_add c x t) r G G') := by
  rcases jb_or x (n := 6) (by decide) with hx | ⟨i, hi, rfl⟩
  · exact c_X4_add_1 la hy hC hx
  · rcases jb_or t (n := 100000) (by decide) with ht | ⟨v, hv, rfl⟩
    · exact c_X4_add_2 la hy hC hi ht
    · exact c_X4_add_3 la hy hC hi hv
theorem cm_add (la : Launch) {y : js_L} (hy : js_Dy y) {G : js_G} {c : js_C} (hC : mr_C G c) (x : Int32) (t : Int32) : js_Ci la y yX5_add wsX5_add 6 122 [.ref (js_ad y (191)), .int (x), .int (t)] G (fun r G' => mP (ms_add c x t) r G G') := by
  rcases jb_or x (n := 6) (by decide) with hx | ⟨i, hi, rfl⟩
  · exact c_X5_add_1 la hy hC hx
  · rcases jb_or t (n := 100000) (by decide) with ht | ⟨v, hv, rfl⟩
    · exact c_X5_add_2 la hy hC hi ht
    · exact c_X5_add_3 la hy hC hi hv
theorem cx_addRange (la : Launch) {y : js_L} (hy : js_Dy y) {G : js_G} {c : js_C} (hC : jr_C G c) (x : Int32) (a : Int32) (m : Int32) : js_Ci la y yX4_addRange wsX4_addRange 5 122 [.ref (js_ad y (190)), .int (x), .int (a), .int (m)] G (fun r G' => jP (ms_addRange c x a m) r G G') := by
  rcases jb_or x (n := 6) (by decide) with hx | ⟨i, hi, rfl⟩
  · exact c_X4_addRange_1 la hy hC hx
  · by_cases hr : jm_rng a m
    · obtain ⟨a, n, rfl, rfl, h1, h2, h3⟩ := jm_rng_is hr
      exact c_X4_addRange_3 la hy hC hi h1 h2 h3
    · exact c_X4_addRange_2 la hy hC hi hr
theorem cm_addRange (la : Launch) {y : js_L} (hy : js_Dy y) {G : js_G} {c : js_C} (hC : mr_C G c) (x : Int32) (a : Int32) (m : Int32) : js_Ci la y yX5_addRange wsX5_addRange 7 147 [.ref (js_ad y (191)), .int (x), .int (a), .int (m)] G (fun r G' => mP (ms_addRange c x a m) r G G') := by
  rcases jb_or x (n := 6) (by decide) with hx | ⟨i, hi, rfl⟩
  · exact c_X5_addRange_1 la hy hC hx
  · by_cases hr : jm_rng a m
    · obtain ⟨a, n, rfl, rfl, h1, h2, h3⟩ := jm_rng_is hr
      exact c_X5_addRange_3 la hy hC hi h1 h2 h3
    · exact c_X5_addRange_2 la hy hC hi hr
theorem cx_join (la : Launch) {y : js_L} (hy : js_Dy y) {G : js_G} {c : js_C} (hC : jr_C G c) (x : Int32) (z : Int32) : js_Ci la y yX4_join wsX4_join 6 122 [.ref (js_ad y (190)), .int (x), .int (z)] G (fun r G' => jP (ms_join c x z) r G G') := by
  rcases jb_or x (n := 6) (by decide) with hx | ⟨i, hi, rfl⟩
  · rcases jb_or z (n := 6) (by decide) with hz | ⟨i2, hi2, rfl⟩
    · exact c_X4_join_1a la hy hC hx hz
    · exact c_X4_join_1b la hy hC hx hi2
  · rcases jb_or z (n := 6) (by decide) with hz | ⟨i2, hi2, rfl⟩
    · exact c_X4_join_1c la hy hC hi hz
    · by_cases hn : i ≠ i2 ∧ (c.1.2 i).1 = (c.1.2 i2).1
      · exact c_X4_join_3 la hy hC hi hi2 hn
      · exact c_X4_join_2 la hy hC hi hi2 hn
theorem cm_join (la : Launch) {y : js_L} (hy : js_Dy y) {G : js_G} {c : js_C} (hC : mr_C G c) (x : Int32) (z : Int32) : js_Ci la y yX5_join wsX5_join 6 125 [.ref (js_ad y (191)), .int (x), .int (z)] G (fun r G' => mP (ms_join c x z) r G G') := by
  rcases jb_or x (n := 6) (by decide) with hx | ⟨i, hi, rfl⟩
  · exact c_X5_join_1 la hy hC (Or.inl hx)
  · rcases jb_or z (n := 6) (by decide) with hz | ⟨i2, hi2, rfl⟩
    · exact c_X5_join_1 la hy hC (Or.inr hz)
    · by_cases hn : i ≠ i2 ∧ (c.1.2 i).1 = (c.1.2 i2).1
      · exact c_X5_join_3 la hy hC hi hi2 hn
      · exact c_X5_join_2 la hy hC hi hi2 hn
theorem cx_fold (la : Launch) {y : js_L} (hy : js_Dy y) {G : js_G} {c : js_C} (hC : jr_C G c) (x : Int32) : js_Ci la y yX4_fold wsX4_fold 5 122 [.ref (js_ad y (190)), .int (x)] G (fun r G' => jP (ms_fold c x) r G G') := by
  rcases jb_or x (n := 6) (by decide) with hx | ⟨i, hi, rfl⟩
  · exact c_X4_fold_1 la hy hC hx
  · by_cases hn : 2 < (c.1.2 i).1
    · exact c_X4_fold_3 la hy hC hi hn
    · exact c_X4_fold_2 la hy hC hi hn
theorem cm_fold (la : Launch) {y : js_L} (hy : js_Dy y) {G : js_G} {c : js_C} (hC : mr_C G c) (x : Int32) : js_Ci la y yX5_fold wsX5_fold 4 80 [.ref (js_ad y (191)), .int (x)] G (fun r G' => mP (ms_fold c x) r G G') := by
  rcases jb_or x (n := 6) (by decide) with hx | ⟨i, hi, rfl⟩
  · exact c_X5_fold_1 la hy hC hx
  · by_cases hn : 2 < (c.1.2 i).1
    · exact c_X5_fold_3 la hy hC hi hn
    · exact c_X5_fold_2 la hy hC hi hn
theorem cx_empty (la : Launch) {y : js_L} (hy : js_Dy y) {G : js_G} {c : js_C} (hC : jr_C G c) (x : Int32) : js_Ci la y yX4_empty wsX4_empty 5 122 [.ref (js_ad y (190)), .int (x)] G (fun r G' => jP (ms_empty c x) r G G') := by
  rcases jb_or x (n := 6) (by decide) with hx | ⟨i, hi, rfl⟩
  · exact c_X4_empty_1 la hy hC hx
  · exact c_X4_empty_3 la hy hC hi
theorem cm_empty (la : Launch) {y : js_L} (hy : js_Dy y) {G : js_G} {c : js_C} (hC : mr_C G c) (x : Int32) : js_Ci la y yX5_empty wsX5_empty 5 101 [.ref (js_ad y (191)), .int (x)] G (fun r G' => mP (ms_empty c x) r G G') := by
  rcases jb_or x (n := 6) (by decide) with hx | ⟨i, hi, rfl⟩
  · exact c_X5_empty_1 la hy hC hx
  · exact c_X5_empty_3 la hy hC hi
theorem cx_thing (la : Launch) {y : js_L} (hy : js_Dy y) {G : js_G} {c : js_C} (hC : jr_C G c) (x : Int32) (t : Int32) (w : Int32) : js_Ci la y yX4_thing wsX4_thing 4 76 [.ref (js_ad y (190)), .int (x), .int (t), .int (w)] G (fun r G' => jP (mq_thing c x t w, c) r G G') := by
  rcases jb_or x (n := 6) (by decide) with hx | ⟨i, hi, rfl⟩
  · exact c_X4_thing_1 la hy hC hx
  · rcases jb_or t (n := 100000) (by decide) with ht | ⟨t, ht, rfl⟩
    · exact c_X4_thing_2 la hy hC hi ht
    rcases jb_or w (n := 4) (by decide) with hw | ⟨k, hk, rfl⟩
    · exact c_X4_thing_3 la hy hC hi ht hw
    rcases (show k = 0 ∨ k = 1 ∨ k = 2 ∨ k = 3 by omega) with rfl | rfl | rfl | rfl
    · exact c_X4_thing_40 la hy hC hi ht
    · exact c_X4_thing_41 la hy hC hi ht
    · exact c_X4_thing_42 la hy hC hi ht
    · exact c_X4_thing_43 la hy hC hi ht
theorem cm_thing (la : Launch) {y : js_L} (hy : js_Dy y) {G : js_G} {c : js_C} (hC : mr_C G c) (x : Int32) (t : Int32) (w : Int32) : js_Ci la y yX5_thing wsX5_thing 5 99 [.ref (js_ad y (191)), .int (x), .int (t), .int (w)] G (fun r G' => mP (mq_thing c x t w, c) r G G') := by
  rcases jb_or x (n := 6) (by decide) with hx | ⟨i, hi, rfl⟩
  · exact c_X5_thing_1 la hy hC hx
  · rcases jb_or t (n := 100000) (by decide) with ht | ⟨t, ht, rfl⟩
    · exact c_X5_thing_2 la hy hC hi ht
    rcases jb_or w (n := 4) (by decide) with hw | ⟨k, hk, rfl⟩
    · exact c_X5_thing_3 la hy hC hi ht hw
    rcases (show k = 0 ∨ k = 1 ∨ k = 2 ∨ k = 3 by omega) with rfl | rfl | rfl | rfl
    · exact c_X5_thing_40 la hy hC hi ht
    · exact c_X5_thing_41 la hy hC hi ht
    · exact c_X5_thing_42 la hy hC hi ht
    · exact c_X5_thing_43 la hy hC hi ht
theorem cx_bucket (la : Launch) {y : js_L} (hy : js_Dy y) {G : js_G} {c : js_C} (hC : jr_C G c) (x : Int32) (b : Int32) : js_Ci la y yX4_bucket wsX4_bucket 3 54 [.ref (js_ad y (190)), .int (x), .int (b)] G (fun r G' => jP (mq_bucket c x b, c) r G G') := by
  rcases jb_or x (n := 6) (by decide) with hx | ⟨i, hi, rfl⟩
  · exact c_X4_bucket_1 la hy hC hx
  · by_cases hb : b < 0
    · exact c_X4_bucket_2a la hy hC hi hb
    obtain ⟨v, hv, rfl⟩ := jw_nat hb
    by_cases h2 : v < 2 ^ (c.1.2 i).1
    · exact c_X4_bucket_3 la hy hC hi h2
    · exact c_X4_bucket_2b la hy hC hi hv h2
theorem cm_bucket (la : Launch) {y : js_L} (hy : js_Dy y) {G : js_G} {c : js_C} (hC : mr_C G c) (x : Int32) (b : Int32) : js_Ci la y yX5_bucket wsX5_bucket 3 55 [.ref (js_ad y (191)), .int (x), .int (b)] G (fun r G' => mP (mq_bucket c x b, c) r G G') := by
  rcases jb_or x (n := 6) (by decide) with hx | ⟨i, hi, rfl⟩
  · exact c_X5_bucket_1 la hy hC hx
  · have hp := jm_p6 (hC.K hi).2.1
    rcases jb_or b (n := 2 ^ (c.1.2 i).1) (by omega) with hb | ⟨v, hv, rfl⟩
    · exact c_X5_bucket_2 la hy hC hi hb
    · exact c_X5_bucket_3 la hy hC hi hv
theorem cx_ofSketch (la : Launch) {y : js_L} (hy : js_Dy y) {G : js_G} {c : js_C} (hC : jr_C G c) (x : Int32) (w : Int32) : js_Ci la y yX4_ofSketch wsX4_ofSketch 7 144 [.ref (js_ad y (190)), .int (x), .int (w)] G (fun r G' => jP (mq_ofSketch c x w, c) r G G') := by
  rcases jb_or x (n := 6) (by decide) with hx | ⟨i, hi, rfl⟩
  · exact c_X4_ofSketch_1 la hy hC hx
  · rcases jb_or w (n := 9) (by decide) with hw | ⟨k, hk, rfl⟩
    · exact c_X4_ofSketch_2 la hy hC hi hw
    rcases (show k = 8 ∨ k = 0 ∨ k = 1 ∨ k = 2 ∨ k = 3 ∨ k = 4 ∨ k = 5 ∨ k = 6 ∨ k = 7 by omega) with rfl | rfl | rfl | rfl | rfl | rfl | rfl | rfl | rfl
    · rcases jw_opt (c.1.2 i).2.2 with hq | ⟨l, hq⟩
      · exact c_X4_ofSketch_38n la hy hC hi hq
      · exact c_X4_ofSketch_38s la hy hC hi hq
    · exact c_X4_ofSketch_30 la hy hC hi
    · exact c_X4_ofSketch_31 la hy hC hi
    · exact c_X4_ofSketch_32 la hy hC hi
    · exact c_X4_ofSketch_33 la hy hC hi
    · exact c_X4_ofSketch_34 la hy hC hi
    · exact c_X4_ofSketch_35 la hy hC hi
    · exact c_X4_ofSketch_36 la hy hC hi
    · exact c_X4_ofSketch_37 la hy hC hi
theorem cm_ofSketch (la : Launch) {y : js_L} (hy : js_Dy y) {G : js_G} {c : js_C} (hC : mr_C G c) (x : Int32) (w : Int32) : js_Ci la y yX5_ofSketch wsX5_ofSketch 6 124 [.ref (js_ad y (191)), .int (x), .int (w)] G (fun r G' => mP (mq_ofSketch c x w, c) r G G') := by
  rcases jb_or x (n := 6) (by decide) with hx | ⟨i, hi, rfl⟩
  · exact c_X5_ofSketch_1 la hy hC hx
  · rcases jb_or w (n := 9) (by decide) with hw | ⟨k, hk, rfl⟩
    · exact c_X5_ofSketch_2 la hy hC hi hw
    rcases (show k = 8 ∨ k = 0 ∨ k = 1 ∨ k = 2 ∨ k = 3 ∨ k = 4 ∨ k = 5 ∨ k = 6 ∨ k = 7 by omega) with rfl | rfl | rfl | rfl | rfl | rfl | rfl | rfl | rfl
    · rcases jw_opt (c.1.2 i).2.2 with hq | ⟨l, hq⟩
      · exact c_X5_ofSketch_38n la hy hC hi hq
      · exact c_X5_ofSketch_38s la hy hC hi hq
    · exact c_X5_ofSketch_30 la hy hC hi
    · exact c_X5_ofSketch_31 la hy hC hi
    · exact c_X5_ofSketch_32 la hy hC hi
    · exact c_X5_ofSketch_33 la hy hC hi
    · exact c_X5_ofSketch_34 la hy hC hi
    · exact c_X5_ofSketch_35 la hy hC hi
    · exact c_X5_ofSketch_36 la hy hC hi
    · exact c_X5_ofSketch_37 la hy hC hi
theorem cx_withRank (la : Launch) {y : js_L} (hy : js_Dy y) {G : js_G} {c : js_C} (hC : jr_C G c) (x : Int32) (q : Int32) : js_Cl la y yX4_withRank wsX4_withRank 4 78 [.ref (js_ad y (190)), .int (x), .int (q)] G (fun r G' => r = mq_withRank c x q ∧ jr_C G' c ∧ js_frX G G') := by
  rcases jb_or x (n := 6) (by decide) with hx | ⟨i, hi, rfl⟩
  · exact c_X4_withRank_1 la hy hC hx
  · rcases jb_or q (n := 16) (by decide) with hw | ⟨k, hk, rfl⟩
    · exact c_X4_withRank_2 la hy hC hi hw
    · exact c_X4_withRank_3 la hy hC hi hk
theorem cm_withRank (la : Launch) {y : js_L} (hy : js_Dy y) {G : js_G} {c : js_C} (hC : mr_C G c) (x : Int32) (q : Int32) : js_Cl la y yX5_withRank wsX5_withRank 3 55 [.ref (js_ad y (191)), .int (x), .int (q)] G (fun r G' => r = mq_withRank c x q ∧ mr_C G' c ∧ js_frM G G') := by
  rcases jb_or x (n := 6) (by decide) with hx | ⟨i, hi, rfl⟩
  · exact c_X5_withRank_1 la hy hC hx
  · rcases jb_or q (n := 16) (by decide) with hw | ⟨k, hk, rfl⟩
    · exact c_X5_withRank_2 la hy hC hi hw
    · exact c_X5_withRank_3 la hy hC hi hk
theorem cx_listed (la : Launch) {y : js_L} (hy : js_Dy y) {G : js_G} {c : js_C} (hC : jr_C G c) (x : Int32) (p : Int32) : js_Ci la y yX4_listed wsX4_listed 3 54 [.ref (js_ad y (190)), .int (x), .int (p)] G (fun r G' => jP (mq_listed c x p, c) r G G') := by
  rcases jb_or x (n := 6) (by decide) with hx | ⟨i, hi, rfl⟩
  · exact c_X4_listed_1 la hy hC hx
  · by_cases hb : p < 0
    · exact c_X4_listed_2a la hy hC hi hb
    obtain ⟨v, hv, rfl⟩ := jw_nat hb
    rcases jw_opt (c.1.2 i).2.2 with hq | ⟨l, hq⟩
    · exact c_X4_listed_2b la hy hC hi hv hq
    by_cases h2 : v < l.length
    · exact c_X4_listed_3 la hy hC hi hq h2
    · exact c_X4_listed_2c la hy hC hi hv hq h2
theorem cm_listed (la : Launch) {y : js_L} (hy : js_Dy y) {G : js_G} {c : js_C} (hC : mr_C G c) (x : Int32) (p : Int32) : js_Ci la y yX5_listed wsX5_listed 3 54 [.ref (js_ad y (191)), .int (x), .int (p)] G (fun r G' => mP (mq_listed c x p, c) r G G') := by
  rcases jb_or x (n := 6) (by decide) with hx | ⟨i, hi, rfl⟩
  · exact c_X5_listed_1 la hy hC hx
  · rcases jw_opt (c.1.2 i).2.2 with hq | ⟨l, hq⟩
    · exact c_X5_listed_2n la hy hC hi hq
    have hl : l.length ≤ 40 := by have h := hC.K hi; unfold mr_K at h; rw [hq] at h; exact h.2.2.2.2.2.2.1
    rcases jb_or p (n := l.length) (by omega) with hw | ⟨k, hk, rfl⟩
    · exact c_X5_listed_2s la hy hC hi hq hw
    · exact c_X5_listed_3 la hy hC hi hq hk
theorem cx_count (la : Launch) {y : js_L} (hy : js_Dy y) {G : js_G} {c : js_C} (hC : jr_C G c) (w : Int32) : js_Ci la y yX4_count wsX4_count 5 101 [.ref (js_ad y (190)), .int (w)] G (fun r G' => jP (mq_count c w, c) r G G') := by
  rcases jb_or w (n := 6) (by decide) with hw | ⟨k, hk, rfl⟩
  · exact c_X4_count_1 la hy hC hw
  · skip
    rcases (show k = 0 ∨ k = 1 ∨ k = 2 ∨ k = 3 ∨ k = 4 ∨ k = 5 by omega) with rfl | rfl | rfl | rfl | rfl | rfl
    · exact c_X4_count_20 la hy hC
    · exact c_X4_count_21 la hy hC
    · exact c_X4_count_22 la hy hC
    · exact c_X4_count_23 la hy hC
    · exact c_X4_count_24 la hy hC
    · exact c_X4_count_25 la hy hC
theorem cm_count (la : Launch) {y : js_L} (hy : js_Dy y) {G : js_G} {c : js_C} (hC : mr_C G c) (w : Int32) : js_Ci la y yX5_count wsX5_count 5 100 [.ref (js_ad y (191)), .int (w)] G (fun r G' => mP (mq_count c w, c) r G G') := by
  rcases jb_or w (n := 6) (by decide) with hw | ⟨k, hk, rfl⟩
  · exact c_X5_count_1 la hy hC hw
  · skip
    rcases (show k = 0 ∨ k = 1 ∨ k = 2 ∨ k = 3 ∨ k = 4 ∨ k = 5 by omega) with rfl | rfl | rfl | rfl | rfl | rfl
    · exact c_X5_count_20 la hy hC
    · exact c_X5_count_21 la hy hC
    · exact c_X5_count_22 la hy hC
    · exact c_X5_count_23 la hy hC
    · exact c_X5_count_24 la hy hC
    · exact c_X5_count_25 la hy hC
theorem cx_together (la : Launch) {y : js_L} (hy : js_Dy y) {G : js_G} {c : js_C} (hC : jr_C G c) (x : Int32) (z : Int32) : js_Ci la y yX4_together wsX4_together 6 122 [.ref (js_ad y (190)), .int (x), .int (z)] G (fun r G' => jP (mq_together c x z, c) r G G') := by
  rcases jb_or x (n := 6) (by decide) with hx | ⟨i, hi, rfl⟩
  · rcases jb_or z (n := 6) (by decide) with hz | ⟨i2, hi2, rfl⟩
    · exact c_X4_together_1a la hy hC hx hz
    · exact c_X4_together_1b la hy hC hx hi2
  · rcases jb_or z (n := 6) (by decide) with hz | ⟨i2, hi2, rfl⟩
    · exact c_X4_together_1c la hy hC hi hz
    · by_cases hn : (c.1.2 i).1 = (c.1.2 i2).1
      · exact c_X4_together_3 la hy hC hi hi2 hn
      · exact c_X4_together_2 la hy hC hi hi2 hn
theorem cm_together (la : Launch) {y : js_L} (hy : js_Dy y) {G : js_G} {c : js_C} (hC : mr_C G c) (x : Int32) (z : Int32) : js_Ci la y yX5_together wsX5_together 4 81 [.ref (js_ad y (191)), .int (x), .int (z)] G (fun r G' => mP (mq_together c x z, c) r G G') := by
  rcases jb_or x (n := 6) (by decide) with hx | ⟨i, hi, rfl⟩
  · exact c_X5_together_1 la hy hC (Or.inl hx)
  · rcases jb_or z (n := 6) (by decide) with hz | ⟨i2, hi2, rfl⟩
    · exact c_X5_together_1 la hy hC (Or.inr hz)
    · by_cases hn : (c.1.2 i).1 = (c.1.2 i2).1
      · by_cases hne : i = i2
        · subst hne; exact c_X5_together_3e la hy hC hi
        · exact c_X5_together_3 la hy hC hi hi2 hne hn
      · exact c_X5_together_2 la hy hC hi hi2 hn
theorem cx_alike (la : Launch) {y : js_L} (hy : js_Dy y) {G : js_G} {c : js_C} (hC : jr_C G c) (x : Int32) (z : Int32) : js_Ci la y yX4_alike wsX4_alike 4 77 [.ref (js_ad y (190)), .int (x), .int (z)] G (fun r G' => jP (mq_alike c x z, c) r G G') := by
  rcases jb_or x (n := 6) (by decide) with hx | ⟨i, hi, rfl⟩
  · rcases jb_or z (n := 6) (by decide) with hz | ⟨i2, hi2, rfl⟩
    · exact c_X4_alike_1a la hy hC hx hz
    · exact c_X4_alike_1b la hy hC hx hi2
  · rcases jb_or z (n := 6) (by decide) with hz | ⟨i2, hi2, rfl⟩
    · exact c_X4_alike_1c la hy hC hi hz
    · by_cases hn : (c.1.2 i).1 = (c.1.2 i2).1
      · exact c_X4_alike_3 la hy hC hi hi2 hn
      · exact c_X4_alike_2 la hy hC hi hi2 hn
theorem cm_alike (la : Launch) {y : js_L} (hy : js_Dy y) {G : js_G} {c : js_C} (hC : mr_C G c) (x : Int32) (z : Int32) : js_Ci la y yX5_alike wsX5_alike 4 76 [.ref (js_ad y (191)), .int (x), .int (z)] G (fun r G' => mP (mq_alike c x z, c) r G G') := by
  rcases jb_or x (n := 6) (by decide) with hx | ⟨i, hi, rfl⟩
  · exact c_X5_alike_1 la hy hC (Or.inl hx)
  · rcases jb_or z (n := 6) (by decide) with hz | ⟨i2, hi2, rfl⟩
    · exact c_X5_alike_1 la hy hC (Or.inr hz)
    · by_cases hn : (c.1.2 i).1 = (c.1.2 i2).1
      · by_cases hne : i = i2
        · subst hne; exact c_X5_alike_3e la hy hC hi
        · exact c_X5_alike_3 la hy hC hi hi2 hne hn
      · exact c_X5_alike_2 la hy hC hi hi2 hn
theorem cx_off (la : Launch) {y : js_L} (hy : js_Dy y) {G : js_G} {c : js_C} (hC : jr_C G c) (x : Int32) : js_Ci la y yX4_off wsX4_off 6 122 [.ref (js_ad y (190)), .int (x)] G (fun r G' => jP (mq_off c x, c) r G G') := by
  rcases jb_or x (n := 6) (by decide) with hx | ⟨i, hi, rfl⟩
  · exact c_X4_off_1 la hy hC hx
  · rcases jw_opt (c.1.2 i).2.2 with hq | ⟨l, hq⟩
    · exact c_X4_off_2 la hy hC hi hq
    · exact c_X4_off_3 la hy hC hi hq
theorem cm_off (la : Launch) {y : js_L} (hy : js_Dy y) {G : js_G} {c : js_C} (hC : mr_C G c) (x : Int32) : js_Ci la y yX5_off wsX5_off 5 102 [.ref (js_ad y (191)), .int (x)] G (fun r G' => mP (mq_off c x, c) r G G') := by
  rcases jb_or x (n := 6) (by decide) with hx | ⟨i, hi, rfl⟩
  · exact c_X5_off_1 la hy hC hx
  · rcases jw_opt (c.1.2 i).2.2 with hq | ⟨l, hq⟩
    · exact c_X5_off_2 la hy hC hi hq
    · exact c_X5_off_3 la hy hC hi hq
theorem cx_nextNew (la : Launch) {y : js_L} (hy : js_Dy y) {G : js_G} {c : js_C} (hC : jr_C G c) (x : Int32) (a : Int32) : js_Ci la y yX4_nextNew wsX4_nextNew 4 76 [.ref (js_ad y (190)), .int (x), .int (a)] G (fun r G' => jP (mq_nextNew c x a, c) r G G') := by
  rcases jb_or x (n := 6) (by decide) with hx | ⟨i, hi, rfl⟩
  · exact c_X4_nextNew_1 la hy hC hx
  · rcases jb_or a (n := 100000) (by decide) with ht | ⟨t, ht, rfl⟩
    · exact c_X4_nextNew_2 la hy hC hi ht
    · exact c_X4_nextNew_3 la hy hC hi ht
theorem cm_nextNew (la : Launch) {y : js_L} (hy : js_Dy y) {G : js_G} {c : js_C} (hC : mr_C G c) (x : Int32) (a : Int32) : js_Ci la y yX5_nextNew wsX5_nextNew 5 99 [.ref (js_ad y (191)), .int (x), .int (a)] G (fun r G' => mP (mq_nextNew c x a, c) r G G') := by
  rcases jb_or x (n := 6) (by decide) with hx | ⟨i, hi, rfl⟩
  · exact c_X5_nextNew_1 la hy hC hx
  · rcases jb_or a (n := 100000) (by decide) with ht | ⟨t, ht, rfl⟩
    · exact c_X5_nextNew_2 la hy hC hi ht
    · exact c_X5_nextNew_3 la hy hC hi ht
theorem cx_bestSalt (la : Launch) {y : js_L} (hy : js_Dy y) {G : js_G} {c : js_C} (hC : jr_C G c) (x : Int32) : js_Ci la y yX4_bestSalt wsX4_bestSalt 7 145 [.ref (js_ad y (190)), .int (x)] G (fun r G' => jP (mq_bestSalt c x, c) r G G') := by
  rcases jb_or x (n := 6) (by decide) with hx | ⟨i, hi, rfl⟩
  · exact c_X4_bestSalt_1 la hy hC hx
  · rcases jw_opt (c.1.2 i).2.2 with hq | ⟨l, hq⟩
    · exact c_X4_bestSalt_2 la hy hC hi hq
    · exact c_X4_bestSalt_3 la hy hC hi hq
theorem cm_bestSalt (la : Launch) {y : js_L} (hy : js_Dy y) {G : js_G} {c : js_C} (hC : mr_C G c) (x : Int32) : js_Ci la y yX5_bestSalt wsX5_bestSalt 4 81 [.ref (js_ad y (191)), .int (x)] G (fun r G' => mP (mq_bestSalt c x, c) r G G') := by
  rcases jb_or x (n := 6) (by decide) with hx | ⟨i, hi, rfl⟩
  · exact c_X5_bestSalt_1 la hy hC hx
  · rcases jw_opt (c.1.2 i).2.2 with hq | ⟨l, hq⟩
    · exact c_X5_bestSalt_2 la hy hC hi hq
    · exact c_X5_bestSalt_3 la hy hC hi hq
theorem cx_undo (la : Launch) {y : js_L} (hy : js_Dy y) {G : js_G} {c : js_C} (hC : jr_C G c) : js_Ci la y yX4_undo wsX4_undo 5 122 [.ref (js_ad y (190))] G (fun r G' => jP (ms_undo c ) r G G') := by
  obtain ⟨s0, h, vp⟩ := c
  rcases jw_last h with rfl | ⟨l, s, rfl⟩
  · exact c_X4_undo_1 la hy hC
  · exact c_X4_undo_2 la hy hC
theorem cm_undo (la : Launch) {y : js_L} (hy : js_Dy y) {G : js_G} {c : js_C} (hC : mr_C G c) : js_Ci la y yX5_undo wsX5_undo 2 36 [.ref (js_ad y (191))] G (fun r G' => mP (ms_undo c ) r G G') := by
  obtain ⟨s0, h, vp⟩ := c
  rcases jw_last h with rfl | ⟨l, s, rfl⟩
  · exact c_X5_undo_1 la hy hC
  · exact c_X5_undo_2 la hy hC
theorem cx_save (la : Launch) {y : js_L} (hy : js_Dy y) {G : js_G} {c : js_C} (hC : jr_C G c) (x : Int32) : js_Ci la y yX4_save wsX4_save 5 101 [.ref (js_ad y (190)), .int (x)] G (fun r G' => jP (ms_save c x) r G G') := by
  rcases jb_or x (n := 2) (by decide) with hx | ⟨i, hi, rfl⟩
  · exact c_X4_save_1 la hy hC hx
  · exact c_X4_save_2 la hy hC hi
theorem cm_save (la : Launch) {y : js_L} (hy : js_Dy y) {G : js_G} {c : js_C} (hC : mr_C G c) (x : Int32) : js_Ci la y yX5_save wsX5_save 5 100 [.ref (js_ad y (191)), .int (x)] G (fun r G' => mP (ms_save c x) r G G') := by
  rcases jb_or x (n := 2) (by decide) with hx | ⟨i, hi, rfl⟩
  · exact c_X5_save_1 la hy hC hx
  · exact c_X5_save_2 la hy hC hi
theorem cx_restore (la : Launch) {y : js_L} (hy : js_Dy y) {G : js_G} {c : js_C} (hC : jr_C G c) (x : Int32) : js_Ci la y yX4_restore wsX4_restore 5 122 [.ref (js_ad y (190)), .int (x)] G (fun r G' => jP (ms_restore c x) r G G') := by
  rcases jb_or x (n := 2) (by decide) with hx | ⟨i, hi, rfl⟩
  · exact c_X4_restore_1 la hy hC hx
  · rcases jw_opt (c.2.2.1 i) with hv | ⟨s, hv⟩
    · exact c_X4_restore_2 la hy hC hi hv
    · exact c_X4_restore_3 la hy hC hi hv
theorem cm_restore (la : Launch) {y : js_L} (hy : js_Dy y) {G : js_G} {c : js_C} (hC : mr_C G c) (x : Int32) : js_Ci la y yX5_restore wsX5_restore 5 100 [.ref (js_ad y (191)), .int (x)] G (fun r G' => mP (ms_restore c x) r G G') := by
  rcases jb_or x (n := 2) (by decide) with hx | ⟨i, hi, rfl⟩
  · exact c_X5_restore_1 la hy hC hx
  · rcases jw_opt (c.2.2.1 i) with hv | ⟨s, hv⟩
    · exact c_X5_restore_2 la hy hC hi hv
    · exact c_X5_restore_3 la hy hC hi hv
