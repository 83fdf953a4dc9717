theorem mf_X2_filledBuckets : js_M yX2_filledBuckets cX2_filledBuckets 3 (some .int) wsX2_filledBuckets 0 := ⟨⟨_, rfl⟩, by decide +kernel, by decide +kernel, by decide +kernel, by decide +kernel⟩
set_option maxHeartbeats 4000000 in
set_option maxRecDepth 100000 in
theorem c_X2_filledBuckets (la : Launch) {y : js_L} (hy : js_Dy y) {j : Nat} (hj : j < 55) {G : js_G} {B : Nat} (hB : G (js_kS j) 0 = nI B) (hB6 : B ≤ 6) {rk : Nat → Nat} (hR : ∀ b, b < 2 ^ B → G (js_kR j) b = nI (rk b)) (hK : ∀ b, b < 2 ^ B → rk b ≤ 16) : js_Ci la y yX2_filledBuckets wsX2_filledBuckets 3 54 [.ref (js_ad y (js_kS j))] G (fun r G' => r = nI (jm_fil rk (2 ^ B)) ∧ G = G') := by
  have hp : 2 ^ B ≤ 64 := jm_p6 hB6
  have hp1 : 1 ≤ 2 ^ B := jm_p1 B
  refine js_ofi mf_X2_filledBuckets (Nat.le_of_ble_eq_true rfl) hy (fun X F hr => ?_)
  replace F : js_F X y cX2_filledBuckets 3 RX2 wsX2_filledBuckets 3 54 := F
  show js_W X y 3 _ G 0 [(0, .ref (js_ad y (js_kS j)))] []
  refine js_iconst (pc := 0) (v := nI (0)) F (by decide) dX2_filledBuckets_0 ?_
  refine js_istore_n (pc := 1) (lv2 := [(0, .ref (js_ad y (js_kS j))), (1, .int (nI (0)))]) F dX2_filledBuckets_1 (by decide) [1, 0] rfl ?_
  refine js_iconst (pc := 2) (v := nI (0)) F (by decide) dX2_filledBuckets_2 ?_
  refine js_istore_n (pc := 3) (lv2 := [(0, .ref (js_ad y (js_kS j))), (1, .int (nI (0))), (2, .int (nI (0)))]) F dX2_filledBuckets_3 (by decide) [1, 2, 0] rfl ?_
  have L4 : ∀ (fu4 : Nat) (i : Nat) (a : Nat) (hi : i ≤ 2 ^ B) (ha : a = jm_sum (fun b => if 0 < rk b then 1 else 0) i) (hfu4 : 2 ^ B - i < fu4), js_W X y 3 (js_Qi X y (fun r G' => r = nI (jm_fil rk (2 ^ B)) ∧ G = G')) G 4 [(0, .ref (js_ad y (js_kS j))), (1, .int (nI (a))), (2, .int (nI (i)))] [] := by
    intro fu4
    induction fu4 with
    | zero => intro i a hi ha hfu4; exact absurd hfu4 (Nat.not_lt_zero _)
    | succ fu4 ih4 =>
      intro i a hi ha hfu4
      refine js_iload_n (pc := 4) 2 F rfl dX2_filledBuckets_4 ?_
      refine js_aload_n (pc := 5) 0 F rfl dX2_filledBuckets_5 ?_
      refine js_calli (pc := 6) F (c_X2_buckets _ hy hj (G := G) (B := B) (hB) (by omega)) mf_X2_buckets gX2_filledBuckets_X2_buckets rfl (by decide) (by unfold js_kS; omega) (js_ct_S hj) rfl rfl rfl (Nat.le_of_ble_eq_true rfl) dX2_filledBuckets_6 ?_
      rintro _ _ ⟨rfl, rfl⟩
      refine js_icmp_geN (pc := 9) (a := i) (b := 2 ^ B) (tgt := 29) F (by first | omega | (have := hK i (by omega); omega)) (by first | omega | (have := hK i (by omega); omega)) dX2_filledBuckets_9 (by decide) (fun h9 => ?_) (fun h9 => ?_)
      · skip
        refine js_iload_n (pc := 29) 1 F rfl dX2_filledBuckets_29 ?_
        refine js_iret (pc := 30) F hr (rfl) ?_ dX2_filledBuckets_30
        exact ⟨by rw [ha, show i = 2 ^ B by omega]; rfl, rfl⟩
      · skip
        refine js_aload_n (pc := 12) 0 F rfl dX2_filledBuckets_12 ?_
        refine js_iload_n (pc := 13) 2 F rfl dX2_filledBuckets_13 ?_
        refine js_calli (pc := 14) F (c_X2_rankIn _ hy hj (G := G) (B := B) (hB) (by omega) (b := i) (by omega)) mf_X2_rankIn gX2_filledBuckets_X2_rankIn rfl (by decide) (by unfold js_kS; omega) (js_ct_S hj) rfl rfl rfl (Nat.le_of_ble_eq_true rfl) dX2_filledBuckets_14 ?_
        rintro _ _ ⟨hv14, rfl⟩
        rw [hv14, show G (js_kR j) (i) = nI (rk (i)) from (hR _ (by omega))]
        refine js_if_leN (pc := 17) (a := rk (i)) (tgt := 23) F (by first | omega | (have := hK i (by omega); omega)) dX2_filledBuckets_17 (by decide) (fun h17 => ?_) (fun h17 => ?_)
        · skip
          refine js_iinc (pc := 23) (v := nI (i + 1)) (lv2 := [(0, .ref (js_ad y (js_kS j))), (1, .int (nI (a))), (2, .int (nI (i + 1)))]) F dX2_filledBuckets_23 2 rfl (nI_add _ _) (by decide) [1, 2, 0] rfl ?_
          refine js_goto (pc := 26) (tgt := 4) F dX2_filledBuckets_26 (by decide) ?_
          exact ih4 (i + 1) a (by omega) (by simp only [jm_sum]; rw [← ha]; split <;> omega) (by omega)
        · skip
          refine js_iinc (pc := 20) (v := nI (a + 1)) (lv2 := [(0, .ref (js_ad y (js_kS j))), (1, .int (nI (a + 1))), (2, .int (nI (i)))]) F dX2_filledBuckets_20 1 rfl (nI_add _ _) (by decide) [1, 0, 2] rfl ?_
          refine js_iinc (pc := 23) (v := nI (i + 1)) (lv2 := [(0, .ref (js_ad y (js_kS j))), (1, .int (nI (a + 1))), (2, .int (nI (i + 1)))]) F dX2_filledBuckets_23 2 rfl (nI_add _ _) (by decide) [1, 2, 0] rfl ?_
          refine js_goto (pc := 26) (tgt := 4) F dX2_filledBuckets_26 (by decide) ?_
          exact ih4 (i + 1) (a + 1) (by omega) (by simp only [jm_sum]; rw [← ha]; split <;> omega) (by omega)
  exact L4 (_ + 1) 0 0 (Nat.zero_le _) (rfl) (Nat.lt_succ_self _)
theorem mf_X2_emptyBuckets : js_M yX2_emptyBuckets cX2_emptyBuckets 1 (some .int) wsX2_emptyBuckets 0 := ⟨⟨_, rfl⟩, by decide +kernel, by decide +kernel, by decide +kernel, by decide +kernel⟩
set_option maxHeartbeats 4000000 in
set_option maxRecDepth 100000 in
theorem c_X2_emptyBuckets (la : Launch) {y : js_L} (hy : js_Dy y) {j : Nat} (hj : j < 55) {G : js_G} {B : Nat} (hB : G (js_kS j) 0 = nI B) (hB6 : B ≤ 6) {rk : Nat → Nat} (hR : ∀ b, b < 2 ^ B → G (js_kR j) b = nI (rk b)) (hK : ∀ b, b < 2 ^ B → rk b ≤ 16) : js_Ci la y yX2_emptyBuckets wsX2_emptyBuckets 4 76 [.ref (js_ad y (js_kS j))] G (fun r G' => r = nI (jm_emp rk (2 ^ B)) ∧ G = G') := by
  have hp : 2 ^ B ≤ 64 := jm_p6 hB6
  have hp1 : 1 ≤ 2 ^ B := jm_p1 B
  refine js_ofi mf_X2_emptyBuckets (Nat.le_of_ble_eq_true rfl) hy (fun X F hr => ?_)
  replace F : js_F X y cX2_emptyBuckets 1 RX2 wsX2_emptyBuckets 4 76 := F
  show js_W X y 1 _ G 0 [(0, .ref (js_ad y (js_kS j)))] []
  refine js_aload_n (pc := 0) 0 F rfl dX2_emptyBuckets_0 ?_
  refine js_calli (pc := 1) F (c_X2_buckets _ hy hj (G := G) (B := B) (hB) (by omega)) mf_X2_buckets gX2_emptyBuckets_X2_buckets rfl (by decide) (by unfold js_kS; omega) (js_ct_S hj) rfl rfl rfl (Nat.le_of_ble_eq_true rfl) dX2_emptyBuckets_1 ?_
  rintro _ _ ⟨rfl, rfl⟩
  refine js_aload_n (pc := 4) 0 F rfl dX2_emptyBuckets_4 ?_
  refine js_calli (pc := 5) F (c_X2_filledBuckets _ hy hj (G := G) (B := B) (hB) (by omega) (rk := rk) (hR) (hK)) mf_X2_filledBuckets gX2_emptyBuckets_X2_filledBuckets rfl (by decide) (by unfold js_kS; omega) (js_ct_S hj) rfl rfl rfl (Nat.le_of_ble_eq_true rfl) dX2_emptyBuckets_5 ?_
  rintro _ _ ⟨rfl, rfl⟩
  refine js_isubN (pc := 8) (a := 2 ^ B) (b := jm_fil rk (2 ^ B)) F (jm_fil_le _ _) dX2_emptyBuckets_8 ?_
  refine js_iret (pc := 9) F hr (rfl) ?_ dX2_emptyBuckets_9
  exact ⟨by rw [show 2 ^ B - jm_fil rk (2 ^ B) = jm_emp rk (2 ^ B) by have := jm_fil_emp rk (2 ^ B); omega], rfl⟩
theorem lk_X2_greatestRank_code_Lib_Math_max_name_Lib_Math_max_code_2_some_int : Cond.code Lib.Math.max.name Lib.Math.max.code 2 (some .int) ∈ wsX2_greatestRank := by decide +kernel
theorem lk_X2_greatestRank_initialized_java_lang_Math : Cond.initialized "java/lang/Math" ∈ wsX2_greatestRank := by decide +kernel
theorem lk_X2_greatestRank_methodLink_RX2_72_Lib_Math_max_name : Cond.methodLink RX2 72 Lib.Math.max.name ∈ wsX2_greatestRank := by decide +kernel
theorem lk_X2_greatestRank_static_Lib_Math_max_name : Cond.static Lib.Math.max.name ∈ wsX2_greatestRank := by decide +kernel
theorem mf_X2_greatestRank : js_M yX2_greatestRank cX2_greatestRank 3 (some .int) wsX2_greatestRank 0 := ⟨⟨_, rfl⟩, by decide +kernel, by decide +kernel, by decide +kernel, by decide +kernel⟩
set_option maxHeartbeats 4000000 in
set_option maxRecDepth 100000 in
theorem c_X2_greatestRank (la : Launch) {y : js_L} (hy : js_Dy y) {j : Nat} (hj : j < 55) {G : js_G} {B : Nat} (hB : G (js_kS j) 0 = nI B) (hB6 : B ≤ 6) {rk : Nat → Nat} (hR : ∀ b, b < 2 ^ B → G (js_kR j) b = nI (rk b)) (hK : ∀ b, b < 2 ^ B → rk b ≤ 16) : js_Ci la y yX2_greatestRank wsX2_greatestRank 3 58 [.ref (js_ad y (js_kS j))] G (fun r G' => r = nI (jm_max rk (2 ^ B)) ∧ G = G') := by
  have hp : 2 ^ B ≤ 64 := jm_p6 hB6
  have hp1 : 1 ≤ 2 ^ B := jm_p1 B
  refine js_ofi mf_X2_greatestRank (Nat.le_of_ble_eq_true rfl) hy (fun X F hr => ?_)
  replace F : js_F X y cX2_greatestRank 3 RX2 wsX2_greatestRank 3 58 := F
  show js_W X y 3 _ G 0 [(0, .ref (js_ad y (js_kS j)))] []
  refine js_iconst (pc := 0) (v := nI (0)) F (by decide) dX2_greatestRank_0 ?_
  refine js_istore_n (pc := 1) (lv2 := [(0, .ref (js_ad y (js_kS j))), (1, .int (nI (0)))]) F dX2_greatestRank_1 (by decide) [1, 0] rfl ?_
  refine js_iconst (pc := 2) (v := nI (0)) F (by decide) dX2_greatestRank_2 ?_
  refine js_istore_n (pc := 3) (lv2 := [(0, .ref (js_ad y (js_kS j))), (1, .int (nI (0))), (2, .int (nI (0)))]) F dX2_greatestRank_3 (by decide) [1, 2, 0] rfl ?_
  have L4 : ∀ (fu4 : Nat) (i : Nat) (a : Nat) (hi : i ≤ 2 ^ B) (ha : a = jm_max (rk) i) (hb : a ≤ 16) (hfu4 : 2 ^ B - i < fu4), js_W X y 3 (js_Qi X y (fun r G' => r = nI (jm_max rk (2 ^ B)) ∧ G = G')) G 4 [(0, .ref (js_ad y (js_kS j))), (1, .int (nI (a))), (2, .int (nI (i)))] [] := by
    intro fu4
    induction fu4 with
    | zero => intro i a hi ha hb hfu4; exact absurd hfu4 (Nat.not_lt_zero _)
    | succ fu4 ih4 =>
      intro i a hi ha hb hfu4
      refine js_iload_n (pc := 4) 2 F rfl dX2_greatestRank_4 ?_
      refine js_aload_n (pc := 5) 0 F rfl dX2_greatestRank_5 ?_
      refine js_calli (pc := 6) F (c_X2_buckets _ hy hj (G := G) (B := B) (hB) (by omega)) mf_X2_buckets gX2_greatestRank_X2_buckets rfl (by decide) (by unfold js_kS; omega) (js_ct_S hj) rfl rfl rfl (Nat.le_of_ble_eq_true rfl) dX2_greatestRank_6 ?_
      rintro _ _ ⟨rfl, rfl⟩
      refine js_icmp_geN (pc := 9) (a := i) (b := 2 ^ B) (tgt := 28) F (by first | omega | (have := hK i (by omega); omega)) (by first | omega | (have := hK i (by omega); omega)) dX2_greatestRank_9 (by decide) (fun h9 => ?_) (fun h9 => ?_)
      · skip
        refine js_iload_n (pc := 28) 1 F rfl dX2_greatestRank_28 ?_
        refine js_iret (pc := 29) F hr (rfl) ?_ dX2_greatestRank_29
        exact ⟨by rw [ha, show i = 2 ^ B by omega], rfl⟩
      · skip
        refine js_iload_n (pc := 12) 1 F rfl dX2_greatestRank_12 ?_
        refine js_aload_n (pc := 13) 0 F rfl dX2_greatestRank_13 ?_
        refine js_iload_n (pc := 14) 2 F rfl dX2_greatestRank_14 ?_
        refine js_calli (pc := 15) F (c_X2_rankIn _ hy hj (G := G) (B := B) (hB) (by omega) (b := i) (by omega)) mf_X2_rankIn gX2_greatestRank_X2_rankIn rfl (by decide) (by unfold js_kS; omega) (js_ct_S hj) rfl rfl rfl (Nat.le_of_ble_eq_true rfl) dX2_greatestRank_15 ?_
        rintro _ _ ⟨hv15, rfl⟩
        rw [hv15, show G (js_kR j) (i) = nI (rk (i)) from (hR _ (by omega))]
        refine js_maxN (pc := 18) (a := a) (b := rk (i)) F (by first | omega | (have := hK i (by omega); omega)) (by first | omega | (have := hK i (by omega); omega)) lk_X2_greatestRank_methodLink_RX2_72_Lib_Math_max_name lk_X2_greatestRank_static_Lib_Math_max_name lk_X2_greatestRank_initialized_java_lang_Math lk_X2_greatestRank_code_Lib_Math_max_name_Lib_Math_max_code_2_some_int (by decide) (Nat.le_of_ble_eq_true rfl) dX2_greatestRank_18 ?_
        refine js_istore_n (pc := 21) (lv2 := [(0, .ref (js_ad y (js_kS j))), (1, .int (nI (if a < (rk (i)) then rk (i) else a))), (2, .int (nI (i)))]) F dX2_greatestRank_21 (by decide) [1, 0, 2] rfl ?_
        refine js_iinc (pc := 22) (v := nI (i + 1)) (lv2 := [(0, .ref (js_ad y (js_kS j))), (1, .int (nI (if a < (rk (i)) then rk (i) else a))), (2, .int (nI (i + 1)))]) F dX2_greatestRank_22 2 rfl (nI_add _ _) (by decide) [1, 2, 0] rfl ?_
        refine js_goto (pc := 25) (tgt := 4) F dX2_greatestRank_25 (by decide) ?_
        exact ih4 (i + 1) (if a < (rk (i)) then rk (i) else a) (by omega) (by simp only [jm_max]; rw [← ha]) (by have := hK i (by omega); split <;> omega) (by omega)
  exact L4 (_ + 1) 0 0 (Nat.zero_le _) (rfl) (by decide) (Nat.lt_succ_self _)
theorem lk_X2_rankSum_constant_RX2_93_65536 : Cond.constant RX2 93 (65536) ∈ wsX2_rankSum := by decide +kernel
theorem mf_X2_rankSum : js_M yX2_rankSum cX2_rankSum 3 (some .int) wsX2_rankSum 0 := ⟨⟨_, rfl⟩, by decide +kernel, by decide +kernel, by decide +kernel, by decide +kernel⟩
set_option maxHeartbeats 4000000 in
set_option maxRecDepth 100000 in
theorem c_X2_rankSum (la : Launch) {y : js_L} (hy : js_Dy y) {j : Nat} (hj : j < 55) {G : js_G} {B : Nat} (hB : G (js_kS j) 0 = nI B) (hB6 : B ≤ 6) {rk : Nat → Nat} (hR : ∀ b, b < 2 ^ B → G (js_kR j) b = nI (rk b)) (hK : ∀ b, b < 2 ^ B → rk b ≤ 16) : js_Ci la y yX2_rankSum wsX2_rankSum 3 54 [.ref (js_ad y (js_kS j))] G (fun r G' => r = nI (jm_S rk (2 ^ B)) ∧ G = G') := by
  have hp : 2 ^ B ≤ 64 := jm_p6 hB6
  have hp1 : 1 ≤ 2 ^ B := jm_p1 B
  refine js_ofi mf_X2_rankSum (Nat.le_of_ble_eq_true rfl) hy (fun X F hr => ?_)
  replace F : js_F X y cX2_rankSum 3 RX2 wsX2_rankSum 3 54 := F
  show js_W X y 3 _ G 0 [(0, .ref (js_ad y (js_kS j)))] []
  refine js_iconst (pc := 0) (v := nI (0)) F (by decide) dX2_rankSum_0 ?_
  refine js_istore_n (pc := 1) (lv2 := [(0, .ref (js_ad y (js_kS j))), (1, .int (nI (0)))]) F dX2_rankSum_1 (by decide) [1, 0] rfl ?_
  refine js_iconst (pc := 2) (v := nI (0)) F (by decide) dX2_rankSum_2 ?_
  refine js_istore_n (pc := 3) (lv2 := [(0, .ref (js_ad y (js_kS j))), (1, .int (nI (0))), (2, .int (nI (0)))]) F dX2_rankSum_3 (by decide) [1, 2, 0] rfl ?_
  have L4 : ∀ (fu4 : Nat) (i : Nat) (a : Nat) (hi : i ≤ 2 ^ B) (ha : a = jm_sum (fun b => 65536 / 2 ^ rk b) i) (hfu4 : 2 ^ B - i < fu4), js_W X y 3 (js_Qi X y (fun r G' => r = nI (jm_S rk (2 ^ B)) ∧ G = G')) G 4 [(0, .ref (js_ad y (js_kS j))), (1, .int (nI (a))), (2, .int (nI (i)))] [] := by
    intro fu4
    induction fu4 with
    | zero => intro i a hi ha hfu4; exact absurd hfu4 (Nat.not_lt_zero _)
    | succ fu4 ih4 =>
      intro i a hi ha hfu4
      refine js_iload_n (pc := 4) 2 F rfl dX2_rankSum_4 ?_
      refine js_aload_n (pc := 5) 0 F rfl dX2_rankSum_5 ?_
      refine js_calli (pc := 6) F (c_X2_buckets _ hy hj (G := G) (B := B) (hB) (by omega)) mf_X2_buckets gX2_rankSum_X2_buckets rfl (by decide) (by unfold js_kS; omega) (js_ct_S hj) rfl rfl rfl (Nat.le_of_ble_eq_true rfl) dX2_rankSum_6 ?_
      rintro _ _ ⟨rfl, rfl⟩
      refine js_icmp_geN (pc := 9) (a := i) (b := 2 ^ B) (tgt := 29) F (by omega) (by omega) dX2_rankSum_9 (by decide) (fun h9 => ?_) (fun h9 => ?_)
      · skip
        refine js_iload_n (pc := 29) 1 F rfl dX2_rankSum_29 ?_
        refine js_iret (pc := 30) F hr (rfl) ?_ dX2_rankSum_30
        exact ⟨by rw [ha, show i = 2 ^ B by omega]; rfl, rfl⟩
      · skip
        refine js_iload_n (pc := 12) 1 F rfl dX2_rankSum_12 ?_
        refine js_ldc (pc := 13) (v := nI (65536)) F (lk_X2_rankSum_constant_RX2_93_65536) dX2_rankSum_13 ?_
        refine js_aload_n (pc := 15) 0 F rfl dX2_rankSum_15 ?_
        refine js_iload_n (pc := 16) 2 F rfl dX2_rankSum_16 ?_
        refine js_calli (pc := 17) F (c_X2_rankIn _ hy hj (G := G) (B := B) (hB) (by omega) (b := i) (by omega)) mf_X2_rankIn gX2_rankSum_X2_rankIn rfl (by decide) (by unfold js_kS; omega) (js_ct_S hj) rfl rfl rfl (Nat.le_of_ble_eq_true rfl) dX2_rankSum_17 ?_
        rintro _ _ ⟨hv17, rfl⟩
        rw [hv17, show G (js_kR j) (i) = nI (rk (i)) from (hR _ (by omega))]
        refine js_ishrN (pc := 20) (a := 65536) (b := rk (i)) F (by have := hK i (by omega); omega) (by decide) dX2_rankSum_20 ?_
        refine js_iaddN (pc := 21) (a := a) (b := 65536 / 2 ^ (rk (i))) F dX2_rankSum_21 ?_
        refine js_istore_n (pc := 22) (lv2 := [(0, .ref (js_ad y (js_kS j))), (1, .int (nI (a + (65536 / 2 ^ (rk (i)))))), (2, .int (nI (i)))]) F dX2_rankSum_22 (by decide) [1, 0, 2] rfl ?_
        refine js_iinc (pc := 23) (v := nI (i + 1)) (lv2 := [(0, .ref (js_ad y (js_kS j))), (1, .int (nI (a + (65536 / 2 ^ (rk (i)))))), (2, .int (nI (i + 1)))]) F dX2_rankSum_23 2 rfl (nI_add _ _) (by decide) [1, 2, 0] rfl ?_
        refine js_goto (pc := 26) (tgt := 4) F dX2_rankSum_26 (by decide) ?_
        exact ih4 (i + 1) (a + (65536 / 2 ^ (rk (i)))) (by omega) (by simp only [jm_sum]; rw [← ha]) (by omega)
  exact L4 (_ + 1) 0 0 (Nat.zero_le _) (rfl) (Nat.lt_succ_self _)
theorem lk_X2_rawEstimate_constantLong_RX2_101_7 : Cond.constantLong RX2 101 (7) ∈ wsX2_rawEstimate := by decide +kernel
theorem lk_X2_rawEstimate_constantLong_RX2_94_10 : Cond.constantLong RX2 94 (10) ∈ wsX2_rawEstimate := by decide +kernel
theorem lk_X2_rawEstimate_constantLong_RX2_99_65536 : Cond.constantLong RX2 99 (65536) ∈ wsX2_rawEstimate := by decide +kernel
theorem mf_X2_rawEstimate : js_M yX2_rawEstimate cX2_rawEstimate 5 (some .int) wsX2_rawEstimate 0 := ⟨⟨_, rfl⟩, by decide +kernel, by decide +kernel, by decide +kernel, by decide +kernel⟩
set_option maxHeartbeats 4000000 in
set_option maxRecDepth 100000 in
theorem c_X2_rawEstimate (la : Launch) {y : js_L} (hy : js_Dy y) {j : Nat} (hj : j < 55) {G : js_G} {B : Nat} (hB : G (js_kS j) 0 = nI B) (hB6 : B ≤ 6) {rk : Nat → Nat} (hR : ∀ b, b < 2 ^ B → G (js_kR j) b = nI (rk b)) (hK : ∀ b, b < 2 ^ B → rk b ≤ 16) : js_Ci la y yX2_rawEstimate wsX2_rawEstimate 4 76 [.ref (js_ad y (js_kS j))] G (fun r G' => r = nI (jm_raw (2 ^ B) (jm_S rk (2 ^ B))) ∧ G = G') := by
  have hp : 2 ^ B ≤ 64 := jm_p6 hB6
  have hp1 : 1 ≤ 2 ^ B := jm_p1 B
  have hS1 := jm_S_le rk (2 ^ B)
  have hS2 := jm_S_ge (rk := rk) (m := 2 ^ B) hK
  have hmm : (2 ^ B) * (2 ^ B) ≤ 64 * 64 := Nat.mul_le_mul hp hp
  have hrw := jm_raw_le (m := 2 ^ B) (s := jm_S rk (2 ^ B)) (by omega) hS2 hp
  have hem := jm_fil_emp rk (2 ^ B)
  have hes := jm_est_le (rk := rk) (m := 2 ^ B) (by omega) hp hK
  refine js_ofi mf_X2_rawEstimate (Nat.le_of_ble_eq_true rfl) hy (fun X F hr => ?_)
  replace F : js_F X y cX2_rawEstimate 5 RX2 wsX2_rawEstimate 4 76 := F
  show js_W X y 5 _ G 0 [(0, .ref (js_ad y (js_kS j)))] []
  refine js_ldc2 (pc := 0) (v := lN (10)) F (lk_X2_rawEstimate_constantLong_RX2_94_10) dX2_rawEstimate_0 ?_
  refine js_aload_n (pc := 3) 0 F rfl dX2_rawEstimate_3 ?_
  refine js_calli (pc := 4) F (c_X2_rankSum _ hy hj (G := G) (B := B) (hB) (by omega) (rk := rk) (hR) (hK)) mf_X2_rankSum gX2_rawEstimate_X2_rankSum rfl (by decide) (by unfold js_kS; omega) (js_ct_S hj) rfl rfl rfl (Nat.le_of_ble_eq_true rfl) dX2_rawEstimate_4 ?_
  rintro _ _ ⟨rfl, rfl⟩
  refine js_i2lN (pc := 7) F (by omega) dX2_rawEstimate_7 ?_
  refine js_lmulN (pc := 8) (a := 10) (b := jm_S rk (2 ^ B)) F dX2_rawEstimate_8 ?_
  refine js_lstore_n (pc := 9) (lv2 := [(0, .ref (js_ad y (js_kS j))), (1, .long (lN (10 * (jm_S rk (2 ^ B)))))]) F dX2_rawEstimate_9 (by decide) [1, 0] rfl ?_
  refine js_lload_n (pc := 10) 1 F rfl dX2_rawEstimate_10 ?_
  refine js_lconst (pc := 11) (v := lN 0) F rfl dX2_rawEstimate_11 ?_
  refine js_lcmp (pc := 12) F dX2_rawEstimate_12 ?_
  refine js_val (v := nI (1)) (jn_lgt (by omega) (by omega)) ?_
  refine js_if_gtN (pc := 13) (a := 1) (tgt := 18) F (by decide) dX2_rawEstimate_13 (by decide) (fun h13 => ?_) (fun h13 => by exfalso; omega)
  refine js_aload_n (pc := 18) 0 F rfl dX2_rawEstimate_18 ?_
  refine js_calli (pc := 19) F (c_X2_buckets _ hy hj (G := G) (B := B) (hB) (by omega)) mf_X2_buckets gX2_rawEstimate_X2_buckets rfl (by decide) (by unfold js_kS; omega) (js_ct_S hj) rfl rfl rfl (Nat.le_of_ble_eq_true rfl) dX2_rawEstimate_19 ?_
  rintro _ _ ⟨rfl, rfl⟩
  refine js_i2lN (pc := 22) F (by omega) dX2_rawEstimate_22 ?_
  refine js_lstore_n (pc := 23) (lv2 := [(0, .ref (js_ad y (js_kS j))), (1, .long (lN (10 * (jm_S rk (2 ^ B))))), (3, .long (lN (2 ^ B)))]) F dX2_rawEstimate_23 (by decide) [1, 2, 0] rfl ?_
  refine js_lload_n (pc := 24) 2 F rfl dX2_rawEstimate_24 ?_
  refine js_lload_n (pc := 25) 2 F rfl dX2_rawEstimate_25 ?_
  refine js_lmulN (pc := 26) (a := 2 ^ B) (b := 2 ^ B) F dX2_rawEstimate_26 ?_
  refine js_ldc2 (pc := 27) (v := lN (65536)) F (lk_X2_rawEstimate_constantLong_RX2_99_65536) dX2_rawEstimate_27 ?_
  refine js_lmulN (pc := 30) (a := (2 ^ B) * (2 ^ B)) (b := 65536) F dX2_rawEstimate_30 ?_
  refine js_ldc2 (pc := 31) (v := lN (7)) F (lk_X2_rawEstimate_constantLong_RX2_101_7) dX2_rawEstimate_31 ?_
  refine js_lmulN (pc := 34) (a := ((2 ^ B) * (2 ^ B)) * 65536) (b := 7) F dX2_rawEstimate_34 ?_
  refine js_lload_n (pc := 35) 1 F rfl dX2_rawEstimate_35 ?_
  refine js_ldivN (pc := 36) (a := (((2 ^ B) * (2 ^ B)) * 65536) * 7) (b := 10 * (jm_S rk (2 ^ B))) F (by omega) (by omega) (by omega) dX2_rawEstimate_36 ?_
  refine js_l2iN (pc := 37) F dX2_rawEstimate_37 ?_
  refine js_iret (pc := 38) F hr (rfl) ?_ dX2_rawEstimate_38
  exact ⟨rfl, rfl⟩
theorem lk_X2_estimateByEmpty_code_Lib_Math_max_name_Lib_Math_max_code_2_some_int : Cond.code Lib.Math.max.name Lib.Math.max.code 2 (some .int) ∈ wsX2_estimateByEmpty := by decide +kernel
theorem lk_X2_estimateByEmpty_initialized_java_lang_Math : Cond.initialized "java/lang/Math" ∈ wsX2_estimateByEmpty := by decide +kernel
theorem lk_X2_estimateByEmpty_methodLink_RX2_72_Lib_Math_max_name : Cond.methodLink RX2 72 Lib.Math.max.name ∈ wsX2_estimateByEmpty := by decide +kernel
theorem lk_X2_estimateByEmpty_static_Lib_Math_max_name : Cond.static Lib.Math.max.name ∈ wsX2_estimateByEmpty := by decide +kernel
theorem mf_X2_estimateByEmpty : js_M yX2_estimateByEmpty cX2_estimateByEmpty 4 (some .int) wsX2_estimateByEmpty 1 := ⟨⟨_, rfl⟩, by decide +kernel, by decide +kernel, by decide +kernel, by decide +kernel⟩
set_option maxHeartbeats 4000000 in
set_option maxRecDepth 100000 in
theorem c_X2_estimateByEmpty (la : Launch) {y : js_L} (hy : js_Dy y) {j : Nat} (hj : j < 55) {G : js_G} {B : Nat} (hB : G (js_kS j) 0 = nI B) (hB6 : B ≤ 6) {e : Nat} (he : e ≤ 2 ^ B) : js_Ci la y yX2_estimateByEmpty wsX2_estimateByEmpty 2 58 [.ref (js_ad y (js_kS j)), .int (nI (e))] G (fun r G' => r = nI (jm_harm (2 ^ B) e) ∧ G = G') := by
  have hp : 2 ^ B ≤ 64 := jm_p6 hB6
  have hp1 : 1 ≤ 2 ^ B := jm_p1 B
  refine js_ofi mf_X2_estimateByEmpty (Nat.le_of_ble_eq_true rfl) hy (fun X F hr => ?_)
  replace F : js_F X y cX2_estimateByEmpty 4 RX2 wsX2_estimateByEmpty 2 58 := F
  show js_W X y 4 _ G 0 [(0, .ref (js_ad y (js_kS j))), (1, .int (nI (e)))] []
  refine js_iconst (pc := 0) (v := nI (0)) F (by decide) dX2_estimateByEmpty_0 ?_
  refine js_istore_n (pc := 1) (lv2 := [(0, .ref (js_ad y (js_kS j))), (1, .int (nI (e))), (2, .int (nI (0)))]) F dX2_estimateByEmpty_1 (by decide) [1, 2, 0] rfl ?_
  refine js_iload_n (pc := 2) 1 F rfl dX2_estimateByEmpty_2 ?_
  refine js_iconst (pc := 3) (v := nI (0)) F (by decide) dX2_estimateByEmpty_3 ?_
  refine js_maxN (pc := 4) (a := e) (b := 0) F (by omega) (by decide) lk_X2_estimateByEmpty_methodLink_RX2_72_Lib_Math_max_name lk_X2_estimateByEmpty_static_Lib_Math_max_name lk_X2_estimateByEmpty_initialized_java_lang_Math lk_X2_estimateByEmpty_code_Lib_Math_max_name_Lib_Math_max_code_2_some_int (by decide) (Nat.le_of_ble_eq_true rfl) dX2_estimateByEmpty_4 ?_
  refine js_val (v := nI (e)) (by rw [if_neg (Nat.not_lt_zero _)]) ?_
  refine js_iconst (pc := 7) (v := nI (1)) F (by decide) dX2_estimateByEmpty_7 ?_
  refine js_iaddN (pc := 8) (a := e) (b := 1) F dX2_estimateByEmpty_8 ?_
  refine js_istore_n (pc := 9) (lv2 := [(0, .ref (js_ad y (js_kS j))), (1, .int (nI (e))), (2, .int (nI (0))), (3, .int (nI (e + 1)))]) F dX2_estimateByEmpty_9 (by decide) [1, 2, 3, 0] rfl ?_
  have L10 : ∀ (fu10 : Nat) (k : Nat) (a : Nat) (i : Nat) (hk : k = e + 1 + i) (hi : i ≤ 2 ^ B - e) (ha : a = jm_sum (fun t => 2 ^ B / (e + 1 + t)) i) (hfu10 : 2 ^ B + 1 - k < fu10), js_W X y 4 (js_Qi X y (fun r G' => r = nI (jm_harm (2 ^ B) e) ∧ G = G')) G 10 [(0, .ref (js_ad y (js_kS j))), (1, .int (nI (e))), (2, .int (nI (a))), (3, .int (nI (k)))] [] := by
    intro fu10
    induction fu10 with
    | zero => intro k a i hk hi ha hfu10; exact absurd hfu10 (Nat.not_lt_zero _)
    | succ fu10 ih10 =>
      intro k a i hk hi ha hfu10
      refine js_iload_n (pc := 10) 3 F rfl dX2_estimateByEmpty_10 ?_
      refine js_aload_n (pc := 11) 0 F rfl dX2_estimateByEmpty_11 ?_
      refine js_calli (pc := 12) F (c_X2_buckets _ hy hj (G := G) (B := B) (hB) (by omega)) mf_X2_buckets gX2_estimateByEmpty_X2_buckets rfl (by decide) (by unfold js_kS; omega) (js_ct_S hj) rfl rfl rfl (Nat.le_of_ble_eq_true rfl) dX2_estimateByEmpty_12 ?_
      rintro _ _ ⟨rfl, rfl⟩
      refine js_icmp_gtN (pc := 15) (a := k) (b := 2 ^ B) (tgt := 33) F (by omega) (by omega) dX2_estimateByEmpty_15 (by decide) (fun h15 => ?_) (fun h15 => ?_)
      · skip
        refine js_iload_n (pc := 33) 2 F rfl dX2_estimateByEmpty_33 ?_
        refine js_iret (pc := 34) F hr (rfl) ?_ dX2_estimateByEmpty_34
        exact ⟨by rw [ha, show i = 2 ^ B - e by omega]; rfl, rfl⟩
      · skip
        refine js_iload_n (pc := 18) 2 F rfl dX2_estimateByEmpty_18 ?_
        refine js_aload_n (pc := 19) 0 F rfl dX2_estimateByEmpty_19 ?_
        refine js_calli (pc := 20) F (c_X2_buckets _ hy hj (G := G) (B := B) (hB) (by omega)) mf_X2_buckets gX2_estimateByEmpty_X2_buckets rfl (by decide) (by unfold js_kS; omega) (js_ct_S hj) rfl rfl rfl (Nat.le_of_ble_eq_true rfl) dX2_estimateByEmpty_20 ?_
        rintro _ _ ⟨rfl, rfl⟩
        refine js_iload_n (pc := 23) 3 F rfl dX2_estimateByEmpty_23 ?_
        refine js_idivN (pc := 24) (a := 2 ^ B) (b := k) F (by omega) (by omega) (by omega) dX2_estimateByEmpty_24 ?_
        refine js_iaddN (pc := 25) (a := a) (b := (2 ^ B) / k) F dX2_estimateByEmpty_25 ?_
        refine js_istore_n (pc := 26) (lv2 := [(0, .ref (js_ad y (js_kS j))), (1, .int (nI (e))), (2, .int (nI (a + ((2 ^ B) / k)))), (3, .int (nI (k)))]) F dX2_estimateByEmpty_26 (by decide) [1, 2, 0, 3] rfl ?_
        refine js_iinc (pc := 27) (v := nI (k + 1)) (lv2 := [(0, .ref (js_ad y (js_kS j))), (1, .int (nI (e))), (2, .int (nI (a + ((2 ^ B) / k)))), (3, .int (nI (k + 1)))]) F dX2_estimateByEmpty_27 3 rfl (nI_add _ _) (by decide) [1, 2, 3, 0] rfl ?_
        refine js_goto (pc := 30) (tgt := 10) F dX2_estimateByEmpty_30 (by decide) ?_
        exact ih10 (k + 1) (a + ((2 ^ B) / k)) (i + 1) (by omega) (by omega) (by simp only [jm_sum]; rw [← ha, hk]) (by omega)
  exact L10 (_ + 1) (e + 1) 0 0 (rfl) (Nat.zero_le _) (rfl) (Nat.lt_succ_self _)
theorem mf_X2_estimate : js_M yX2_estimate cX2_estimate 3 (some .int) wsX2_estimate 0 := ⟨⟨_, rfl⟩, by decide +kernel, by decide +kernel, by decide +kernel, by decide +kernel⟩
set_option maxHeartbeats 4000000 in
set_option maxRecDepth 100000 in
theorem c_X2_estimate (la : Launch) {y : js_L} (hy : js_Dy y) {j : Nat} (hj : j < 55) {G : js_G} {B : Nat} (hB : G (js_kS j) 0 = nI B) (hB6 : B ≤ 6) {rk : Nat → Nat} (hR : ∀ b, b < 2 ^ B → G (js_kR j) b = nI (rk b)) (hK : ∀ b, b < 2 ^ B → rk b ≤ 16) : js_Ci la y yX2_estimate wsX2_estimate 5 100 [.ref (js_ad y (js_kS j))] G (fun r G' => r = nI (jm_est rk (2 ^ B)) ∧ G = G') := by
  have hp : 2 ^ B ≤ 64 := jm_p6 hB6
  have hp1 : 1 ≤ 2 ^ B := jm_p1 B
  have hS1 := jm_S_le rk (2 ^ B)
  have hS2 := jm_S_ge (rk := rk) (m := 2 ^ B) hK
  have hmm : (2 ^ B) * (2 ^ B) ≤ 64 * 64 := Nat.mul_le_mul hp hp
  have hrw := jm_raw_le (m := 2 ^ B) (s := jm_S rk (2 ^ B)) (by omega) hS2 hp
  have hem := jm_fil_emp rk (2 ^ B)
  have hes := jm_est_le (rk := rk) (m := 2 ^ B) (by omega) hp hK
  refine js_ofi mf_X2_estimate (Nat.le_of_ble_eq_true rfl) hy (fun X F hr => ?_)
  replace F : js_F X y cX2_estimate 3 RX2 wsX2_estimate 5 100 := F
  show js_W X y 3 _ G 0 [(0, .ref (js_ad y (js_kS j)))] []
  refine js_aload_n (pc := 0) 0 F rfl dX2_estimate_0 ?_
  refine js_calli (pc := 1) F (c_X2_rawEstimate _ hy hj (G := G) (B := B) (hB) (by omega) (rk := rk) (hR) (hK)) mf_X2_rawEstimate gX2_estimate_X2_rawEstimate rfl (by decide) (by unfold js_kS; omega) (js_ct_S hj) rfl rfl rfl (Nat.le_of_ble_eq_true rfl) dX2_estimate_1 ?_
  rintro _ _ ⟨rfl, rfl⟩
  refine js_istore_n (pc := 4) (lv2 := [(0, .ref (js_ad y (js_kS j))), (1, .int (nI (jm_raw (2 ^ B) (jm_S rk (2 ^ B)))))]) F dX2_estimate_4 (by decide) [1, 0] rfl ?_
  refine js_aload_n (pc := 5) 0 F rfl dX2_estimate_5 ?_
  refine js_calli (pc := 6) F (c_X2_emptyBuckets _ hy hj (G := G) (B := B) (hB) (by omega) (rk := rk) (hR) (hK)) mf_X2_emptyBuckets gX2_estimate_X2_emptyBuckets rfl (by decide) (by unfold js_kS; omega) (js_ct_S hj) rfl rfl rfl (Nat.le_of_ble_eq_true rfl) dX2_estimate_6 ?_
  rintro _ _ ⟨rfl, rfl⟩
  refine js_istore_n (pc := 9) (lv2 := [(0, .ref (js_ad y (js_kS j))), (1, .int (nI (jm_raw (2 ^ B) (jm_S rk (2 ^ B))))), (2, .int (nI (jm_emp rk (2 ^ B))))]) F dX2_estimate_9 (by decide) [1, 2, 0] rfl ?_
  refine js_iload_n (pc := 10) 2 F rfl dX2_estimate_10 ?_
  refine js_if_leN (pc := 11) (a := jm_emp rk (2 ^ B)) (tgt := 32) F (by omega) dX2_estimate_11 (by decide) (fun h11 => ?_) (fun h11 => ?_)
  · skip
    refine js_iload_n (pc := 32) 1 F rfl dX2_estimate_32 ?_
    refine js_iret (pc := 33) F hr (rfl) ?_ dX2_estimate_33
    exact ⟨by rw [jm_est, if_neg (by omega)], rfl⟩
  · skip
    refine js_iload_n (pc := 14) 1 F rfl dX2_estimate_14 ?_
    refine js_iconst (pc := 15) (v := nI (5)) F (by decide) dX2_estimate_15 ?_
    refine js_aload_n (pc := 16) 0 F rfl dX2_estimate_16 ?_
    refine js_calli (pc := 17) F (c_X2_buckets _ hy hj (G := G) (B := B) (hB) (by omega)) mf_X2_buckets gX2_estimate_X2_buckets rfl (by decide) (by unfold js_kS; omega) (js_ct_S hj) rfl rfl rfl (Nat.le_of_ble_eq_true rfl) dX2_estimate_17 ?_
    rintro _ _ ⟨rfl, rfl⟩
    refine js_imulN (pc := 20) (a := 5) (b := 2 ^ B) F dX2_estimate_20 ?_
    refine js_iconst (pc := 21) (v := nI (2)) F (by decide) dX2_estimate_21 ?_
    refine js_idivN (pc := 22) (a := 5 * (2 ^ B)) (b := 2) F (by omega) (by omega) (by omega) dX2_estimate_22 ?_
    refine js_icmp_gtN (pc := 23) (a := jm_raw (2 ^ B) (jm_S rk (2 ^ B))) (b := (5 * (2 ^ B)) / 2) (tgt := 32) F (by omega) (by omega) dX2_estimate_23 (by decide) (fun h23 => ?_) (fun h23 => ?_)
    · skip
      refine js_iload_n (pc := 32) 1 F rfl dX2_estimate_32 ?_
      refine js_iret (pc := 33) F hr (rfl) ?_ dX2_estimate_33
      exact ⟨by rw [jm_est, if_neg (by omega)], rfl⟩
    · skip
      refine js_aload_n (pc := 26) 0 F rfl dX2_estimate_26 ?_
      refine js_iload_n (pc := 27) 2 F rfl dX2_estimate_27 ?_
      refine js_calli (pc := 28) F (c_X2_estimateByEmpty _ hy hj (G := G) (B := B) (hB) (by omega) (e := jm_emp rk (2 ^ B)) (by omega)) mf_X2_estimateByEmpty gX2_estimate_X2_estimateByEmpty rfl (by decide) (by unfold js_kS; omega) (js_ct_S hj) rfl rfl rfl (Nat.le_of_ble_eq_true rfl) dX2_estimate_28 ?_
      rintro _ _ ⟨rfl, rfl⟩
      refine js_iret (pc := 31) F hr (rfl) ?_ dX2_estimate_31
      exact ⟨by rw [jm_est, if_pos ⟨by omega, by omega⟩], rfl⟩
theorem mf_X2_rootOfBuckets : js_M yX2_rootOfBuckets cX2_rootOfBuckets 3 (some .int) wsX2_rootOfBuckets 0 := ⟨⟨_, rfl⟩, by decide +kernel, by decide +kernel, by decide +kernel, by decide +kernel⟩
set_option maxHeartbeats 4000000 in
set_option maxRecDepth 100000 in
theorem c_X2_rootOfBuckets (la : Launch) {y : js_L} (hy : js_Dy y) {j : Nat} (hj : j < 55) {G : js_G} {B : Nat} (hB : G (js_kS j) 0 = nI B) (hB6 : B ≤ 6) (hB2 : 2 ≤ B) : js_Ci la y yX2_rootOfBuckets wsX2_rootOfBuckets 2 32 [.ref (js_ad y (js_kS j))] G (fun r G' => r = nI (jm_root (2 ^ B)) ∧ G = G') := by
  have hp : 2 ^ B ≤ 64 := jm_p6 hB6
  have hp1 : 1 ≤ 2 ^ B := jm_p1 B
  refine js_ofi mf_X2_rootOfBuckets (Nat.le_of_ble_eq_true rfl) hy (fun X F hr => ?_)
  replace F : js_F X y cX2_rootOfBuckets 3 RX2 wsX2_rootOfBuckets 2 32 := F
  show js_W X y 3 _ G 0 [(0, .ref (js_ad y (js_kS j)))] []
  refine js_iconst (pc := 0) (v := nI (0)) F (by decide) dX2_rootOfBuckets_0 ?_
  refine js_istore_n (pc := 1) (lv2 := [(0, .ref (js_ad y (js_kS j))), (1, .int (nI (0)))]) F dX2_rootOfBuckets_1 (by decide) [1, 0] rfl ?_
  refine js_iconst (pc := 2) (v := nI (1)) F (by decide) dX2_rootOfBuckets_2 ?_
  refine js_istore_n (pc := 3) (lv2 := [(0, .ref (js_ad y (js_kS j))), (1, .int (nI (0))), (2, .int (nI (1)))]) F dX2_rootOfBuckets_3 (by decide) [1, 2, 0] rfl ?_
  have L4 : ∀ (fu4 : Nat) (x : Nat) (a : Nat) (hx : x ≤ 9) (hx1 : x = a + 1) (ha : a * a ≤ 2 ^ B) (hfu4 : 10 - x < fu4), js_W X y 3 (js_Qi X y (fun r G' => r = nI (jm_root (2 ^ B)) ∧ G = G')) G 4 [(0, .ref (js_ad y (js_kS j))), (1, .int (nI (a))), (2, .int (nI (x)))] [] := by
    intro fu4
    induction fu4 with
    | zero => intro x a hx hx1 ha hfu4; exact absurd hfu4 (Nat.not_lt_zero _)
    | succ fu4 ih4 =>
      intro x a hx hx1 ha hfu4
      refine js_iload_n (pc := 4) 2 F rfl dX2_rootOfBuckets_4 ?_
      refine js_iload_n (pc := 5) 2 F rfl dX2_rootOfBuckets_5 ?_
      refine js_imulN (pc := 6) (a := x) (b := x) F dX2_rootOfBuckets_6 ?_
      refine js_aload_n (pc := 7) 0 F rfl dX2_rootOfBuckets_7 ?_
      refine js_calli (pc := 8) F (c_X2_buckets _ hy hj (G := G) (B := B) (hB) (by omega)) mf_X2_buckets gX2_rootOfBuckets_X2_buckets rfl (by decide) (by unfold js_kS; omega) (js_ct_S hj) rfl rfl rfl (Nat.le_of_ble_eq_true rfl) dX2_rootOfBuckets_8 ?_
      rintro _ _ ⟨rfl, rfl⟩
      refine js_icmp_gtN (pc := 11) (a := x * x) (b := 2 ^ B) (tgt := 28) F (by first | omega | (have := Nat.mul_le_mul hx hx; omega)) (by first | omega | (have := Nat.mul_le_mul hx hx; omega)) dX2_rootOfBuckets_11 (by decide) (fun h11 => ?_) (fun h11 => ?_)
      · skip
        refine js_iload_n (pc := 28) 1 F rfl dX2_rootOfBuckets_28 ?_
        refine js_iret (pc := 29) F hr (rfl) ?_ dX2_rootOfBuckets_29
        exact ⟨by rw [jm_root_is B hB2 hB6 a ha (by rw [hx1] at h11; exact h11)], rfl⟩
      · skip
        refine js_iload_n (pc := 14) 2 F rfl dX2_rootOfBuckets_14 ?_
        refine js_bipush (pc := 15) (v := nI (64)) F (by decide) dX2_rootOfBuckets_15 ?_
        refine js_icmp_gtN (pc := 17) (a := x) (b := 64) (tgt := 28) F (by first | omega | (have := Nat.mul_le_mul hx hx; omega)) (by decide) dX2_rootOfBuckets_17 (by decide) (fun h17 => by have : 65 * 65 ≤ x * x := Nat.mul_le_mul h17 h17; omega) (fun h17 => ?_)
        refine js_iload_n (pc := 20) 2 F rfl dX2_rootOfBuckets_20 ?_
        refine js_istore_n (pc := 21) (lv2 := [(0, .ref (js_ad y (js_kS j))), (1, .int (nI (x))), (2, .int (nI (x)))]) F dX2_rootOfBuckets_21 (by decide) [1, 0, 2] rfl ?_
        refine js_iinc (pc := 22) (v := nI (x + 1)) (lv2 := [(0, .ref (js_ad y (js_kS j))), (1, .int (nI (x))), (2, .int (nI (x + 1)))]) F dX2_rootOfBuckets_22 2 rfl (nI_add _ _) (by decide) [1, 2, 0] rfl ?_
        refine js_goto (pc := 25) (tgt := 4) F dX2_rootOfBuckets_25 (by decide) ?_
        exact ih4 (x + 1) x (by rcases Nat.lt_or_ge 8 x with q | q <;> first | omega | (have := Nat.mul_le_mul q q; omega)) (rfl) (by omega) (by omega)
  exact L4 (_ + 1) 1 0 (by decide) (rfl) (by omega) (Nat.lt_succ_self _)
theorem lk_X2_toldError_constantLong_RX2_112_100 : Cond.constantLong RX2 112 (100) ∈ wsX2_toldError := by decide +kernel
theorem lk_X2_toldError_constantLong_RX2_120_104 : Cond.constantLong RX2 120 (104) ∈ wsX2_toldError := by decide +kernel
theorem mf_X2_toldError : js_M yX2_toldError cX2_toldError 3 (some .int) wsX2_toldError 0 := ⟨⟨_, rfl⟩, by decide +kernel, by decide +kernel, by decide +kernel, by decide +kernel⟩
set_option maxHeartbeats 4000000 in
set_option maxRecDepth 100000 in
theorem c_X2_toldError (la : Launch) {y : js_L} (hy : js_Dy y) {j : Nat} (hj : j < 55) {G : js_G} {B : Nat} (hB : G (js_kS j) 0 = nI B) (hB6 : B ≤ 6) {rk : Nat → Nat} (hR : ∀ b, b < 2 ^ B → G (js_kR j) b = nI (rk b)) (hK : ∀ b, b < 2 ^ B → rk b ≤ 16) (hB2 : 2 ≤ B) : js_Ci la y yX2_toldError wsX2_toldError 6 122 [.ref (js_ad y (js_kS j))] G (fun r G' => r = nI (jm_err rk (2 ^ B)) ∧ G = G') := by
  have hp : 2 ^ B ≤ 64 := jm_p6 hB6
  have hp1 : 1 ≤ 2 ^ B := jm_p1 B
  have hS1 := jm_S_le rk (2 ^ B)
  have hS2 := jm_S_ge (rk := rk) (m := 2 ^ B) hK
  have hmm : (2 ^ B) * (2 ^ B) ≤ 64 * 64 := Nat.mul_le_mul hp hp
  have hrw := jm_raw_le (m := 2 ^ B) (s := jm_S rk (2 ^ B)) (by omega) hS2 hp
  have hem := jm_fil_emp rk (2 ^ B)
  have hes := jm_est_le (rk := rk) (m := 2 ^ B) (by omega) hp hK
  have hrt := jm_root_le (2 ^ B)
  refine js_ofi mf_X2_toldError (Nat.le_of_ble_eq_true rfl) hy (fun X F hr => ?_)
  replace F : js_F X y cX2_toldError 3 RX2 wsX2_toldError 6 122 := F
  show js_W X y 3 _ G 0 [(0, .ref (js_ad y (js_kS j)))] []
  refine js_ldc2 (pc := 0) (v := lN (100)) F (lk_X2_toldError_constantLong_RX2_112_100) dX2_toldError_0 ?_
  refine js_aload_n (pc := 3) 0 F rfl dX2_toldError_3 ?_
  refine js_calli (pc := 4) F (c_X2_rootOfBuckets _ hy hj (G := G) (B := B) (hB) (by omega) (by omega)) mf_X2_rootOfBuckets gX2_toldError_X2_rootOfBuckets rfl (by decide) (by unfold js_kS; omega) (js_ct_S hj) rfl rfl rfl (Nat.le_of_ble_eq_true rfl) dX2_toldError_4 ?_
  rintro _ _ ⟨rfl, rfl⟩
  refine js_i2lN (pc := 7) F (by omega) dX2_toldError_7 ?_
  refine js_lmulN (pc := 8) (a := 100) (b := jm_root (2 ^ B)) F dX2_toldError_8 ?_
  refine js_lstore_n (pc := 9) (lv2 := [(0, .ref (js_ad y (js_kS j))), (1, .long (lN (100 * (jm_root (2 ^ B)))))]) F dX2_toldError_9 (by decide) [1, 0] rfl ?_
  refine js_lload_n (pc := 10) 1 F rfl dX2_toldError_10 ?_
  refine js_lconst (pc := 11) (v := lN 0) F rfl dX2_toldError_11 ?_
  refine js_lcmp (pc := 12) F dX2_toldError_12 ?_
  refine js_val (v := nI (1)) (jn_lgt (by omega) (by omega)) ?_
  refine js_if_gtN (pc := 13) (a := 1) (tgt := 18) F (by decide) dX2_toldError_13 (by decide) (fun h13 => ?_) (fun h13 => by exfalso; omega)
  refine js_aload_n (pc := 18) 0 F rfl dX2_toldError_18 ?_
  refine js_calli (pc := 19) F (c_X2_estimate _ hy hj (G := G) (B := B) (hB) (by omega) (rk := rk) (hR) (hK)) mf_X2_estimate gX2_toldError_X2_estimate rfl (by decide) (by unfold js_kS; omega) (js_ct_S hj) rfl rfl rfl (Nat.le_of_ble_eq_true rfl) dX2_toldError_19 ?_
  rintro _ _ ⟨rfl, rfl⟩
  refine js_i2lN (pc := 22) F (by omega) dX2_toldError_22 ?_
  refine js_ldc2 (pc := 23) (v := lN (104)) F (lk_X2_toldError_constantLong_RX2_120_104) dX2_toldError_23 ?_
  refine js_lmulN (pc := 26) (a := jm_est rk (2 ^ B)) (b := 104) F dX2_toldError_26 ?_
  refine js_lload_n (pc := 27) 1 F rfl dX2_toldError_27 ?_
  refine js_ldivN (pc := 28) (a := (jm_est rk (2 ^ B)) * 104) (b := 100 * (jm_root (2 ^ B))) F (by omega) (by omega) (by omega) dX2_toldError_28 ?_
  refine js_l2iN (pc := 29) F dX2_toldError_29 ?_
  refine js_iret (pc := 30) F hr (rfl) ?_ dX2_toldError_30
  exact ⟨rfl, rfl⟩
theorem mf_X2_bucketsWithRank : js_M yX2_bucketsWithRank cX2_bucketsWithRank 5 (some .long) wsX2_bucketsWithRank 1 := ⟨⟨_, rfl⟩, by decide +kernel, by decide +kernel, by decide +kernel, by decide +kernel⟩
set_option maxHeartbeats 4000000 in
set_option maxRecDepth 100000 in
theorem c_X2_bucketsWithRank (la : Launch) {y : js_L} (hy : js_Dy y) {j : Nat} (hj : j < 55) {G : js_G} {B : Nat} (hB : G (js_kS j) 0 = nI B) (hB6 : B ≤ 6) {rk : Nat → Nat} (hR : ∀ b, b < 2 ^ B → G (js_kR j) b = nI (rk b)) (hK : ∀ b, b < 2 ^ B → rk b ≤ 16) {q : Nat} (hq : q < 2 ^ 31) : js_Cl la y yX2_bucketsWithRank wsX2_bucketsWithRank 3 54 [.ref (js_ad y (js_kS j)), .int (nI (q))] G (fun r G' => r = jm_set (fun b => decide (rk b = q)) (2 ^ B) ∧ G = G') := by
  have hp : 2 ^ B ≤ 64 := jm_p6 hB6
  have hp1 : 1 ≤ 2 ^ B := jm_p1 B
  refine js_ofl mf_X2_bucketsWithRank (Nat.le_of_ble_eq_true rfl) hy (fun X F hr => ?_)
  replace F : js_F X y cX2_bucketsWithRank 5 RX2 wsX2_bucketsWithRank 3 54 := F
  show js_W X y 5 _ G 0 [(0, .ref (js_ad y (js_kS j))), (1, .int (nI (q)))] []
  refine js_lconst (pc := 0) (v := lN 0) F rfl dX2_bucketsWithRank_0 ?_
  refine js_lstore_n (pc := 1) (lv2 := [(0, .ref (js_ad y (js_kS j))), (1, .int (nI (q))), (2, .long (lN (0)))]) F dX2_bucketsWithRank_1 (by decide) [1, 2, 0] rfl ?_
  refine js_iconst (pc := 2) (v := nI (0)) F (by decide) dX2_bucketsWithRank_2 ?_
  refine js_istore (pc := 3) (lv2 := [(0, .ref (js_ad y (js_kS j))), (1, .int (nI (q))), (2, .long (lN (0))), (4, .int (nI (0)))]) F dX2_bucketsWithRank_3 (by decide) [1, 2, 3, 0] rfl ?_
  have L5 : ∀ (fu5 : Nat) (i : Nat) (w : Int64) (hi : i ≤ 2 ^ B) (hw : w = jm_set (fun b => decide (rk b = q)) i) (hfu5 : 2 ^ B - i < fu5), js_W X y 5 (js_Ql X y (fun r G' => r = jm_set (fun b => decide (rk b = q)) (2 ^ B) ∧ G = G')) G 5 [(0, .ref (js_ad y (js_kS j))), (1, .int (nI (q))), (2, .long (w)), (4, .int (nI (i)))] [] := by
    intro fu5
    induction fu5 with
    | zero => intro i w hi hw hfu5; exact absurd hfu5 (Nat.not_lt_zero _)
    | succ fu5 ih5 =>
      intro i w hi hw hfu5
      refine js_iload (pc := 5) 3 F rfl dX2_bucketsWithRank_5 ?_
      refine js_aload_n (pc := 7) 0 F rfl dX2_bucketsWithRank_7 ?_
      refine js_calli (pc := 8) F (c_X2_buckets _ hy hj (G := G) (B := B) (hB) (by omega)) mf_X2_buckets gX2_bucketsWithRank_X2_buckets rfl (by decide) (by unfold js_kS; omega) (js_ct_S hj) rfl rfl rfl (Nat.le_of_ble_eq_true rfl) dX2_bucketsWithRank_8 ?_
      rintro _ _ ⟨rfl, rfl⟩
      refine js_icmp_geN (pc := 11) (a := i) (b := 2 ^ B) (tgt := 37) F (by first | omega | (have := hK i (by omega); omega)) (by first | omega | (have := hK i (by omega); omega)) dX2_bucketsWithRank_11 (by decide) (fun h11 => ?_) (fun h11 => ?_)
      · skip
        refine js_lload_n (pc := 37) 2 F rfl dX2_bucketsWithRank_37 ?_
        refine js_lret (pc := 38) F hr ?_ dX2_bucketsWithRank_38
        exact ⟨by rw [hw, show i = 2 ^ B by omega], rfl⟩
      · skip
        refine js_aload_n (pc := 14) 0 F rfl dX2_bucketsWithRank_14 ?_
        refine js_iload (pc := 15) 3 F rfl dX2_bucketsWithRank_15 ?_
        refine js_calli (pc := 17) F (c_X2_rankIn _ hy hj (G := G) (B := B) (hB) (by omega) (b := i) (by omega)) mf_X2_rankIn gX2_bucketsWithRank_X2_rankIn rfl (by decide) (by unfold js_kS; omega) (js_ct_S hj) rfl rfl rfl (Nat.le_of_ble_eq_true rfl) dX2_bucketsWithRank_17 ?_
        rintro _ _ ⟨hv17, rfl⟩
        rw [hv17, show G (js_kR j) (i) = nI (rk (i)) from (hR _ (by omega))]
        refine js_iload_n (pc := 20) 1 F rfl dX2_bucketsWithRank_20 ?_
        refine js_icmp_neN (pc := 21) (a := rk (i)) (b := q) (tgt := 31) F (by first | omega | (have := hK i (by omega); omega)) (by first | omega | (have := hK i (by omega); omega)) dX2_bucketsWithRank_21 (by decide) (fun h21 => ?_) (fun h21 => ?_)
        · skip
          refine js_iinc (pc := 31) (v := nI (i + 1)) (lv2 := [(0, .ref (js_ad y (js_kS j))), (1, .int (nI (q))), (2, .long (w)), (4, .int (nI (i + 1)))]) F dX2_bucketsWithRank_31 3 rfl (nI_add _ _) (by decide) [1, 2, 3, 0] rfl ?_
          refine js_goto (pc := 34) (tgt := 5) F dX2_bucketsWithRank_34 (by decide) ?_
          exact ih5 (i + 1) w (by omega) (by rw [jm_set, ← hw]; simp [h21]) (by omega)
        · skip
          refine js_lload_n (pc := 24) 2 F rfl dX2_bucketsWithRank_24 ?_
          refine js_lconst (pc := 25) (v := lN 1) F rfl dX2_bucketsWithRank_25 ?_
          refine js_iload (pc := 26) 3 F rfl dX2_bucketsWithRank_26 ?_
          refine js_lshl (pc := 28) F dX2_bucketsWithRank_28 ?_
          refine js_lor (pc := 29) F dX2_bucketsWithRank_29 ?_
          refine js_lstore_n (pc := 30) (lv2 := [(0, .ref (js_ad y (js_kS j))), (1, .int (nI (q))), (2, .long (w ||| ((lN (1)) <<< ((nI (i)).toInt64 &&& 63)))), (4, .int (nI (i)))]) F dX2_bucketsWithRank_30 (by decide) [1, 2, 0, 3] rfl ?_
          refine js_iinc (pc := 31) (v := nI (i + 1)) (lv2 := [(0, .ref (js_ad y (js_kS j))), (1, .int (nI (q))), (2, .long (w ||| ((lN (1)) <<< ((nI (i)).toInt64 &&& 63)))), (4, .int (nI (i + 1)))]) F dX2_bucketsWithRank_31 3 rfl (nI_add _ _) (by decide) [1, 2, 3, 0] rfl ?_
          refine js_goto (pc := 34) (tgt := 5) F dX2_bucketsWithRank_34 (by decide) ?_
          exact ih5 (i + 1) (w ||| ((lN (1)) <<< ((nI (i)).toInt64 &&& 63))) (by omega) (by rw [jm_set, ← hw]; simp [h21]) (by omega)
  exact L5 (_ + 1) 0 (lN (0)) (Nat.zero_le _) (rfl) (Nat.lt_succ_self _)
theorem mf_X2_sameBuckets : js_M yX2_sameBuckets cX2_sameBuckets 4 (some .int) wsX2_sameBuckets 1 := ⟨⟨_, rfl⟩, by decide +kernel, by decide +kernel, by decide +kernel, by decide +kernel⟩
set_option maxHeartbeats 4000000 in
set_option maxRecDepth 100000 in
theorem c_X2_sameBuckets (la : Launch) {y : js_L} (hy : js_Dy y) {j : Nat} (hj : j < 55) {G : js_G} {B : Nat} (hB : G (js_kS j) 0 = nI B) (hB6 : B ≤ 6) {rk : Nat → Nat} (hR : ∀ b, b < 2 ^ B → G (js_kR j) b = nI (rk b)) (hK : ∀ b, b < 2 ^ B → rk b ≤ 16) {j2 : Nat} (hj2 : j2 < 55) (hB' : G (js_kS j2) 0 = nI B) {rk2 : Nat → Nat} (hR2 : ∀ b, b < 2 ^ B → G (js_kR j2) b = nI (rk2 b)) (hK2 : ∀ b, b < 2 ^ B → rk2 b ≤ 16) : js_Ci la y yX2_sameBuckets wsX2_sameBuckets 3 54 [.ref (js_ad y (js_kS j)), .ref (js_ad y (js_kS j2))] G (fun r G' => r = nI (jm_sum (fun b => if rk b = rk2 b then 1 else 0) (2 ^ B)) ∧ G = G') := by
  have hp : 2 ^ B ≤ 64 := jm_p6 hB6
  have hp1 : 1 ≤ 2 ^ B := jm_p1 B
  refine js_ofi mf_X2_sameBuckets (Nat.le_of_ble_eq_true rfl) hy (fun X F hr => ?_)
  replace F : js_F X y cX2_sameBuckets 4 RX2 wsX2_sameBuckets 3 54 := F
  show js_W X y 4 _ G 0 [(0, .ref (js_ad y (js_kS j))), (1, .ref (js_ad y (js_kS j2)))] []
  refine js_iconst (pc := 0) (v := nI (0)) F (by decide) dX2_sameBuckets_0 ?_
  refine js_istore_n (pc := 1) (lv2 := [(0, .ref (js_ad y (js_kS j))), (1, .ref (js_ad y (js_kS j2))), (2, .int (nI (0)))]) F dX2_sameBuckets_1 (by decide) [1, 2, 0] rfl ?_
  refine js_iconst (pc := 2) (v := nI (0)) F (by decide) dX2_sameBuckets_2 ?_
  refine js_istore_n (pc := 3) (lv2 := [(0, .ref (js_ad y (js_kS j))), (1, .ref (js_ad y (js_kS j2))), (2, .int (nI (0))), (3, .int (nI (0)))]) F dX2_sameBuckets_3 (by decide) [1, 2, 3, 0] rfl ?_
  have L4 : ∀ (fu4 : Nat) (i : Nat) (a : Nat) (hi : i ≤ 2 ^ B) (ha : a = jm_sum (fun b => if rk b = rk2 b then 1 else 0) i) (hfu4 : 2 ^ B - i < fu4), js_W X y 4 (js_Qi X y (fun r G' => r = nI (jm_sum (fun b => if rk b = rk2 b then 1 else 0) (2 ^ B)) ∧ G = G')) G 4 [(0, .ref (js_ad y (js_kS j))), (1, .ref (js_ad y (js_kS j2))), (2, .int (nI (a))), (3, .int (nI (i)))] [] := by
    intro fu4
    induction fu4 with
    | zero => intro i a hi ha hfu4; exact absurd hfu4 (Nat.not_lt_zero _)
    | succ fu4 ih4 =>
      intro i a hi ha hfu4
      refine js_iload_n (pc := 4) 3 F rfl dX2_sameBuckets_4 ?_
      refine js_aload_n (pc := 5) 0 F rfl dX2_sameBuckets_5 ?_
      refine js_calli (pc := 6) F (c_X2_buckets _ hy hj (G := G) (B := B) (hB) (by omega)) mf_X2_buckets gX2_sameBuckets_X2_buckets rfl (by decide) (by unfold js_kS; omega) (js_ct_S hj) rfl rfl rfl (Nat.le_of_ble_eq_true rfl) dX2_sameBuckets_6 ?_
      rintro _ _ ⟨rfl, rfl⟩
      refine js_icmp_geN (pc := 9) (a := i) (b := 2 ^ B) (tgt := 34) F (by first | omega | (have := hK i (by omega); have := hK2 i (by omega); omega)) (by first | omega | (have := hK i (by omega); have := hK2 i (by omega); omega)) dX2_sameBuckets_9 (by decide) (fun h9 => ?_) (fun h9 => ?_)
      · skip
        refine js_iload_n (pc := 34) 2 F rfl dX2_sameBuckets_34 ?_
        refine js_iret (pc := 35) F hr (rfl) ?_ dX2_sameBuckets_35
        exact ⟨by rw [ha, show i = 2 ^ B by omega], rfl⟩
      · skip
        refine js_aload_n (pc := 12) 0 F rfl dX2_sameBuckets_12 ?_
        refine js_iload_n (pc := 13) 3 F rfl dX2_sameBuckets_13 ?_
        refine js_calli (pc := 14) F (c_X2_rankIn _ hy hj (G := G) (B := B) (hB) (by omega) (b := i) (by omega)) mf_X2_rankIn gX2_sameBuckets_X2_rankIn rfl (by decide) (by unfold js_kS; omega) (js_ct_S hj) rfl rfl rfl (Nat.le_of_ble_eq_true rfl) dX2_sameBuckets_14 ?_
        rintro _ _ ⟨hv14, rfl⟩
        rw [hv14, show G (js_kR j) (i) = nI (rk (i)) from (hR _ (by omega))]
        refine js_aload_n (pc := 17) 1 F rfl dX2_sameBuckets_17 ?_
        refine js_iload_n (pc := 18) 3 F rfl dX2_sameBuckets_18 ?_
        refine js_calli (pc := 19) F (c_X2_rankIn _ hy hj2 (G := G) (B := B) (hB') (by omega) (b := i) (by omega)) mf_X2_rankIn gX2_sameBuckets_X2_rankIn rfl (by decide) (by unfold js_kS; omega) (js_ct_S hj2) rfl rfl rfl (Nat.le_of_ble_eq_true rfl) dX2_sameBuckets_19 ?_
        rintro _ _ ⟨hv19, rfl⟩
        rw [hv19, show G (js_kR j2) (i) = nI (rk2 (i)) from (hR2 _ (by omega))]
        refine js_icmp_neN (pc := 22) (a := rk (i)) (b := rk2 (i)) (tgt := 28) F (by first | omega | (have := hK i (by omega); have := hK2 i (by omega); omega)) (by first | omega | (have := hK i (by omega); have := hK2 i (by omega); omega)) dX2_sameBuckets_22 (by decide) (fun h22 => ?_) (fun h22 => ?_)
        · skip
          refine js_iinc (pc := 28) (v := nI (i + 1)) (lv2 := [(0, .ref (js_ad y (js_kS j))), (1, .ref (js_ad y (js_kS j2))), (2, .int (nI (a))), (3, .int (nI (i + 1)))]) F dX2_sameBuckets_28 3 rfl (nI_add _ _) (by decide) [1, 2, 3, 0] rfl ?_
          refine js_goto (pc := 31) (tgt := 4) F dX2_sameBuckets_31 (by decide) ?_
          exact ih4 (i + 1) a (by omega) (by simp only [jm_sum]; rw [← ha]; split <;> omega) (by omega)
        · skip
          refine js_iinc (pc := 25) (v := nI (a + 1)) (lv2 := [(0, .ref (js_ad y (js_kS j))), (1, .ref (js_ad y (js_kS j2))), (2, .int (nI (a + 1))), (3, .int (nI (i)))]) F dX2_sameBuckets_25 2 rfl (nI_add _ _) (by decide) [1, 2, 0, 3] rfl ?_
          refine js_iinc (pc := 28) (v := nI (i + 1)) (lv2 := [(0, .ref (js_ad y (js_kS j))), (1, .ref (js_ad y (js_kS j2))), (2, .int (nI (a + 1))), (3, .int (nI (i + 1)))]) F dX2_sameBuckets_28 3 rfl (nI_add _ _) (by decide) [1, 2, 3, 0] rfl ?_
          refine js_goto (pc := 31) (tgt := 4) F dX2_sameBuckets_31 (by decide) ?_
          exact ih4 (i + 1) (a + 1) (by omega) (by simp only [jm_sum]; rw [← ha]; split <;> omega) (by omega)
  exact L4 (_ + 1) 0 0 (Nat.zero_le _) (rfl) (Nat.lt_succ_self _)
theorem lk_J6_bitCount_0f7a4_constant_RJ6_265_1431655765 : Cond.constant RJ6 265 (1431655765) ∈ wsJ6_bitCount_0f7a4 := by decide +kernel
theorem lk_J6_bitCount_0f7a4_constant_RJ6_266_858993459 : Cond.constant RJ6 266 (858993459) ∈ wsJ6_bitCount_0f7a4 := by decide +kernel
theorem lk_J6_bitCount_0f7a4_constant_RJ6_267_252645135 : Cond.constant RJ6 267 (252645135) ∈ wsJ6_bitCount_0f7a4 := by decide +kernel
theorem mf_J6_bitCount_0f7a4 : js_M yJ6_bitCount_0f7a4 cJ6_bitCount_0f7a4 1 (some .int) wsJ6_bitCount_0f7a4 1 := ⟨⟨_, rfl⟩, by decide +kernel, by decide +kernel, by decide +kernel, by decide +kernel⟩
set_option maxHeartbeats 4000000 in
set_option maxRecDepth 100000 in
theorem c_bitCount (la : Launch) {y : js_L} (hy : js_Dy y) {G : js_G} {x : Int32} : js_Ci la y yJ6_bitCount_0f7a4 wsJ6_bitCount_0f7a4 1 12 [.int (x)] G (fun r G' => r = jm_bc x ∧ G = G') := by
  refine js_ofi mf_J6_bitCount_0f7a4 (Nat.le_of_ble_eq_true rfl) hy (fun X F hr => ?_)
  replace F : js_F X y cJ6_bitCount_0f7a4 1 RJ6 wsJ6_bitCount_0f7a4 1 12 := F
  show js_W X y 1 _ G 0 [(0, .int (x))] []
  refine js_iload_n (pc := 0) 0 F rfl dJ6_bitCount_0f7a4_0 ?_
  refine js_iload_n (pc := 1) 0 F rfl dJ6_bitCount_0f7a4_1 ?_
  refine js_iconst (pc := 2) (v := nI (1)) F (by decide) dJ6_bitCount_0f7a4_2 ?_
  refine js_iushr (pc := 3) F dJ6_bitCount_0f7a4_3 ?_
  refine js_ldcw (pc := 4) (v := nI (1431655765)) F (lk_J6_bitCount_0f7a4_constant_RJ6_265_1431655765) dJ6_bitCount_0f7a4_4 ?_
  refine js_iand (pc := 7) F dJ6_bitCount_0f7a4_7 ?_
  refine js_isub (pc := 8) F dJ6_bitCount_0f7a4_8 ?_
  refine js_val (v := jm_b1 x) (rfl) ?_
  refine js_istore_n (pc := 9) (lv2 := [(0, .int (jm_b1 x))]) F dJ6_bitCount_0f7a4_9 (by decide) [0] rfl ?_
  refine js_iload_n (pc := 10) 0 F rfl dJ6_bitCount_0f7a4_10 ?_
  refine js_ldcw (pc := 11) (v := nI (858993459)) F (lk_J6_bitCount_0f7a4_constant_RJ6_266_858993459) dJ6_bitCount_0f7a4_11 ?_
  refine js_iand (pc := 14) F dJ6_bitCount_0f7a4_14 ?_
  refine js_iload_n (pc := 15) 0 F rfl dJ6_bitCount_0f7a4_15 ?_
  refine js_iconst (pc := 16) (v := nI (2)) F (by decide) dJ6_bitCount_0f7a4_16 ?_
  refine js_iushr (pc := 17) F dJ6_bitCount_0f7a4_17 ?_
  refine js_ldcw (pc := 18) (v := nI (858993459)) F (lk_J6_bitCount_0f7a4_constant_RJ6_266_858993459) dJ6_bitCount_0f7a4_18 ?_
  refine js_iand (pc := 21) F dJ6_bitCount_0f7a4_21 ?_
  refine js_iadd (pc := 22) F dJ6_bitCount_0f7a4_22 ?_
  refine js_val (v := jm_b2 (jm_b1 x)) (rfl) ?_
  refine js_istore_n (pc := 23) (lv2 := [(0, .int (jm_b2 (jm_b1 x)))]) F dJ6_bitCount_0f7a4_23 (by decide) [0] rfl ?_
  refine js_iload_n (pc := 24) 0 F rfl dJ6_bitCount_0f7a4_24 ?_
  refine js_iload_n (pc := 25) 0 F rfl dJ6_bitCount_0f7a4_25 ?_
  refine js_iconst (pc := 26) (v := nI (4)) F (by decide) dJ6_bitCount_0f7a4_26 ?_
  refine js_iushr (pc := 27) F dJ6_bitCount_0f7a4_27 ?_
  refine js_iadd (pc := 28) F dJ6_bitCount_0f7a4_28 ?_
  refine js_ldcw (pc := 29) (v := nI (252645135)) F (lk_J6_bitCount_0f7a4_constant_RJ6_267_252645135) dJ6_bitCount_0f7a4_29 ?_
  refine js_iand (pc := 32) F dJ6_bitCount_0f7a4_32 ?_
  refine js_val (v := jm_b3 (jm_b2 (jm_b1 x))) (rfl) ?_
  refine js_istore_n (pc := 33) (lv2 := [(0, .int (jm_b3 (jm_b2 (jm_b1 x))))]) F dJ6_bitCount_0f7a4_33 (by decide) [0] rfl ?_
  refine js_iload_n (pc := 34) 0 F rfl dJ6_bitCount_0f7a4_34 ?_
  refine js_iload_n (pc := 35) 0 F rfl dJ6_bitCount_0f7a4_35 ?_
  refine js_bipush (pc := 36) (v := nI (8)) F (by decide) dJ6_bitCount_0f7a4_36 ?_
  refine js_iushr (pc := 38) F dJ6_bitCount_0f7a4_38 ?_
  refine js_iadd (pc := 39) F dJ6_bitCount_0f7a4_39 ?_
  refine js_val (v := jm_b4 (jm_b3 (jm_b2 (jm_b1 x)))) (rfl) ?_
  refine js_istore_n (pc := 40) (lv2 := [(0, .int (jm_b4 (jm_b3 (jm_b2 (jm_b1 x)))))]) F dJ6_bitCount_0f7a4_40 (by decide) [0] rfl ?_
  refine js_iload_n (pc := 41) 0 F rfl dJ6_bitCount_0f7a4_41 ?_
  refine js_iload_n (pc := 42) 0 F rfl dJ6_bitCount_0f7a4_42 ?_
  refine js_bipush (pc := 43) (v := nI (16)) F (by decide) dJ6_bitCount_0f7a4_43 ?_
  refine js_iushr (pc := 45) F dJ6_bitCount_0f7a4_45 ?_
  refine js_iadd (pc := 46) F dJ6_bitCount_0f7a4_46 ?_
  refine js_val (v := jm_b5 (jm_b4 (jm_b3 (jm_b2 (jm_b1 x))))) (rfl) ?_
  refine js_istore_n (pc := 47) (lv2 := [(0, .int (jm_b5 (jm_b4 (jm_b3 (jm_b2 (jm_b1 x))))))]) F dJ6_bitCount_0f7a4_47 (by decide) [0] rfl ?_
  refine js_iload_n (pc := 48) 0 F rfl dJ6_bitCount_0f7a4_48 ?_
  refine js_bipush (pc := 49) (v := nI (63)) F (by decide) dJ6_bitCount_0f7a4_49 ?_
  refine js_iand (pc := 51) F dJ6_bitCount_0f7a4_51 ?_
  refine js_iret (pc := 52) F hr (rfl) ?_ dJ6_bitCount_0f7a4_52
  exact ⟨rfl, rfl⟩
theorem mf_J9_floorMod_7cf53 : js_M yJ9_floorMod_7cf53 cJ9_floorMod_7cf53 3 (some .int) wsJ9_floorMod_7cf53 2 := ⟨⟨_, rfl⟩, by decide +kernel, by decide +kernel, by decide +kernel, by decide +kernel⟩
set_option maxHeartbeats 4000000 in
set_option maxRecDepth 100000 in
theorem c_floorMod (la : Launch) {y : js_L} (hy : js_Dy y) {G : js_G} {a b : Nat} (ha : a < 2 ^ 16) (hb : b < 2 ^ 16) (h0 : 0 < b) : js_Ci la y yJ9_floorMod_7cf53 wsJ9_floorMod_7cf53 1 12 [.int (nI (a)), .int (nI (b))] G (fun r G' => r = nI (a % b) ∧ G = G') := by
  have hx1 : a ^^^ b < 2 ^ 16 := Nat.xor_lt_two_pow ha hb
  refine js_ofi mf_J9_floorMod_7cf53 (Nat.le_of_ble_eq_true rfl) hy (fun X F hr => ?_)
  replace F : js_F X y cJ9_floorMod_7cf53 3 RJ9 wsJ9_floorMod_7cf53 1 12 := F
  show js_W X y 3 _ G 0 [(0, .int (nI (a))), (1, .int (nI (b)))] []
  refine js_iload_n (pc := 0) 0 F rfl dJ9_floorMod_7cf53_0 ?_
  refine js_iload_n (pc := 1) 1 F rfl dJ9_floorMod_7cf53_1 ?_
  refine js_iremN (pc := 2) (a := a) (b := b) F (by omega) (by omega) (by omega) dJ9_floorMod_7cf53_2 ?_
  refine js_istore_n (pc := 3) (lv2 := [(0, .int (nI (a))), (1, .int (nI (b))), (2, .int (nI (a % b)))]) F dJ9_floorMod_7cf53_3 (by decide) [1, 2, 0] rfl ?_
  refine js_iload_n (pc := 4) 0 F rfl dJ9_floorMod_7cf53_4 ?_
  refine js_iload_n (pc := 5) 1 F rfl dJ9_floorMod_7cf53_5 ?_
  refine js_ixorN (pc := 6) (a := a) (b := b) F dJ9_floorMod_7cf53_6 ?_
  refine js_if_geN (pc := 7) (a := a ^^^ b) (tgt := 18) F (by omega) dJ9_floorMod_7cf53_7 (by decide) (fun h7 => ?_) (fun h7 => by exact absurd h7 (Nat.not_lt_zero _))
  refine js_iload_n (pc := 18) 2 F rfl dJ9_floorMod_7cf53_18 ?_
  refine js_iret (pc := 19) F hr (rfl) ?_ dJ9_floorMod_7cf53_19
  exact ⟨rfl, rfl⟩
theorem mf_J7_fill_53178 : js_M yJ7_fill_53178 cJ7_fill_53178 4 none wsJ7_fill_53178 2 := ⟨⟨_, rfl⟩, by decide +kernel, by decide +kernel, by decide +kernel, by decide +kernel⟩
set_option maxHeartbeats 4000000 in
set_option maxRecDepth 100000 in
theorem c_fill (la : Launch) {y : js_L} (hy : js_Dy y) {G : js_G} {k0 n0 : Nat} (hk0 : k0 < 199) (he0 : ∀ G2 : js_G, js_ct y G2 k0 = .inl (js_cI y, n0, .inl (G2 k0))) (hn0 : n0 < 2 ^ 31) {x : Int32} : js_Cv la y yJ7_fill_53178 wsJ7_fill_53178 1 12 [.ref (js_ad y (k0)), .int (x)] G (fun G' => js_up G k0 (fun j => if j < n0 then x else G k0 j) = G') := by
  refine js_ofv mf_J7_fill_53178 (Nat.le_of_ble_eq_true rfl) hy (fun X F hr => ?_)
  replace F : js_F X y cJ7_fill_53178 4 RJ7 wsJ7_fill_53178 1 12 := F
  show js_W X y 4 _ G 0 [(0, .ref (js_ad y (k0))), (1, .int (x))] []
  refine js_iconst (pc := 0) (v := nI (0)) F (by decide) dJ7_fill_53178_0 ?_
  refine js_istore_n (pc := 1) (lv2 := [(0, .ref (js_ad y (k0))), (1, .int (x)), (2, .int (nI (0)))]) F dJ7_fill_53178_1 (by decide) [1, 2, 0] rfl ?_
  refine js_aload_n (pc := 2) 0 F rfl dJ7_fill_53178_2 ?_
  refine js_alen (pc := 3) (t0 := 0) F hk0 (he0 _) rfl dJ7_fill_53178_3 ?_
  refine js_istore_n (pc := 4) (lv2 := [(0, .ref (js_ad y (k0))), (1, .int (x)), (2, .int (nI (0))), (3, .int (nI (n0)))]) F dJ7_fill_53178_4 (by decide) [1, 2, 3, 0] rfl ?_
  have L5 : ∀ (fu5 : Nat) (i : Nat) (G1 : js_G) (hi : i ≤ n0) (hG : G1 = js_up G k0 (fun j => if j < i then x else G k0 j)) (hfu5 : n0 - i < fu5), js_W X y 4 (js_Qv X y (fun G' => js_up G k0 (fun j => if j < n0 then x else G k0 j) = G')) G1 5 [(0, .ref (js_ad y (k0))), (1, .int (x)), (2, .int (nI (i))), (3, .int (nI (n0)))] [] := by
    intro fu5
    induction fu5 with
    | zero => intro i G1 hi hG hfu5; exact absurd hfu5 (Nat.not_lt_zero _)
    | succ fu5 ih5 =>
      intro i G1 hi hG hfu5
      refine js_iload_n (pc := 5) 2 F rfl dJ7_fill_53178_5 ?_
      refine js_iload_n (pc := 6) 3 F rfl dJ7_fill_53178_6 ?_
      refine js_icmp_geN (pc := 7) (a := i) (b := n0) (tgt := 20) F (by omega) (by omega) dJ7_fill_53178_7 (by decide) (fun h7 => ?_) (fun h7 => ?_)
      · skip
        refine js_vret (pc := 20) F hr ?_ dJ7_fill_53178_20
        show _ = G1
        rw [hG, show i = n0 by omega]
      · skip
        refine js_aload_n (pc := 10) 0 F rfl dJ7_fill_53178_10 ?_
        refine js_iload_n (pc := 11) 2 F rfl dJ7_fill_53178_11 ?_
        refine js_iload_n (pc := 12) 1 F rfl dJ7_fill_53178_12 ?_
        refine js_iast (pc := 13) (j := i) F hk0 (fun _ => he0 _) rfl (by omega) hn0 dJ7_fill_53178_13 ?_
        refine js_iinc (pc := 14) (v := nI (i + 1)) (lv2 := [(0, .ref (js_ad y (k0))), (1, .int (x)), (2, .int (nI (i + 1))), (3, .int (nI (n0)))]) F dJ7_fill_53178_14 2 rfl (nI_add _ _) (by decide) [1, 2, 0, 3] rfl ?_
        refine js_goto (pc := 17) (tgt := 5) F dJ7_fill_53178_17 (by decide) ?_
        exact ih5 (i + 1) (js_st G1 (k0) (i) (x)) (by omega) (by rw [hG]; exact jm_fill_s G k0 i x) (by omega)
  exact L5 (_ + 1) 0 G (Nat.zero_le _) (jm_fill_0 G k0 x) (Nat.lt_succ_self _)
theorem in_X2_rankOf_2 : ∀ w ∈ wsX20, w ∈ wsX2_rankOf := by decide +kernel
theorem lk_X2_rankOf_fieldLink_RX2_9_JoinedSketches_Sketch_bits_I : Cond.fieldLink RX2 9 "JoinedSketches$Sketch" "bits" "I" ∈ wsX2_rankOf := by decide +kernel
theorem mf_X2_rankOf : js_M yX2_rankOf cX2_rankOf 4 (some .int) wsX2_rankOf 1 := ⟨⟨_, rfl⟩, by decide +kernel, by decide +kernel, by decide +kernel, by decide +kernel⟩
set_option maxHeartbeats 4000000 in
set_option maxRecDepth 100000 in
theorem c_X2_rankOf (la : Launch) {y : js_L} (hy : js_Dy y) {j : Nat} (hj : j < 55) {G : js_G} {B : Nat} (hB : G (js_kS j) 0 = nI B) (hB6 : B ≤ 6) {h : Nat} (hh : h < 65536) : js_Ci la y yX2_rankOf wsX2_rankOf 2 32 [.ref (js_ad y (js_kS j)), .int (nI (h))] G (fun r G' => r = nI (jm_rank h B) ∧ G = G') := by
  have hp : 2 ^ B ≤ 64 := jm_p6 hB6
  have hp1 : 1 ≤ 2 ^ B := jm_p1 B
  have hl1 := jm_left_lt hh (Nat.le_trans hB6 (by decide))
  have hl2 : h / 2 ^ B < 65536 := Nat.lt_of_le_of_lt (Nat.div_le_self _ _) hh
  refine js_ofi mf_X2_rankOf (Nat.le_of_ble_eq_true rfl) hy (fun X F hr => ?_)
  replace F : js_F X y cX2_rankOf 4 RX2 wsX2_rankOf 2 32 := F
  show js_W X y 4 _ G 0 [(0, .ref (js_ad y (js_kS j))), (1, .int (nI (h)))] []
  refine js_iload_n (pc := 0) 1 F rfl dX2_rankOf_0 ?_
  refine js_aload_n (pc := 1) 0 F rfl dX2_rankOf_1 ?_
  refine jg_S_bits (pc := 2) (v := nI (B)) F in_X2_rankOf_2 hj (lk_X2_rankOf_fieldLink_RX2_9_JoinedSketches_Sketch_bits_I) (hB) dX2_rankOf_2 ?_
  refine js_ishrN (pc := 5) (a := h) (b := B) F (by omega) (by omega) dX2_rankOf_5 ?_
  refine js_istore_n (pc := 6) (lv2 := [(0, .ref (js_ad y (js_kS j))), (1, .int (nI (h))), (2, .int (nI (h / 2 ^ B)))]) F dX2_rankOf_6 (by decide) [1, 2, 0] rfl ?_
  refine js_iload_n (pc := 7) 2 F rfl dX2_rankOf_7 ?_
  refine js_if_neN (pc := 8) (a := h / 2 ^ B) (tgt := 19) F (by omega) dX2_rankOf_8 (by decide) (fun h8 => ?_) (fun h8 => ?_)
  · skip
    refine js_iload_n (pc := 19) 2 F rfl dX2_rankOf_19 ?_
    refine js_iload_n (pc := 20) 2 F rfl dX2_rankOf_20 ?_
    refine js_ineg (pc := 21) F dX2_rankOf_21 ?_
    refine js_iand (pc := 22) F dX2_rankOf_22 ?_
    refine js_iconst (pc := 23) (v := nI (1)) F (by decide) dX2_rankOf_23 ?_
    refine js_isub (pc := 24) F dX2_rankOf_24 ?_
    refine js_callsi (pc := 25) F (c_bitCount _ hy (x := ((nI (h / 2 ^ B)) &&& (-(nI (h / 2 ^ B)))) - (nI (1)))) mf_J6_bitCount_0f7a4 gX2_rankOf_J6_bitCount_0f7a4 (by decide) rfl rfl (Nat.le_of_ble_eq_true rfl) dX2_rankOf_25 ?_
    rintro _ _ ⟨rfl, rfl⟩
    refine js_val (v := nI (jm_ctz 16 (h / 2 ^ B))) (jm_bc_low (Nat.pos_of_ne_zero h8) hl2) ?_
    refine js_istore_n (pc := 28) (lv2 := [(0, .ref (js_ad y (js_kS j))), (1, .int (nI (h))), (2, .int (nI (h / 2 ^ B))), (3, .int (nI (jm_ctz 16 (h / 2 ^ B))))]) F dX2_rankOf_28 (by decide) [1, 2, 3, 0] rfl ?_
    refine js_iconst (pc := 29) (v := nI (1)) F (by decide) dX2_rankOf_29 ?_
    refine js_iload_n (pc := 30) 3 F rfl dX2_rankOf_30 ?_
    refine js_iaddN (pc := 31) (a := 1) (b := jm_ctz 16 (h / 2 ^ B)) F dX2_rankOf_31 ?_
    refine js_iret (pc := 32) F hr (rfl) ?_ dX2_rankOf_32
    exact ⟨by rw [jm_rank, if_neg h8], rfl⟩
  · skip
    refine js_bipush (pc := 11) (v := nI (17)) F (by decide) dX2_rankOf_11 ?_
    refine js_aload_n (pc := 13) 0 F rfl dX2_rankOf_13 ?_
    refine jg_S_bits (pc := 14) (v := nI (B)) F in_X2_rankOf_2 hj (lk_X2_rankOf_fieldLink_RX2_9_JoinedSketches_Sketch_bits_I) (hB) dX2_rankOf_14 ?_
    refine js_isubN (pc := 17) (a := 17) (b := B) F (by omega) dX2_rankOf_17 ?_
    refine js_iret (pc := 18) F hr (rfl) ?_ dX2_rankOf_18
    exact ⟨by rw [jm_rank, if_pos h8], rfl⟩
