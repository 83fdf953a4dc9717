theorem in_X2_buckets_2 : ∀ w ∈ wsX20, w ∈ wsX2_buckets := by decide +kernel
theorem lk_X2_buckets_fieldLink_RX2_9_JoinedSketches_Sketch_bits_I : Cond.fieldLink RX2 9 "JoinedSketches$Sketch" "bits" "I" ∈ wsX2_buckets := by decide +kernel
theorem mf_X2_buckets : js_M yX2_buckets cX2_buckets 1 (some .int) wsX2_buckets 0 := ⟨⟨_, rfl⟩, by decide +kernel, by decide +kernel, by decide +kernel, by decide +kernel⟩
set_option maxHeartbeats 4000000 in
set_option maxRecDepth 100000 in
theorem c_X2_buckets (la : Launch) {y : js_L} (hy : js_Dy y) {j : Nat} (hj : j < 55) {G : js_G} {B : Nat} (hB : G (js_kS j) 0 = nI B) (hB6 : B ≤ 6) : js_Ci la y yX2_buckets wsX2_buckets 1 12 [.ref (js_ad y (js_kS j))] G (fun r G' => r = nI (2 ^ B) ∧ G = G') := by
  have hp : 2 ^ B ≤ 64 := jm_p6 hB6
  have hp1 : 1 ≤ 2 ^ B := jm_p1 B
  refine js_ofi mf_X2_buckets (Nat.le_of_ble_eq_true rfl) hy (fun X F hr => ?_)
  replace F : js_F X y cX2_buckets 1 RX2 wsX2_buckets 1 12 := F
  show js_W X y 1 _ G 0 [(0, .ref (js_ad y (js_kS j)))] []
  refine js_iconst (pc := 0) (v := nI (1)) F (by decide) dX2_buckets_0 ?_
  refine js_aload_n (pc := 1) 0 F rfl dX2_buckets_1 ?_
  refine jg_S_bits (pc := 2) (v := nI (B)) F in_X2_buckets_2 hj (lk_X2_buckets_fieldLink_RX2_9_JoinedSketches_Sketch_bits_I) (hB) dX2_buckets_2 ?_
  refine js_ishlN (pc := 5) (a := 1) (b := B) F (by omega) (by omega) dX2_buckets_5 ?_
  refine js_iret (pc := 6) F hr (rfl) ?_ dX2_buckets_6
  exact ⟨by rw [Nat.one_mul], rfl⟩
theorem in_X2_hasBucket_2 : ∀ w ∈ wsX20, w ∈ wsX2_hasBucket := by decide +kernel
theorem lk_X2_hasBucket_fieldLink_RX2_15_JoinedSketches_Sketch_ranks_I : Cond.fieldLink RX2 15 "JoinedSketches$Sketch" "ranks" "[I" ∈ wsX2_hasBucket := by decide +kernel
theorem lk_X2_hasBucket_fieldLink_RX2_9_JoinedSketches_Sketch_bits_I : Cond.fieldLink RX2 9 "JoinedSketches$Sketch" "bits" "I" ∈ wsX2_hasBucket := by decide +kernel
theorem mf_X2_hasBucket : js_M yX2_hasBucket cX2_hasBucket 2 (some .boolean) wsX2_hasBucket 1 := ⟨⟨_, rfl⟩, by decide +kernel, by decide +kernel, by decide +kernel, by decide +kernel⟩
set_option maxHeartbeats 4000000 in
set_option maxRecDepth 100000 in
theorem c_X2_hasBucket (la : Launch) {y : js_L} (hy : js_Dy y) {j : Nat} (hj : j < 55) {G : js_G} {B : Nat} (hB : G (js_kS j) 0 = nI B) (hB6 : B ≤ 6) {b : Nat} (hb : b < 2 ^ 31) : js_Ci la y yX2_hasBucket wsX2_hasBucket 1 12 [.ref (js_ad y (js_kS j)), .int (nI (b))] G (fun r G' => r = nI (if b < 2 ^ B then 1 else 0) ∧ G = G') := by
  have hp : 2 ^ B ≤ 64 := jm_p6 hB6
  have hp1 : 1 ≤ 2 ^ B := jm_p1 B
  refine js_ofi mf_X2_hasBucket (Nat.le_of_ble_eq_true rfl) hy (fun X F hr => ?_)
  replace F : js_F X y cX2_hasBucket 2 RX2 wsX2_hasBucket 1 12 := F
  show js_W X y 2 _ G 0 [(0, .ref (js_ad y (js_kS j))), (1, .int (nI (b)))] []
  refine js_iload_n (pc := 0) 1 F rfl dX2_hasBucket_0 ?_
  refine js_if_ltN (pc := 1) (a := b) (tgt := 27) F (by omega) dX2_hasBucket_1 (by decide) (fun h1 => by exact absurd h1 (Nat.not_lt_zero _)) (fun h1 => ?_)
  refine js_iload_n (pc := 4) 1 F rfl dX2_hasBucket_4 ?_
  refine js_iconst (pc := 5) (v := nI (1)) F (by decide) dX2_hasBucket_5 ?_
  refine js_aload_n (pc := 6) 0 F rfl dX2_hasBucket_6 ?_
  refine jg_S_bits (pc := 7) (v := nI (B)) F in_X2_hasBucket_2 hj (lk_X2_hasBucket_fieldLink_RX2_9_JoinedSketches_Sketch_bits_I) (hB) dX2_hasBucket_7 ?_
  refine js_ishlN (pc := 10) (a := 1) (b := B) F (by omega) (by omega) dX2_hasBucket_10 ?_
  refine js_icmp_geN (pc := 11) (a := b) (b := 1 * 2 ^ B) (tgt := 27) F (by omega) (by omega) dX2_hasBucket_11 (by decide) (fun h11 => ?_) (fun h11 => ?_)
  · skip
    refine js_iconst (pc := 27) (v := nI (0)) F (by decide) dX2_hasBucket_27 ?_
    refine js_iret (pc := 28) F hr (rfl) ?_ dX2_hasBucket_28
    exact ⟨by rw [if_neg (by omega)], rfl⟩
  · skip
    refine js_iload_n (pc := 14) 1 F rfl dX2_hasBucket_14 ?_
    refine js_aload_n (pc := 15) 0 F rfl dX2_hasBucket_15 ?_
    refine jg_S_ranks (pc := 16) F in_X2_hasBucket_2 hj (lk_X2_hasBucket_fieldLink_RX2_15_JoinedSketches_Sketch_ranks_I) dX2_hasBucket_16 ?_
    refine js_alen (pc := 19) (t0 := 0) F (by unfold js_kR; omega) (js_ct_R hj) rfl dX2_hasBucket_19 ?_
    refine js_icmp_geN (pc := 20) (a := b) (b := 64) (tgt := 27) F (by omega) (by decide) dX2_hasBucket_20 (by decide) (fun h20 => ?_) (fun h20 => ?_)
    · skip
      refine js_iconst (pc := 27) (v := nI (0)) F (by decide) dX2_hasBucket_27 ?_
      refine js_iret (pc := 28) F hr (rfl) ?_ dX2_hasBucket_28
      exact ⟨by rw [if_neg (by omega)], rfl⟩
    · skip
      refine js_iconst (pc := 23) (v := nI (1)) F (by decide) dX2_hasBucket_23 ?_
      refine js_goto (pc := 24) (tgt := 28) F dX2_hasBucket_24 (by decide) ?_
      refine js_iret (pc := 28) F hr (rfl) ?_ dX2_hasBucket_28
      exact ⟨by rw [if_pos (by omega)], rfl⟩
set_option maxHeartbeats 4000000 in
set_option maxRecDepth 100000 in
theorem c_X2_hasBucket_neg (la : Launch) {y : js_L} (hy : js_Dy y) {j : Nat} (hj : j < 55) {G : js_G} {x : Int32} (hx : x < 0) : js_Ci la y yX2_hasBucket wsX2_hasBucket 1 12 [.ref (js_ad y (js_kS j)), .int (x)] G (fun r G' => r = nI 0 ∧ G = G') := by
  refine js_ofi mf_X2_hasBucket (Nat.le_of_ble_eq_true rfl) hy (fun X F hr => ?_)
  replace F : js_F X y cX2_hasBucket 2 RX2 wsX2_hasBucket 1 12 := F
  show js_W X y 2 _ G 0 [(0, .ref (js_ad y (js_kS j))), (1, .int (x))] []
  refine js_iload_n (pc := 0) 1 F rfl dX2_hasBucket_0 ?_
  refine js_if_lt (pc := 1) (tgt := 27) F dX2_hasBucket_1 (by decide) (fun h1 => ?_) (fun h1 => by exact absurd hx h1)
  refine js_iconst (pc := 27) (v := nI (0)) F (by decide) dX2_hasBucket_27 ?_
  refine js_iret (pc := 28) F hr (rfl) ?_ dX2_hasBucket_28
  exact ⟨rfl, rfl⟩
theorem in_X2_rankIn_2 : ∀ w ∈ wsX20, w ∈ wsX2_rankIn := by decide +kernel
theorem lk_X2_rankIn_fieldLink_RX2_15_JoinedSketches_Sketch_ranks_I : Cond.fieldLink RX2 15 "JoinedSketches$Sketch" "ranks" "[I" ∈ wsX2_rankIn := by decide +kernel
theorem mf_X2_rankIn : js_M yX2_rankIn cX2_rankIn 2 (some .int) wsX2_rankIn 1 := ⟨⟨_, rfl⟩, by decide +kernel, by decide +kernel, by decide +kernel, by decide +kernel⟩
set_option maxHeartbeats 4000000 in
set_option maxRecDepth 100000 in
theorem c_X2_rankIn (la : Launch) {y : js_L} (hy : js_Dy y) {j : Nat} (hj : j < 55) {G : js_G} {B : Nat} (hB : G (js_kS j) 0 = nI B) (hB6 : B ≤ 6) {b : Nat} (hb : b < 2 ^ B) : js_Ci la y yX2_rankIn wsX2_rankIn 2 33 [.ref (js_ad y (js_kS j)), .int (nI (b))] G (fun r G' => r = G (js_kR j) b ∧ G = G') := by
  have hp : 2 ^ B ≤ 64 := jm_p6 hB6
  have hp1 : 1 ≤ 2 ^ B := jm_p1 B
  refine js_ofi mf_X2_rankIn (Nat.le_of_ble_eq_true rfl) hy (fun X F hr => ?_)
  replace F : js_F X y cX2_rankIn 2 RX2 wsX2_rankIn 2 33 := F
  show js_W X y 2 _ G 0 [(0, .ref (js_ad y (js_kS j))), (1, .int (nI (b)))] []
  refine js_aload_n (pc := 0) 0 F rfl dX2_rankIn_0 ?_
  refine js_iload_n (pc := 1) 1 F rfl dX2_rankIn_1 ?_
  refine js_calli (pc := 2) F (c_X2_hasBucket _ hy hj (G := G) (B := B) (hB) (by omega) (b := b) (by omega)) mf_X2_hasBucket gX2_rankIn_X2_hasBucket rfl (by decide) (by unfold js_kS; omega) (js_ct_S hj) rfl rfl rfl (Nat.le_of_ble_eq_true rfl) dX2_rankIn_2 ?_
  rintro _ _ ⟨rfl, rfl⟩
  refine js_if_eqB (pc := 5) (tgt := 17) F dX2_rankIn_5 (by decide) (fun h5 => by exact absurd hb h5) (fun h5 => ?_)
  refine js_aload_n (pc := 8) 0 F rfl dX2_rankIn_8 ?_
  refine jg_S_ranks (pc := 9) F in_X2_rankIn_2 hj (lk_X2_rankIn_fieldLink_RX2_15_JoinedSketches_Sketch_ranks_I) dX2_rankIn_9 ?_
  refine js_iload_n (pc := 12) 1 F rfl dX2_rankIn_12 ?_
  refine js_iald (pc := 13) (j := b) (v := G (js_kR j) (b)) F (by unfold js_kR; omega) (js_ct_R hj) rfl (by omega) (by decide) (rfl) dX2_rankIn_13 ?_
  refine js_goto (pc := 14) (tgt := 18) F dX2_rankIn_14 (by decide) ?_
  refine js_iret (pc := 18) F hr (rfl) ?_ dX2_rankIn_18
  exact ⟨rfl, rfl⟩
theorem mf_X2_bucketOf : js_M yX2_bucketOf cX2_bucketOf 2 (some .int) wsX2_bucketOf 1 := ⟨⟨_, rfl⟩, by decide +kernel, by decide +kernel, by decide +kernel, by decide +kernel⟩
set_option maxHeartbeats 4000000 in
set_option maxRecDepth 100000 in
theorem c_X2_bucketOf (la : Launch) {y : js_L} (hy : js_Dy y) {j : Nat} (hj : j < 55) {G : js_G} {B : Nat} (hB : G (js_kS j) 0 = nI B) (hB6 : B ≤ 6) {h : Nat} (hh : h < 65536) : js_Ci la y yX2_bucketOf wsX2_bucketOf 2 32 [.ref (js_ad y (js_kS j)), .int (nI (h))] G (fun r G' => r = nI (h % 2 ^ B) ∧ G = G') := by
  have hp : 2 ^ B ≤ 64 := jm_p6 hB6
  have hp1 : 1 ≤ 2 ^ B := jm_p1 B
  refine js_ofi mf_X2_bucketOf (Nat.le_of_ble_eq_true rfl) hy (fun X F hr => ?_)
  replace F : js_F X y cX2_bucketOf 2 RX2 wsX2_bucketOf 2 32 := F
  show js_W X y 2 _ G 0 [(0, .ref (js_ad y (js_kS j))), (1, .int (nI (h)))] []
  refine js_iload_n (pc := 0) 1 F rfl dX2_bucketOf_0 ?_
  refine js_aload_n (pc := 1) 0 F rfl dX2_bucketOf_1 ?_
  refine js_calli (pc := 2) F (c_X2_buckets _ hy hj (G := G) (B := B) (hB) (by omega)) mf_X2_buckets gX2_bucketOf_X2_buckets rfl (by decide) (by unfold js_kS; omega) (js_ct_S hj) rfl rfl rfl (Nat.le_of_ble_eq_true rfl) dX2_bucketOf_2 ?_
  rintro _ _ ⟨rfl, rfl⟩
  refine js_iconst (pc := 5) (v := nI (1)) F (by decide) dX2_bucketOf_5 ?_
  refine js_isubN (pc := 6) (a := 2 ^ B) (b := 1) F (by omega) dX2_bucketOf_6 ?_
  refine js_iandN (pc := 7) (a := h) (b := (2 ^ B) - 1) F dX2_bucketOf_7 ?_
  refine js_iret (pc := 8) F hr (rfl) ?_ dX2_bucketOf_8
  exact ⟨by rw [Nat.and_two_pow_sub_one_eq_mod], rfl⟩
