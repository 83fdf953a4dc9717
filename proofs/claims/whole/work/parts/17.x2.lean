theorem c_sk_ok (la : Launch) {y : js_L} (hy : js_Dy y) {G : js_G} {i : Nat} (hi : i < 6) : js_Cq la y yX3_sketchAt wsX3_sketchAt 1 12 [.ref (js_ad y (js_kA 0)), .int (nI i)] G (fun r G' => r = some (js_ad y (js_kS i)) ∧ G = G') := by
  have h := c_X3_sketchAt la hy (t := 0) (by decide) (G := G) hi
  rw [Nat.mul_zero, Nat.zero_add] at h
  exact h
theorem c_sk_bad (la : Launch) {y : js_L} (hy : js_Dy y) {G : js_G} {x : Int32} (hx : jb x 6) : js_Cq la y yX3_sketchAt wsX3_sketchAt 1 12 [.ref (js_ad y (js_kA 0)), .int x] G (fun r G' => r = none ∧ G = G') := by
  rcases hx with h | h
  · exact c_X3_sketchAt_neg la hy (by decide) h
  · exact c_X3_sketchAt_big la hy (by decide) h
theorem lk_X4_salt_constant_RX4_45_65536 : Cond.constant RX4 45 (65536) ∈ wsX4_salt := by decide +kernel
theorem mf_X4_salt : js_M yX4_salt cX4_salt 3 (some .int) wsX4_salt 1 := ⟨⟨_, rfl⟩, by decide +kernel, by decide +kernel, by decide +kernel, by decide +kernel⟩
set_option maxHeartbeats 4000000 in
set_option maxRecDepth 100000 in
theorem c_X4_salt_1 (la : Launch) {y : js_L} (hy : js_Dy y) {G : js_G} {c : js_C} (hC : jr_C G c) {x : Int32} (hx : jb x 65536) : js_Ci la y yX4_salt wsX4_salt 5 122 [.ref (js_ad y (190)), .int (x)] G (fun r G' => jP (ms_salt c x) r G G') := by
  refine js_ofi mf_X4_salt (Nat.le_of_ble_eq_true rfl) hy (fun X F hr => ?_)
  replace F : js_F X y cX4_salt 3 RX4 wsX4_salt 5 122 := F
  show js_W X y 3 _ G 0 [(0, .ref (js_ad y (190))), (1, .int (x))] []
  refine js_iload_n (pc := 0) 1 F rfl dX4_salt_0 ?_
  refine js_if_lt (pc := 1) (tgt := 10) F dX4_salt_1 (by decide) (fun h1 => ?_) (fun h1 => ?_)
  · skip
    refine js_bipush (pc := 10) (v := (-2)) F (by decide) dX4_salt_10 ?_
    refine js_iret (pc := 12) F hr (rfl) ?_ dX4_salt_12
    show jP (ms_salt c x) _ _ _
    rw [show ms_salt c x = (-2, c) from if_pos hx]
    exact ⟨rfl, hC, js_frX.rf⟩
  · skip
    refine js_iload_n (pc := 4) 1 F rfl dX4_salt_4 ?_
    refine js_ldc (pc := 5) (v := nI (65536)) F (lk_X4_salt_constant_RX4_45_65536) dX4_salt_5 ?_
    refine js_icmp_lt (pc := 7) (tgt := 13) F dX4_salt_7 (by decide) (fun h7 => by exact absurd h7 (fun q => by rcases hx with z | z; exact h1 z; have a := Int32.lt_iff_toInt_lt.mp q; have b := Int32.le_iff_toInt_le.mp z; omega)) (fun h7 => ?_)
    refine js_bipush (pc := 10) (v := (-2)) F (by decide) dX4_salt_10 ?_
    refine js_iret (pc := 12) F hr (rfl) ?_ dX4_salt_12
    show jP (ms_salt c x) _ _ _
    rw [show ms_salt c x = (-2, c) from if_pos hx]
    exact ⟨rfl, hC, js_frX.rf⟩
theorem in_X4_salt_3 : ∀ w ∈ wsX30, w ∈ wsX4_salt := by decide +kernel
theorem in_X4_salt_4 : ∀ w ∈ wsX40, w ∈ wsX4_salt := by decide +kernel
theorem lk_X4_salt_fieldLink_RX4_10_JoinedSketches_now_LJoinedSketches_State : Cond.fieldLink RX4 10 "JoinedSketches" "now" "LJoinedSketches$State;" ∈ wsX4_salt := by decide +kernel
theorem lk_X4_salt_fieldLink_RX4_19_JoinedSketches_history_LJoinedSketches_History : Cond.fieldLink RX4 19 "JoinedSketches" "history" "LJoinedSketches$History;" ∈ wsX4_salt := by decide +kernel
set_option maxHeartbeats 4000000 in
set_option maxRecDepth 100000 in
theorem c_X4_salt_2 (la : Launch) {y : js_L} (hy : js_Dy y) {G : js_G} {c : js_C} (hC : jr_C G c) {v : Nat} (hv : v < 65536) : js_Ci la y yX4_salt wsX4_salt 5 122 [.ref (js_ad y (190)), .int (nI (v))] G (fun r G' => jP (ms_salt c (nI v)) r G G') := by
  refine js_ofi mf_X4_salt (Nat.le_of_ble_eq_true rfl) hy (fun X F hr => ?_)
  replace F : js_F X y cX4_salt 3 RX4 wsX4_salt 5 122 := F
  show js_W X y 3 _ G 0 [(0, .ref (js_ad y (190))), (1, .int (nI (v)))] []
  refine js_iload_n (pc := 0) 1 F rfl dX4_salt_0 ?_
  refine js_if_ltN (pc := 1) (a := v) (tgt := 10) F (by omega) dX4_salt_1 (by decide) (fun h1 => by exact absurd h1 (Nat.not_lt_zero _)) (fun h1 => ?_)
  refine js_iload_n (pc := 4) 1 F rfl dX4_salt_4 ?_
  refine js_ldc (pc := 5) (v := nI (65536)) F (lk_X4_salt_constant_RX4_45_65536) dX4_salt_5 ?_
  refine js_icmp_ltN (pc := 7) (a := v) (b := 65536) (tgt := 13) F (by omega) (by decide) dX4_salt_7 (by decide) (fun h7 => ?_) (fun h7 => by exfalso; omega)
  refine js_aload_n (pc := 13) 0 F rfl dX4_salt_13 ?_
  refine jg_X_history (pc := 14) F in_X4_salt_4 (lk_X4_salt_fieldLink_RX4_19_JoinedSketches_history_LJoinedSketches_History) dX4_salt_14 ?_
  refine js_aload_n (pc := 17) 0 F rfl dX4_salt_17 ?_
  refine jg_X_now (pc := 18) F in_X4_salt_4 (lk_X4_salt_fieldLink_RX4_10_JoinedSketches_now_LJoinedSketches_State) dX4_salt_18 ?_
  refine js_callv (pc := 21) F (c_X0_record _ hy (h := c.2.1) hC.2.1 hC.1) mf_X0_record gX4_salt_X0_record rfl (by decide) (by decide) (js_ct_H) rfl rfl rfl (Nat.le_of_ble_eq_true rfl) dX4_salt_21 ?_
  rintro G1 ⟨q1, q2⟩
  have hC1 := hC.rec q1 q2
  refine js_aload_n (pc := 24) 0 F rfl dX4_salt_24 ?_
  refine jg_X_now (pc := 25) F in_X4_salt_4 (lk_X4_salt_fieldLink_RX4_10_JoinedSketches_now_LJoinedSketches_State) dX4_salt_25 ?_
  refine jgN_4_50 (pc := 28) (v := nI (c.1.1)) F in_X4_salt_3 (by decide) (hC1.1.1) dX4_salt_28 ?_
  refine js_istore_n (pc := 31) (lv2 := [(0, .ref (js_ad y (190))), (1, .int (nI (v))), (2, .int (nI (c.1.1)))]) F dX4_salt_31 (by decide) [1, 2, 0] rfl ?_
  refine js_aload_n (pc := 32) 0 F rfl dX4_salt_32 ?_
  refine jg_X_now (pc := 33) F in_X4_salt_4 (lk_X4_salt_fieldLink_RX4_10_JoinedSketches_now_LJoinedSketches_State) dX4_salt_33 ?_
  refine js_iload_n (pc := 36) 1 F rfl dX4_salt_36 ?_
  refine js_callv (pc := 37) F (c_X3_changeSalt _ hy (t := 0) (by decide) (G := G1) hC1.1 (v := v) hv) mf_X3_changeSalt gX4_salt_X3_changeSalt rfl (by decide) (by unfold js_kA; omega) (js_ct_A (by decide)) rfl rfl rfl (Nat.le_of_ble_eq_true rfl) dX4_salt_37 ?_
  rintro G2 ⟨p1, p2⟩
  refine js_iload_n (pc := 40) 2 F rfl dX4_salt_40 ?_
  refine js_iret (pc := 41) F hr (rfl) ?_ dX4_salt_41
  show jP (ms_salt c (nI v)) _ _ _
  rw [show ms_salt c (nI v) = (nI c.1.1, jm_chg c (v, fun i => jm_e (c.1.2 i))) from by unfold ms_salt; rw [if_neg (jb_no hv (by decide)), jx (by omega)]]
  exact ⟨rfl, hC1.now (js_fn.ofT p2) p1, (js_frX.ofH q2).tr (js_frX.ofT p2 (by decide))⟩
theorem in_X4_bits_4 : ∀ w ∈ wsX40, w ∈ wsX4_bits := by decide +kernel
theorem lk_X4_bits_fieldLink_RX4_10_JoinedSketches_now_LJoinedSketches_State : Cond.fieldLink RX4 10 "JoinedSketches" "now" "LJoinedSketches$State;" ∈ wsX4_bits := by decide +kernel
theorem mf_X4_bits : js_M yX4_bits cX4_bits 5 (some .int) wsX4_bits 2 := ⟨⟨_, rfl⟩, by decide +kernel, by decide +kernel, by decide +kernel, by decide +kernel⟩
set_option maxHeartbeats 4000000 in
set_option maxRecDepth 100000 in
theorem c_X4_bits_1 (la : Launch) {y : js_L} (hy : js_Dy y) {G : js_G} {c : js_C} (hC : jr_C G c) {x : Int32} {b : Int32} (hx : jb x 6) : js_Ci la y yX4_bits wsX4_bits 5 122 [.ref (js_ad y (190)), .int (x), .int (b)] G (fun r G' => jP (ms_bits c x b) r G G') := by
  refine js_ofi mf_X4_bits (Nat.le_of_ble_eq_true rfl) hy (fun X F hr => ?_)
  replace F : js_F X y cX4_bits 5 RX4 wsX4_bits 5 122 := F
  show js_W X y 5 _ G 0 [(0, .ref (js_ad y (190))), (1, .int (x)), (2, .int (b))] []
  refine js_aload_n (pc := 0) 0 F rfl dX4_bits_0 ?_
  refine jg_X_now (pc := 1) F in_X4_bits_4 (lk_X4_bits_fieldLink_RX4_10_JoinedSketches_now_LJoinedSketches_State) dX4_bits_1 ?_
  refine js_iload_n (pc := 4) 1 F rfl dX4_bits_4 ?_
  refine js_callq (pc := 5) F (c_sk_bad _ hy (G := G) (x := x) hx) mf_X3_sketchAt gX4_bits_X3_sketchAt rfl (by decide) (by unfold js_kA; omega) (js_ct_A (by decide)) rfl rfl rfl (Nat.le_of_ble_eq_true rfl) dX4_bits_5 ?_
  rintro _ _ ⟨rfl, rfl⟩
  show js_W X y 5 (js_Qi X y (fun r G' => jP (ms_bits c x b) r G G')) G (5 + 3) [(0, .ref (js_ad y (190))), (1, .int (x)), (2, .int (b))] [.null]
  refine js_astore_nN (pc := 8) (lv2 := [(0, .ref (js_ad y (190))), (1, .int (x)), (2, .int (b)), (3, .null)]) F dX4_bits_8 (by decide) [1, 2, 3, 0] rfl ?_
  refine js_aload_nN (pc := 9) 3 F rfl dX4_bits_9 ?_
  refine js_ifnonnullN (pc := 10) F dX4_bits_10 ?_
  refine js_iconst (pc := 13) (v := (-1)) F (by decide) dX4_bits_13 ?_
  refine js_iret (pc := 14) F hr (rfl) ?_ dX4_bits_14
  show jP (ms_bits c x b) _ _ _
  rw [show ms_bits c x b = (-1, c) from if_pos hx]
  exact ⟨rfl, hC, js_frX.rf⟩
set_option maxHeartbeats 4000000 in
set_option maxRecDepth 100000 in
theorem c_X4_bits_2 (la : Launch) {y : js_L} (hy : js_Dy y) {G : js_G} {c : js_C} (hC : jr_C G c) {i : Nat} (hi : i < 6) {b : Int32} (hb : b < nI 2 ∨ nI 6 < b) : js_Ci la y yX4_bits wsX4_bits 5 122 [.ref (js_ad y (190)), .int (nI (i)), .int (b)] G (fun r G' => jP (ms_bits c (nI i) b) r G G') := by
  refine js_ofi mf_X4_bits (Nat.le_of_ble_eq_true rfl) hy (fun X F hr => ?_)
  replace F : js_F X y cX4_bits 5 RX4 wsX4_bits 5 122 := F
  show js_W X y 5 _ G 0 [(0, .ref (js_ad y (190))), (1, .int (nI (i))), (2, .int (b))] []
  refine js_aload_n (pc := 0) 0 F rfl dX4_bits_0 ?_
  refine jg_X_now (pc := 1) F in_X4_bits_4 (lk_X4_bits_fieldLink_RX4_10_JoinedSketches_now_LJoinedSketches_State) dX4_bits_1 ?_
  refine js_iload_n (pc := 4) 1 F rfl dX4_bits_4 ?_
  refine js_callq (pc := 5) F (c_sk_ok _ hy (G := G) (i := i) hi) mf_X3_sketchAt gX4_bits_X3_sketchAt rfl (by decide) (by unfold js_kA; omega) (js_ct_A (by decide)) rfl rfl rfl (Nat.le_of_ble_eq_true rfl) dX4_bits_5 ?_
  rintro _ _ ⟨rfl, rfl⟩
  show js_W X y 5 (js_Qi X y (fun r G' => jP (ms_bits c (nI i) b) r G G')) G (5 + 3) [(0, .ref (js_ad y (190))), (1, .int (nI (i))), (2, .int (b))] [.ref (js_ad y (js_kS i))]
  refine js_astore_n (pc := 8) (lv2 := [(0, .ref (js_ad y (190))), (1, .int (nI (i))), (2, .int (b)), (3, .ref (js_ad y (js_kS i)))]) F dX4_bits_8 (by decide) [1, 2, 3, 0] rfl ?_
  refine js_aload_n (pc := 9) 3 F rfl dX4_bits_9 ?_
  refine js_ifnonnull (pc := 10) (tgt := 15) F dX4_bits_10 (by decide) ?_
  refine js_iload_n (pc := 15) 2 F rfl dX4_bits_15 ?_
  refine js_iconst (pc := 16) (v := nI (2)) F (by decide) dX4_bits_16 ?_
  refine js_icmp_lt (pc := 17) (tgt := 26) F dX4_bits_17 (by decide) (fun h17 => ?_) (fun h17 => ?_)
  · skip
    refine js_bipush (pc := 26) (v := (-2)) F (by decide) dX4_bits_26 ?_
    refine js_iret (pc := 28) F hr (rfl) ?_ dX4_bits_28
    show jP (ms_bits c (nI i) b) _ _ _
    rw [show ms_bits c (nI i) b = (-2, c) from by unfold ms_bits; rw [if_neg (jb_no hi (by decide)), if_pos hb]]
    exact ⟨rfl, hC, js_frX.rf⟩
  · skip
    refine js_iload_n (pc := 20) 2 F rfl dX4_bits_20 ?_
    refine js_bipush (pc := 21) (v := nI (6)) F (by decide) dX4_bits_21 ?_
    refine js_icmp_le (pc := 23) (tgt := 29) F dX4_bits_23 (by decide) (fun h23 => by exact absurd h23 (fun q => by have z := hb.resolve_left h17; have a := Int32.lt_iff_toInt_lt.mp z; have d := Int32.le_iff_toInt_le.mp q; omega)) (fun h23 => ?_)
    refine js_bipush (pc := 26) (v := (-2)) F (by decide) dX4_bits_26 ?_
    refine js_iret (pc := 28) F hr (rfl) ?_ dX4_bits_28
    show jP (ms_bits c (nI i) b) _ _ _
    rw [show ms_bits c (nI i) b = (-2, c) from by unfold ms_bits; rw [if_neg (jb_no hi (by decide)), if_pos hb]]
    exact ⟨rfl, hC, js_frX.rf⟩
theorem in_X4_bits_2 : ∀ w ∈ wsX20, w ∈ wsX4_bits := by decide +kernel
theorem lk_X4_bits_fieldLink_RX4_19_JoinedSketches_history_LJoinedSketches_History : Cond.fieldLink RX4 19 "JoinedSketches" "history" "LJoinedSketches$History;" ∈ wsX4_bits := by decide +kernel
set_option maxHeartbeats 4000000 in
set_option maxRecDepth 100000 in
theorem c_X4_bits_3 (la : Launch) {y : js_L} (hy : js_Dy y) {G : js_G} {c : js_C} (hC : jr_C G c) {i : Nat} (hi : i < 6) {b : Nat} (hb2 : 2 ≤ b) (hb6 : b ≤ 6) : js_Ci la y yX4_bits wsX4_bits 5 122 [.ref (js_ad y (190)), .int (nI (i)), .int (nI (b))] G (fun r G' => jP (ms_bits c (nI i) (nI b)) r G G') := by
  have hS : jr_K G i (c.1.2 i) := hC.K hi
  have hp : 2 ^ (c.1.2 i).1 ≤ 64 := jm_p6 hS.2.1
  refine js_ofi mf_X4_bits (Nat.le_of_ble_eq_true rfl) hy (fun X F hr => ?_)
  replace F : js_F X y cX4_bits 5 RX4 wsX4_bits 5 122 := F
  show js_W X y 5 _ G 0 [(0, .ref (js_ad y (190))), (1, .int (nI (i))), (2, .int (nI (b)))] []
  refine js_aload_n (pc := 0) 0 F rfl dX4_bits_0 ?_
  refine jg_X_now (pc := 1) F in_X4_bits_4 (lk_X4_bits_fieldLink_RX4_10_JoinedSketches_now_LJoinedSketches_State) dX4_bits_1 ?_
  refine js_iload_n (pc := 4) 1 F rfl dX4_bits_4 ?_
  refine js_callq (pc := 5) F (c_sk_ok _ hy (G := G) (i := i) hi) mf_X3_sketchAt gX4_bits_X3_sketchAt rfl (by decide) (by unfold js_kA; omega) (js_ct_A (by decide)) rfl rfl rfl (Nat.le_of_ble_eq_true rfl) dX4_bits_5 ?_
  rintro _ _ ⟨rfl, rfl⟩
  show js_W X y 5 (js_Qi X y (fun r G' => jP (ms_bits c (nI i) (nI b)) r G G')) G (5 + 3) [(0, .ref (js_ad y (190))), (1, .int (nI (i))), (2, .int (nI (b)))] [.ref (js_ad y (js_kS i))]
  refine js_astore_n (pc := 8) (lv2 := [(0, .ref (js_ad y (190))), (1, .int (nI (i))), (2, .int (nI (b))), (3, .ref (js_ad y (js_kS i)))]) F dX4_bits_8 (by decide) [1, 2, 3, 0] rfl ?_
  refine js_aload_n (pc := 9) 3 F rfl dX4_bits_9 ?_
  refine js_ifnonnull (pc := 10) (tgt := 15) F dX4_bits_10 (by decide) ?_
  refine js_iload_n (pc := 15) 2 F rfl dX4_bits_15 ?_
  refine js_iconst (pc := 16) (v := nI (2)) F (by decide) dX4_bits_16 ?_
  refine js_icmp_ltN (pc := 17) (a := b) (b := 2) (tgt := 26) F (by omega) (by decide) dX4_bits_17 (by decide) (fun h17 => by exfalso; omega) (fun h17 => ?_)
  refine js_iload_n (pc := 20) 2 F rfl dX4_bits_20 ?_
  refine js_bipush (pc := 21) (v := nI (6)) F (by decide) dX4_bits_21 ?_
  refine js_icmp_leN (pc := 23) (a := b) (b := 6) (tgt := 29) F (by omega) (by decide) dX4_bits_23 (by decide) (fun h23 => ?_) (fun h23 => by exfalso; omega)
  refine js_aload_n (pc := 29) 0 F rfl dX4_bits_29 ?_
  refine jg_X_history (pc := 30) F in_X4_bits_4 (lk_X4_bits_fieldLink_RX4_19_JoinedSketches_history_LJoinedSketches_History) dX4_bits_30 ?_
  refine js_aload_n (pc := 33) 0 F rfl dX4_bits_33 ?_
  refine jg_X_now (pc := 34) F in_X4_bits_4 (lk_X4_bits_fieldLink_RX4_10_JoinedSketches_now_LJoinedSketches_State) dX4_bits_34 ?_
  refine js_callv (pc := 37) F (c_X0_record _ hy (h := c.2.1) hC.2.1 hC.1) mf_X0_record gX4_bits_X0_record rfl (by decide) (by decide) (js_ct_H) rfl rfl rfl (Nat.le_of_ble_eq_true rfl) dX4_bits_37 ?_
  rintro G1 ⟨q1, q2⟩
  have hC1 := hC.rec q1 q2
  have hS1 : jr_K G1 i (c.1.2 i) := hC1.K hi
  refine js_aload_n (pc := 40) 3 F rfl dX4_bits_40 ?_
  refine jgN_4_62 (pc := 41) (v := nI ((c.1.2 i).1)) F in_X4_bits_2 (by omega) (hS1.2.2.1) dX4_bits_41 ?_
  refine js_istore (pc := 44) (lv2 := [(0, .ref (js_ad y (190))), (1, .int (nI (i))), (2, .int (nI (b))), (3, .ref (js_ad y (js_kS i))), (4, .int (nI ((c.1.2 i).1)))]) F dX4_bits_44 (by decide) [1, 2, 3, 4, 0] rfl ?_
  refine js_aload_n (pc := 46) 3 F rfl dX4_bits_46 ?_
  refine js_iload_n (pc := 47) 2 F rfl dX4_bits_47 ?_
  refine js_callv (pc := 48) F (c_X2_startAgain _ hy (j := i) (by omega) (G := G1) (B := b) hb2 hb6) mf_X2_startAgain gX4_bits_X2_startAgain rfl (by decide) (by unfold js_kS; omega) (js_ct_S (by omega)) rfl rfl rfl (Nat.le_of_ble_eq_true rfl) dX4_bits_48 ?_
  rintro G2 ⟨p1, p2⟩
  refine js_iload (pc := 51) 4 F rfl dX4_bits_51 ?_
  refine js_iret (pc := 53) F hr (rfl) ?_ dX4_bits_53
  show jP (ms_bits c (nI i) (nI b)) _ _ _
  rw [show ms_bits c (nI i) (nI b) = (nI (c.1.2 i).1, jm_chg c (jm_sk c.1 i (b, fun _ => 0, some []))) from by unfold ms_bits; rw [if_neg (jb_no hi (by decide)), if_neg (fun q => by rcases q with q | q; have := (nI_ltI (by omega) (by decide)).mp q; omega; have := (nI_ltI (by decide) (by omega)).mp q; omega), jx (by omega), jx (by omega)]]
  exact ⟨rfl, hC1.sk hi p2 p1, (js_frX.ofH q2).tr (js_frX.of p2 (by omega))⟩
theorem in_X4_add_4 : ∀ w ∈ wsX40, w ∈ wsX4_add := by decide +kernel
theorem lk_X4_add_fieldLink_RX4_10_JoinedSketches_now_LJoinedSketches_State : Cond.fieldLink RX4 10 "JoinedSketches" "now" "LJoinedSketches$State;" ∈ wsX4_add := by decide +kernel
theorem mf_X4_add : js_M yX4_add cX4_add 4 (some .int) wsX4_add 2 := ⟨⟨_, rfl⟩, by decide +kernel, by decide +kernel, by decide +kernel, by decide +kernel⟩
set_option maxHeartbeats 4000000 in
set_option maxRecDepth 100000 in
theorem c_X4_add_1 (la : Launch) {y : js_L} (hy : js_Dy y) {G : js_G} {c : js_C} (hC : jr_C G c) {x : Int32} {t : Int32} (hx : jb x 6) : js_Ci la y yX4_add wsX4_add 5 122 [.ref (js_ad y (190)), .int (x), .int (t)] G (fun r G' => jP (ms_add c x t) r G G') := by
  refine js_ofi mf_X4_add (Nat.le_of_ble_eq_true rfl) hy (fun X F hr => ?_)
  replace F : js_F X y cX4_add 4 RX4 wsX4_add 5 122 := F
  show js_W X y 4 _ G 0 [(0, .ref (js_ad y (190))), (1, .int (x)), (2, .int (t))] []
  refine js_aload_n (pc := 0) 0 F rfl dX4_add_0 ?_
  refine jg_X_now (pc := 1) F in_X4_add_4 (lk_X4_add_fieldLink_RX4_10_JoinedSketches_now_LJoinedSketches_State) dX4_add_1 ?_
  refine js_iload_n (pc := 4) 1 F rfl dX4_add_4 ?_
  refine js_callq (pc := 5) F (c_sk_bad _ hy (G := G) (x := x) hx) mf_X3_sketchAt gX4_add_X3_sketchAt rfl (by decide) (by unfold js_kA; omega) (js_ct_A (by decide)) rfl rfl rfl (Nat.le_of_ble_eq_true rfl) dX4_add_5 ?_
  rintro _ _ ⟨rfl, rfl⟩
  show js_W X y 4 (js_Qi X y (fun r G' => jP (ms_add c x t) r G G')) G (5 + 3) [(0, .ref (js_ad y (190))), (1, .int (x)), (2, .int (t))] [.null]
  refine js_astore_nN (pc := 8) (lv2 := [(0, .ref (js_ad y (190))), (1, .int (x)), (2, .int (t)), (3, .null)]) F dX4_add_8 (by decide) [1, 2, 3, 0] rfl ?_
  refine js_aload_nN (pc := 9) 3 F rfl dX4_add_9 ?_
  refine js_ifnonnullN (pc := 10) F dX4_add_10 ?_
  refine js_iconst (pc := 13) (v := (-1)) F (by decide) dX4_add_13 ?_
  refine js_iret (pc := 14) F hr (rfl) ?_ dX4_add_14
  show jP (ms_add c x t) _ _ _
  rw [show ms_add c x t = (-1, c) from if_pos hx]
  exact ⟨rfl, hC, js_frX.rf⟩
set_option maxHeartbeats 4000000 in
set_option maxRecDepth 100000 in
theorem c_X4_add_2 (la : Launch) {y : js_L} (hy : js_Dy y) {G : js_G} {c : js_C} (hC : jr_C G c) {i : Nat} (hi : i < 6) {t : Int32} (ht : jb t 100000) : js_Ci la y yX4_add wsX4_add 5 122 [.ref (js_ad y (190)), .int (nI (i)), .int (t)] G (fun r G' => jP (ms_add c (nI i) t) r G G') := by
  refine js_ofi mf_X4_add (Nat.le_of_ble_eq_true rfl) hy (fun X F hr => ?_)
  replace F : js_F X y cX4_add 4 RX4 wsX4_add 5 122 := F
  show js_W X y 4 _ G 0 [(0, .ref (js_ad y (190))), (1, .int (nI (i))), (2, .int (t))] []
  refine js_aload_n (pc := 0) 0 F rfl dX4_add_0 ?_
  refine jg_X_now (pc := 1) F in_X4_add_4 (lk_X4_add_fieldLink_RX4_10_JoinedSketches_now_LJoinedSketches_State) dX4_add_1 ?_
  refine js_iload_n (pc := 4) 1 F rfl dX4_add_4 ?_
  refine js_callq (pc := 5) F (c_sk_ok _ hy (G := G) (i := i) hi) mf_X3_sketchAt gX4_add_X3_sketchAt rfl (by decide) (by unfold js_kA; omega) (js_ct_A (by decide)) rfl rfl rfl (Nat.le_of_ble_eq_true rfl) dX4_add_5 ?_
  rintro _ _ ⟨rfl, rfl⟩
  show js_W X y 4 (js_Qi X y (fun r G' => jP (ms_add c (nI i) t) r G G')) G (5 + 3) [(0, .ref (js_ad y (190))), (1, .int (nI (i))), (2, .int (t))] [.ref (js_ad y (js_kS i))]
  refine js_astore_n (pc := 8) (lv2 := [(0, .ref (js_ad y (190))), (1, .int (nI (i))), (2, .int (t)), (3, .ref (js_ad y (js_kS i)))]) F dX4_add_8 (by decide) [1, 2, 3, 0] rfl ?_
  refine js_aload_n (pc := 9) 3 F rfl dX4_add_9 ?_
  refine js_ifnonnull (pc := 10) (tgt := 15) F dX4_add_10 (by decide) ?_
  refine js_iload_n (pc := 15) 2 F rfl dX4_add_15 ?_
  refine js_callsi (pc := 16) F (c_X4_isThing _ hy (x := t)) mf_X4_isThing gX4_add_X4_isThing (by decide) rfl rfl (Nat.le_of_ble_eq_true rfl) dX4_add_16 ?_
  rintro _ _ ⟨rfl, rfl⟩
  rw [show (if jb (t) 100000 then 0 else 1) = (if ¬ jb (t) 100000 then 1 else 0) from by split <;> simp_all]
  refine js_if_neB (pc := 19) (tgt := 25) F dX4_add_19 (by decide) (fun h19 => by exact absurd ht h19) (fun h19 => ?_)
  refine js_bipush (pc := 22) (v := (-2)) F (by decide) dX4_add_22 ?_
  refine js_iret (pc := 24) F hr (rfl) ?_ dX4_add_24
  show jP (ms_add c (nI i) t) _ _ _
  rw [show ms_add c (nI i) t = (-2, c) from by unfold ms_add; rw [if_neg (jb_no hi (by decide)), if_pos ht]]
  exact ⟨rfl, hC, js_frX.rf⟩
theorem lk_X4_add_fieldLink_RX4_19_JoinedSketches_history_LJoinedSketches_History : Cond.fieldLink RX4 19 "JoinedSketches" "history" "LJoinedSketches$History;" ∈ wsX4_add := by decide +kernel
set_option maxHeartbeats 4000000 in
set_option maxRecDepth 100000 in
theorem c_X4_add_3 (la : Launch) {y : js_L} (hy : js_Dy y) {G : js_G} {c : js_C} (hC : jr_C G c) {i : Nat} (hi : i < 6) {t : Nat} (ht : t < 100000) : js_Ci la y yX4_add wsX4_add 5 122 [.ref (js_ad y (190)), .int (nI (i)), .int (nI (t))] G (fun r G' => jP (ms_add c (nI i) (nI t)) r G G') := by
  have hS : jr_K G i (c.1.2 i) := hC.K hi
  have hp : 2 ^ (c.1.2 i).1 ≤ 64 := jm_p6 hS.2.1
  refine js_ofi mf_X4_add (Nat.le_of_ble_eq_true rfl) hy (fun X F hr => ?_)
  replace F : js_F X y cX4_add 4 RX4 wsX4_add 5 122 := F
  show js_W X y 4 _ G 0 [(0, .ref (js_ad y (190))), (1, .int (nI (i))), (2, .int (nI (t)))] []
  refine js_aload_n (pc := 0) 0 F rfl dX4_add_0 ?_
  refine jg_X_now (pc := 1) F in_X4_add_4 (lk_X4_add_fieldLink_RX4_10_JoinedSketches_now_LJoinedSketches_State) dX4_add_1 ?_
  refine js_iload_n (pc := 4) 1 F rfl dX4_add_4 ?_
  refine js_callq (pc := 5) F (c_sk_ok _ hy (G := G) (i := i) hi) mf_X3_sketchAt gX4_add_X3_sketchAt rfl (by decide) (by unfold js_kA; omega) (js_ct_A (by decide)) rfl rfl rfl (Nat.le_of_ble_eq_true rfl) dX4_add_5 ?_
  rintro _ _ ⟨rfl, rfl⟩
  show js_W X y 4 (js_Qi X y (fun r G' => jP (ms_add c (nI i) (nI t)) r G G')) G (5 + 3) [(0, .ref (js_ad y (190))), (1, .int (nI (i))), (2, .int (nI (t)))] [.ref (js_ad y (js_kS i))]
  refine js_astore_n (pc := 8) (lv2 := [(0, .ref (js_ad y (190))), (1, .int (nI (i))), (2, .int (nI (t))), (3, .ref (js_ad y (js_kS i)))]) F dX4_add_8 (by decide) [1, 2, 3, 0] rfl ?_
  refine js_aload_n (pc := 9) 3 F rfl dX4_add_9 ?_
  refine js_ifnonnull (pc := 10) (tgt := 15) F dX4_add_10 (by decide) ?_
  refine js_iload_n (pc := 15) 2 F rfl dX4_add_15 ?_
  refine js_callsi (pc := 16) F (c_X4_isThing _ hy (x := nI (t))) mf_X4_isThing gX4_add_X4_isThing (by decide) rfl rfl (Nat.le_of_ble_eq_true rfl) dX4_add_16 ?_
  rintro _ _ ⟨rfl, rfl⟩
  rw [show (if jb (nI (t)) 100000 then 0 else 1) = (if ¬ jb (nI (t)) 100000 then 1 else 0) from by split <;> simp_all]
  refine js_if_neB (pc := 19) (tgt := 25) F dX4_add_19 (by decide) (fun h19 => ?_) (fun h19 => by exact absurd (jb_no ht (by decide)) h19)
  refine js_aload_n (pc := 25) 0 F rfl dX4_add_25 ?_
  refine jg_X_history (pc := 26) F in_X4_add_4 (lk_X4_add_fieldLink_RX4_19_JoinedSketches_history_LJoinedSketches_History) dX4_add_26 ?_
  refine js_aload_n (pc := 29) 0 F rfl dX4_add_29 ?_
  refine jg_X_now (pc := 30) F in_X4_add_4 (lk_X4_add_fieldLink_RX4_10_JoinedSketches_now_LJoinedSketches_State) dX4_add_30 ?_
  refine js_callv (pc := 33) F (c_X0_record _ hy (h := c.2.1) hC.2.1 hC.1) mf_X0_record gX4_add_X0_record rfl (by decide) (by decide) (js_ct_H) rfl rfl rfl (Nat.le_of_ble_eq_true rfl) dX4_add_33 ?_
  rintro G1 ⟨q1, q2⟩
  have hC1 := hC.rec q1 q2
  have hS1 : jr_K G1 i (c.1.2 i) := hC1.K hi
  refine js_aload_n (pc := 36) 0 F rfl dX4_add_36 ?_
  refine js_aload_n (pc := 37) 3 F rfl dX4_add_37 ?_
  refine js_iload_n (pc := 38) 2 F rfl dX4_add_38 ?_
  refine js_iconst (pc := 39) (v := nI (1)) F (by decide) dX4_add_39 ?_
  refine js_calli (pc := 40) F (c_X4_takeThings _ hy (j := i) (by omega) (G := G1) (s := c.1.1) hC1.1.1 hS1 (a := t) (n := 1) (by omega)) mf_X4_takeThings gX4_add_X4_takeThings rfl (by decide) (by decide) (js_ct_X) rfl rfl rfl (Nat.le_of_ble_eq_true rfl) dX4_add_40 ?_
  rintro _ G2 ⟨rfl, p1, p2⟩
  refine js_iret (pc := 43) F hr (rfl) ?_ dX4_add_43
  show jP (ms_add c (nI i) (nI t)) _ _ _
  rw [show ms_add c (nI i) (nI t) = (nI (jm_tkN c.1.1 (c.1.2 i) t 1), jm_chg c (jm_sk c.1 i (jm_tkK c.1.1 (c.1.2 i) t 1))) from by unfold ms_add; rw [if_neg (jb_no hi (by decide)), if_neg (jb_no ht (by decide)), jx (by omega), jx (by omega)]]
  exact ⟨rfl, hC1.sk hi p2 p1, (js_frX.ofH q2).tr (js_frX.of p2 (by omega))⟩
theorem in_X4_addRange_4 : ∀ w ∈ wsX40, w ∈ wsX4_addRange := by decide +kernel
theorem lk_X4_addRange_fieldLink_RX4_10_JoinedSketches_now_LJoinedSketches_State : Cond.fieldLink RX4 10 "JoinedSketches" "now" "LJoinedSketches$State;" ∈ wsX4_addRange := by decide +kernel
theorem mf_X4_addRange : js_M yX4_addRange cX4_addRange 5 (some .int) wsX4_addRange 3 := ⟨⟨_, rfl⟩, by decide +kernel, by decide +kernel, by decide +kernel, by decide +kernel⟩
set_option maxHeartbeats 4000000 in
set_option maxRecDepth 100000 in
theorem c_X4_addRange_1 (la : Launch) {y : js_L} (hy : js_Dy y) {G : js_G} {c : js_C} (hC : jr_C G c) {x : Int32} {a : Int32} {m : Int32} (hx : jb x 6) : js_Ci la y yX4_addRange wsX4_addRange 5 122 [.ref (js_ad y (190)), .int (x), .int (a), .int (m)] G (fun r G' => jP (ms_addRange c x a m) r G G') := by
  refine js_ofi mf_X4_addRange (Nat.le_of_ble_eq_true rfl) hy (fun X F hr => ?_)
  replace F : js_F X y cX4_addRange 5 RX4 wsX4_addRange 5 122 := F
  show js_W X y 5 _ G 0 [(0, .ref (js_ad y (190))), (1, .int (x)), (2, .int (a)), (3, .int (m))] []
  refine js_aload_n (pc := 0) 0 F rfl dX4_addRange_0 ?_
  refine jg_X_now (pc := 1) F in_X4_addRange_4 (lk_X4_addRange_fieldLink_RX4_10_JoinedSketches_now_LJoinedSketches_State) dX4_addRange_1 ?_
  refine js_iload_n (pc := 4) 1 F rfl dX4_addRange_4 ?_
  refine js_callq (pc := 5) F (c_sk_bad _ hy (G := G) (x := x) hx) mf_X3_sketchAt gX4_addRange_X3_sketchAt rfl (by decide) (by unfold js_kA; omega) (js_ct_A (by decide)) rfl rfl rfl (Nat.le_of_ble_eq_true rfl) dX4_addRange_5 ?_
  rintro _ _ ⟨rfl, rfl⟩
  show js_W X y 5 (js_Qi X y (fun r G' => jP (ms_addRange c x a m) r G G')) G (5 + 3) [(0, .ref (js_ad y (190))), (1, .int (x)), (2, .int (a)), (3, .int (m))] [.null]
  refine js_astoreN (pc := 8) (lv2 := [(0, .ref (js_ad y (190))), (1, .int (x)), (2, .int (a)), (3, .int (m)), (4, .null)]) F dX4_addRange_8 (by decide) [1, 2, 3, 4, 0] rfl ?_
  refine js_aloadN (pc := 10) 4 F rfl dX4_addRange_10 ?_
  refine js_ifnonnullN (pc := 12) F dX4_addRange_12 ?_
  refine js_iconst (pc := 15) (v := (-1)) F (by decide) dX4_addRange_15 ?_
  refine js_iret (pc := 16) F hr (rfl) ?_ dX4_addRange_16
  show jP (ms_addRange c x a m) _ _ _
  rw [show ms_addRange c x a m = (-1, c) from if_pos hx]
  exact ⟨rfl, hC, js_frX.rf⟩
set_option maxHeartbeats 4000000 in
set_option maxRecDepth 100000 in
theorem c_X4_addRange_2 (la : Launch) {y : js_L} (hy : js_Dy y) {G : js_G} {c : js_C} (hC : jr_C G c) {i : Nat} (hi : i < 6) {a m : Int32} (ht : ¬ jm_rng a m) : js_Ci la y yX4_addRange wsX4_addRange 5 122 [.ref (js_ad y (190)), .int (nI (i)), .int (a), .int (m)] G (fun r G' => jP (ms_addRange c (nI i) a m) r G G') := by
  refine js_ofi mf_X4_addRange (Nat.le_of_ble_eq_true rfl) hy (fun X F hr => ?_)
  replace F : js_F X y cX4_addRange 5 RX4 wsX4_addRange 5 122 := F
  show js_W X y 5 _ G 0 [(0, .ref (js_ad y (190))), (1, .int (nI (i))), (2, .int (a)), (3, .int (m))] []
  refine js_aload_n (pc := 0) 0 F rfl dX4_addRange_0 ?_
  refine jg_X_now (pc := 1) F in_X4_addRange_4 (lk_X4_addRange_fieldLink_RX4_10_JoinedSketches_now_LJoinedSketches_State) dX4_addRange_1 ?_
  refine js_iload_n (pc := 4) 1 F rfl dX4_addRange_4 ?_
  refine js_callq (pc := 5) F (c_sk_ok _ hy (G := G) (i := i) hi) mf_X3_sketchAt gX4_addRange_X3_sketchAt rfl (by decide) (by unfold js_kA; omega) (js_ct_A (by decide)) rfl rfl rfl (Nat.le_of_ble_eq_true rfl) dX4_addRange_5 ?_
  rintro _ _ ⟨rfl, rfl⟩
  show js_W X y 5 (js_Qi X y (fun r G' => jP (ms_addRange c (nI i) a m) r G G')) G (5 + 3) [(0, .ref (js_ad y (190))), (1, .int (nI (i))), (2, .int (a)), (3, .int (m))] [.ref (js_ad y (js_kS i))]
  refine js_astore (pc := 8) (lv2 := [(0, .ref (js_ad y (190))), (1, .int (nI (i))), (2, .int (a)), (3, .int (m)), (4, .ref (js_ad y (js_kS i)))]) F dX4_addRange_8 (by decide) [1, 2, 3, 4, 0] rfl ?_
  refine js_aload (pc := 10) 4 F rfl dX4_addRange_10 ?_
  refine js_ifnonnull (pc := 12) (tgt := 17) F dX4_addRange_12 (by decide) ?_
  refine js_iload_n (pc := 17) 2 F rfl dX4_addRange_17 ?_
  refine js_iload_n (pc := 18) 3 F rfl dX4_addRange_18 ?_
  refine js_callsi (pc := 19) F (c_X4_isRange _ hy (x := a) (m := m)) mf_X4_isRange gX4_addRange_X4_isRange (by decide) rfl rfl (Nat.le_of_ble_eq_true rfl) dX4_addRange_19 ?_
  rintro _ _ ⟨rfl, rfl⟩
  refine js_if_neB (pc := 22) (tgt := 28) F dX4_addRange_22 (by decide) (fun h22 => by exact absurd h22 ht) (fun h22 => ?_)
  refine js_bipush (pc := 25) (v := (-2)) F (by decide) dX4_addRange_25 ?_
  refine js_iret (pc := 27) F hr (rfl) ?_ dX4_addRange_27
  show jP (ms_addRange c (nI i) a m) _ _ _
  rw [show ms_addRange c (nI i) a m = (-2, c) from by unfold ms_addRange; rw [if_neg (jb_no hi (by decide)), if_pos ht]]
  exact ⟨rfl, hC, js_frX.rf⟩
theorem lk_X4_addRange_fieldLink_RX4_19_JoinedSketches_history_LJoinedSketches_History : Cond.fieldLink RX4 19 "JoinedSketches" "history" "LJoinedSketches$History;" ∈ wsX4_addRange := by decide +kernel
set_option maxHeartbeats 4000000 in
set_option maxRecDepth 100000 in
theorem c_X4_addRange_3 (la : Launch) {y : js_L} (hy : js_Dy y) {G : js_G} {c : js_C} (hC : jr_C G c) {i : Nat} (hi : i < 6) {a n : Nat} (h1 : 1 ≤ n) (h2 : n ≤ 999) (h3 : a + n ≤ 100000) : js_Ci la y yX4_addRange wsX4_addRange 5 122 [.ref (js_ad y (190)), .int (nI (i)), .int (nI (a)), .int (nI (n))] G (fun r G' => jP (ms_addRange c (nI i) (nI a) (nI n)) r G G') := by
  have hS : jr_K G i (c.1.2 i) := hC.K hi
  have hp : 2 ^ (c.1.2 i).1 ≤ 64 := jm_p6 hS.2.1
  refine js_ofi mf_X4_addRange (Nat.le_of_ble_eq_true rfl) hy (fun X F hr => ?_)
  replace F : js_F X y cX4_addRange 5 RX4 wsX4_addRange 5 122 := F
  show js_W X y 5 _ G 0 [(0, .ref (js_ad y (190))), (1, .int (nI (i))), (2, .int (nI (a))), (3, .int (nI (n)))] []
  refine js_aload_n (pc := 0) 0 F rfl dX4_addRange_0 ?_
  refine jg_X_now (pc := 1) F in_X4_addRange_4 (lk_X4_addRange_fieldLink_RX4_10_JoinedSketches_now_LJoinedSketches_State) dX4_addRange_1 ?_
  refine js_iload_n (pc := 4) 1 F rfl dX4_addRange_4 ?_
  refine js_callq (pc := 5) F (c_sk_ok _ hy (G := G) (i := i) hi) mf_X3_sketchAt gX4_addRange_X3_sketchAt rfl (by decide) (by unfold js_kA; omega) (js_ct_A (by decide)) rfl rfl rfl (Nat.le_of_ble_eq_true rfl) dX4_addRange_5 ?_
  rintro _ _ ⟨rfl, rfl⟩
  show js_W X y 5 (js_Qi X y (fun r G' => jP (ms_addRange c (nI i) (nI a) (nI n)) r G G')) G (5 + 3) [(0, .ref (js_ad y (190))), (1, .int (nI (i))), (2, .int (nI (a))), (3, .int (nI (n)))] [.ref (js_ad y (js_kS i))]
  refine js_astore (pc := 8) (lv2 := [(0, .ref (js_ad y (190))), (1, .int (nI (i))), (2, .int (nI (a))), (3, .int (nI (n))), (4, .ref (js_ad y (js_kS i)))]) F dX4_addRange_8 (by decide) [1, 2, 3, 4, 0] rfl ?_
  refine js_aload (pc := 10) 4 F rfl dX4_addRange_10 ?_
  refine js_ifnonnull (pc := 12) (tgt := 17) F dX4_addRange_12 (by decide) ?_
  refine js_iload_n (pc := 17) 2 F rfl dX4_addRange_17 ?_
  refine js_iload_n (pc := 18) 3 F rfl dX4_addRange_18 ?_
  refine js_callsi (pc := 19) F (c_X4_isRange _ hy (x := nI (a)) (m := nI (n))) mf_X4_isRange gX4_addRange_X4_isRange (by decide) rfl rfl (Nat.le_of_ble_eq_true rfl) dX4_addRange_19 ?_
  rintro _ _ ⟨rfl, rfl⟩
  refine js_if_neB (pc := 22) (tgt := 28) F dX4_addRange_22 (by decide) (fun h22 => ?_) (fun h22 => by exact absurd (jm_rng_of h1 h2 h3) h22)
  refine js_aload_n (pc := 28) 0 F rfl dX4_addRange_28 ?_
  refine jg_X_history (pc := 29) F in_X4_addRange_4 (lk_X4_addRange_fieldLink_RX4_19_JoinedSketches_history_LJoinedSketches_History) dX4_addRange_29 ?_
  refine js_aload_n (pc := 32) 0 F rfl dX4_addRange_32 ?_
  refine jg_X_now (pc := 33) F in_X4_addRange_4 (lk_X4_addRange_fieldLink_RX4_10_JoinedSketches_now_LJoinedSketches_State) dX4_addRange_33 ?_
  refine js_callv (pc := 36) F (c_X0_record _ hy (h := c.2.1) hC.2.1 hC.1) mf_X0_record gX4_addRange_X0_record rfl (by decide) (by decide) (js_ct_H) rfl rfl rfl (Nat.le_of_ble_eq_true rfl) dX4_addRange_36 ?_
  rintro G1 ⟨q1, q2⟩
  have hC1 := hC.rec q1 q2
  have hS1 : jr_K G1 i (c.1.2 i) := hC1.K hi
  refine js_aload_n (pc := 39) 0 F rfl dX4_addRange_39 ?_
  refine js_aload (pc := 40) 4 F rfl dX4_addRange_40 ?_
  refine js_iload_n (pc := 42) 2 F rfl dX4_addRange_42 ?_
  refine js_iload_n (pc := 43) 3 F rfl dX4_addRange_43 ?_
  refine js_calli (pc := 44) F (c_X4_takeThings _ hy (j := i) (by omega) (G := G1) (s := c.1.1) hC1.1.1 hS1 (a := a) (n := n) (by omega)) mf_X4_takeThings gX4_addRange_X4_takeThings rfl (by decide) (by decide) (js_ct_X) rfl rfl rfl (Nat.le_of_ble_eq_true rfl) dX4_addRange_44 ?_
  rintro _ G2 ⟨rfl, p1, p2⟩
  refine js_iret (pc := 47) F hr (rfl) ?_ dX4_addRange_47
  show jP (ms_addRange c (nI i) (nI a) (nI n)) _ _ _
  rw [show ms_addRange c (nI i) (nI a) (nI n) = (nI (jm_tkN c.1.1 (c.1.2 i) a n), jm_chg c (jm_sk c.1 i (jm_tkK c.1.1 (c.1.2 i) a n))) from by unfold ms_addRange; rw [if_neg (jb_no hi (by decide)), if_neg (fun q => q (jm_rng_of h1 h2 h3)), jx (by omega), jx (by omega), jx (by omega)]]
  exact ⟨rfl, hC1.sk hi p2 p1, (js_frX.ofH q2).tr (js_frX.of p2 (by omega))⟩
theorem in_X4_join_4 : ∀ w ∈ wsX40, w ∈ wsX4_join := by decide +kernel
theorem lk_X4_join_fieldLink_RX4_10_JoinedSketches_now_LJoinedSketches_State : Cond.fieldLink RX4 10 "JoinedSketches" "now" "LJoinedSketches$State;" ∈ wsX4_join := by decide +kernel
theorem mf_X4_join : js_M yX4_join cX4_join 5 (some .int) wsX4_join 2 := ⟨⟨_, rfl⟩, by decide +kernel, by decide +kernel, by decide +kernel, by decide +kernel⟩
set_option maxHeartbeats 4000000 in
set_option maxRecDepth 100000 in
theorem c_X4_join_1a (la : Launch) {y : js_L} (hy : js_Dy y) {G : js_G} {c : js_C} (hC : jr_C G c) {x z : Int32} (hx : jb x 6) (hz : jb z 6)  : js_Ci la y yX4_join wsX4_join 6 122 [.ref (js_ad y (190)), .int (x), .int (z)] G (fun r G' => jP (ms_join c x z) r G G') := by
  refine js_ofi mf_X4_join (Nat.le_of_ble_eq_true rfl) hy (fun X F hr => ?_)
  replace F : js_F X y cX4_join 5 RX4 wsX4_join 6 122 := F
  show js_W X y 5 _ G 0 [(0, .ref (js_ad y (190))), (1, .int (x)), (2, .int (z))] []
  refine js_aload_n (pc := 0) 0 F rfl dX4_join_0 ?_
  refine jg_X_now (pc := 1) F in_X4_join_4 (lk_X4_join_fieldLink_RX4_10_JoinedSketches_now_LJoinedSketches_State) dX4_join_1 ?_
  refine js_iload_n (pc := 4) 1 F rfl dX4_join_4 ?_
  refine js_callq (pc := 5) F (c_sk_bad _ hy (G := G) (x := x) hx) mf_X3_sketchAt gX4_join_X3_sketchAt rfl (by decide) (by unfold js_kA; omega) (js_ct_A (by decide)) rfl rfl rfl (Nat.le_of_ble_eq_true rfl) dX4_join_5 ?_
  rintro _ _ ⟨rfl, rfl⟩
  show js_W X y 5 (js_Qi X y (fun r G' => jP (ms_join c x z) r G G')) G (5 + 3) [(0, .ref (js_ad y (190))), (1, .int (x)), (2, .int (z))] [.null]
  refine js_astore_nN (pc := 8) (lv2 := [(0, .ref (js_ad y (190))), (1, .int (x)), (2, .int (z)), (3, .null)]) F dX4_join_8 (by decide) [1, 2, 3, 0] rfl ?_
  refine js_aload_n (pc := 9) 0 F rfl dX4_join_9 ?_
  refine jg_X_now (pc := 10) F in_X4_join_4 (lk_X4_join_fieldLink_RX4_10_JoinedSketches_now_LJoinedSketches_State) dX4_join_10 ?_
  refine js_iload_n (pc := 13) 2 F rfl dX4_join_13 ?_
  refine js_callq (pc := 14) F (c_sk_bad _ hy (G := G) (x := z) hz) mf_X3_sketchAt gX4_join_X3_sketchAt rfl (by decide) (by unfold js_kA; omega) (js_ct_A (by decide)) rfl rfl rfl (Nat.le_of_ble_eq_true rfl) dX4_join_14 ?_
  rintro _ _ ⟨rfl, rfl⟩
  show js_W X y 5 (js_Qi X y (fun r G' => jP (ms_join c x z) r G G')) G (14 + 3) [(0, .ref (js_ad y (190))), (1, .int (x)), (2, .int (z)), (3, .null)] [.null]
  refine js_astoreN (pc := 17) (lv2 := [(0, .ref (js_ad y (190))), (1, .int (x)), (2, .int (z)), (3, .null), (4, .null)]) F dX4_join_17 (by decide) [1, 2, 3, 4, 0] rfl ?_
  refine js_aload_nN (pc := 19) 3 F rfl dX4_join_19 ?_
  refine js_ifnullN (pc := 20) (tgt := 28) F dX4_join_20 (by decide) ?_
  refine js_iconst (pc := 28) (v := (-1)) F (by decide) dX4_join_28 ?_
  refine js_iret (pc := 29) F hr (rfl) ?_ dX4_join_29
  show jP (ms_join c x z) _ _ _
  rw [show ms_join c x z = (-1, c) from if_pos (Or.inl hx)]
  exact ⟨rfl, hC, js_frX.rf⟩
set_option maxHeartbeats 4000000 in
set_option maxRecDepth 100000 in
theorem c_X4_join_1b (la : Launch) {y : js_L} (hy : js_Dy y) {G : js_G} {c : js_C} (hC : jr_C G c) {x : Int32} (hx : jb x 6) {i2 : Nat} (hi2 : i2 < 6)  : js_Ci la y yX4_join wsX4_join 6 122 [.ref (js_ad y (190)), .int (x), .int (nI (i2))] G (fun r G' => jP (ms_join c x (nI i2)) r G G') := by
  refine js_ofi mf_X4_join (Nat.le_of_ble_eq_true rfl) hy (fun X F hr => ?_)
  replace F : js_F X y cX4_join 5 RX4 wsX4_join 6 122 := F
  show js_W X y 5 _ G 0 [(0, .ref (js_ad y (190))), (1, .int (x)), (2, .int (nI (i2)))] []
  refine js_aload_n (pc := 0) 0 F rfl dX4_join_0 ?_
  refine jg_X_now (pc := 1) F in_X4_join_4 (lk_X4_join_fieldLink_RX4_10_JoinedSketches_now_LJoinedSketches_State) dX4_join_1 ?_
  refine js_iload_n (pc := 4) 1 F rfl dX4_join_4 ?_
  refine js_callq (pc := 5) F (c_sk_bad _ hy (G := G) (x := x) hx) mf_X3_sketchAt gX4_join_X3_sketchAt rfl (by decide) (by unfold js_kA; omega) (js_ct_A (by decide)) rfl rfl rfl (Nat.le_of_ble_eq_true rfl) dX4_join_5 ?_
  rintro _ _ ⟨rfl, rfl⟩
  show js_W X y 5 (js_Qi X y (fun r G' => jP (ms_join c x (nI i2)) r G G')) G (5 + 3) [(0, .ref (js_ad y (190))), (1, .int (x)), (2, .int (nI (i2)))] [.null]
  refine js_astore_nN (pc := 8) (lv2 := [(0, .ref (js_ad y (190))), (1, .int (x)), (2, .int (nI (i2))), (3, .null)]) F dX4_join_8 (by decide) [1, 2, 3, 0] rfl ?_
  refine js_aload_n (pc := 9) 0 F rfl dX4_join_9 ?_
  refine jg_X_now (pc := 10) F in_X4_join_4 (lk_X4_join_fieldLink_RX4_10_JoinedSketches_now_LJoinedSketches_State) dX4_join_10 ?_
  refine js_iload_n (pc := 13) 2 F rfl dX4_join_13 ?_
  refine js_callq (pc := 14) F (c_sk_ok _ hy (G := G) (i := i2) hi2) mf_X3_sketchAt gX4_join_X3_sketchAt rfl (by decide) (by unfold js_kA; omega) (js_ct_A (by decide)) rfl rfl rfl (Nat.le_of_ble_eq_true rfl) dX4_join_14 ?_
  rintro _ _ ⟨rfl, rfl⟩
  show js_W X y 5 (js_Qi X y (fun r G' => jP (ms_join c x (nI i2)) r G G')) G (14 + 3) [(0, .ref (js_ad y (190))), (1, .int (x)), (2, .int (nI (i2))), (3, .null)] [.ref (js_ad y (js_kS i2))]
  refine js_astore (pc := 17) (lv2 := [(0, .ref (js_ad y (190))), (1, .int (x)), (2, .int (nI (i2))), (3, .null), (4, .ref (js_ad y (js_kS i2)))]) F dX4_join_17 (by decide) [1, 2, 3, 4, 0] rfl ?_
  refine js_aload_nN (pc := 19) 3 F rfl dX4_join_19 ?_
  refine js_ifnullN (pc := 20) (tgt := 28) F dX4_join_20 (by decide) ?_
  refine js_iconst (pc := 28) (v := (-1)) F (by decide) dX4_join_28 ?_
  refine js_iret (pc := 29) F hr (rfl) ?_ dX4_join_29
  show jP (ms_join c x (nI i2)) _ _ _
  rw [show ms_join c x (nI i2) = (-1, c) from if_pos (Or.inl hx)]
  exact ⟨rfl, hC, js_frX.rf⟩
set_option maxHeartbeats 4000000 in
set_option maxRecDepth 100000 in
theorem c_X4_join_1c (la : Launch) {y : js_L} (hy : js_Dy y) {G : js_G} {c : js_C} (hC : jr_C G c) {i : Nat} (hi : i < 6) {z : Int32} (hz : jb z 6)  : js_Ci la y yX4_join wsX4_join 6 122 [.ref (js_ad y (190)), .int (nI (i)), .int (z)] G (fun r G' => jP (ms_join c (nI i) z) r G G') := by
  refine js_ofi mf_X4_join (Nat.le_of_ble_eq_true rfl) hy (fun X F hr => ?_)
  replace F : js_F X y cX4_join 5 RX4 wsX4_join 6 122 := F
  show js_W X y 5 _ G 0 [(0, .ref (js_ad y (190))), (1, .int (nI (i))), (2, .int (z))] []
  refine js_aload_n (pc := 0) 0 F rfl dX4_join_0 ?_
  refine jg_X_now (pc := 1) F in_X4_join_4 (lk_X4_join_fieldLink_RX4_10_JoinedSketches_now_LJoinedSketches_State) dX4_join_1 ?_
  refine js_iload_n (pc := 4) 1 F rfl dX4_join_4 ?_
  refine js_callq (pc := 5) F (c_sk_ok _ hy (G := G) (i := i) hi) mf_X3_sketchAt gX4_join_X3_sketchAt rfl (by decide) (by unfold js_kA; omega) (js_ct_A (by decide)) rfl rfl rfl (Nat.le_of_ble_eq_true rfl) dX4_join_5 ?_
  rintro _ _ ⟨rfl, rfl⟩
  show js_W X y 5 (js_Qi X y (fun r G' => jP (ms_join c (nI i) z) r G G')) G (5 + 3) [(0, .ref (js_ad y (190))), (1, .int (nI (i))), (2, .int (z))] [.ref (js_ad y (js_kS i))]
  refine js_astore_n (pc := 8) (lv2 := [(0, .ref (js_ad y (190))), (1, .int (nI (i))), (2, .int (z)), (3, .ref (js_ad y (js_kS i)))]) F dX4_join_8 (by decide) [1, 2, 3, 0] rfl ?_
  refine js_aload_n (pc := 9) 0 F rfl dX4_join_9 ?_
  refine jg_X_now (pc := 10) F in_X4_join_4 (lk_X4_join_fieldLink_RX4_10_JoinedSketches_now_LJoinedSketches_State) dX4_join_10 ?_
  refine js_iload_n (pc := 13) 2 F rfl dX4_join_13 ?_
  refine js_callq (pc := 14) F (c_sk_bad _ hy (G := G) (x := z) hz) mf_X3_sketchAt gX4_join_X3_sketchAt rfl (by decide) (by unfold js_kA; omega) (js_ct_A (by decide)) rfl rfl rfl (Nat.le_of_ble_eq_true rfl) dX4_join_14 ?_
  rintro _ _ ⟨rfl, rfl⟩
  show js_W X y 5 (js_Qi X y (fun r G' => jP (ms_join c (nI i) z) r G G')) G (14 + 3) [(0, .ref (js_ad y (190))), (1, .int (nI (i))), (2, .int (z)), (3, .ref (js_ad y (js_kS i)))] [.null]
  refine js_astoreN (pc := 17) (lv2 := [(0, .ref (js_ad y (190))), (1, .int (nI (i))), (2, .int (z)), (3, .ref (js_ad y (js_kS i))), (4, .null)]) F dX4_join_17 (by decide) [1, 2, 3, 4, 0] rfl ?_
  refine js_aload_n (pc := 19) 3 F rfl dX4_join_19 ?_
  refine js_ifnull (pc := 20) F dX4_join_20 ?_
  refine js_aloadN (pc := 23) 4 F rfl dX4_join_23 ?_
  refine js_ifnonnullN (pc := 25) F dX4_join_25 ?_
  refine js_iconst (pc := 28) (v := (-1)) F (by decide) dX4_join_28 ?_
  refine js_iret (pc := 29) F hr (rfl) ?_ dX4_join_29
  show jP (ms_join c (nI i) z) _ _ _
  rw [show ms_join c (nI i) z = (-1, c) from if_pos (Or.inr hz)]
  exact ⟨rfl, hC, js_frX.rf⟩
set_option maxHeartbeats 4000000 in
set_option maxRecDepth 100000 in
theorem c_X4_join_2 (la : Launch) {y : js_L} (hy : js_Dy y) {G : js_G} {c : js_C} (hC : jr_C G c) {i : Nat} (hi : i < 6) {i2 : Nat} (hi2 : i2 < 6) (hn : ¬ (i ≠ i2 ∧ (c.1.2 i).1 = (c.1.2 i2).1)) : js_Ci la y yX4_join wsX4_join 6 122 [.ref (js_ad y (190)), .int (nI (i)), .int (nI (i2))] G (fun r G' => jP (ms_join c (nI i) (nI i2)) r G G') := by
  have hS : jr_K G i (c.1.2 i) := hC.K hi
  have hp : 2 ^ (c.1.2 i).1 ≤ 64 := jm_p6 hS.2.1
  have hS2 : jr_K G i2 (c.1.2 i2) := hC.K hi2
  refine js_ofi mf_X4_join (Nat.le_of_ble_eq_true rfl) hy (fun X F hr => ?_)
  replace F : js_F X y cX4_join 5 RX4 wsX4_join 6 122 := F
  show js_W X y 5 _ G 0 [(0, .ref (js_ad y (190))), (1, .int (nI (i))), (2, .int (nI (i2)))] []
  refine js_aload_n (pc := 0) 0 F rfl dX4_join_0 ?_
  refine jg_X_now (pc := 1) F in_X4_join_4 (lk_X4_join_fieldLink_RX4_10_JoinedSketches_now_LJoinedSketches_State) dX4_join_1 ?_
  refine js_iload_n (pc := 4) 1 F rfl dX4_join_4 ?_
  refine js_callq (pc := 5) F (c_sk_ok _ hy (G := G) (i := i) hi) mf_X3_sketchAt gX4_join_X3_sketchAt rfl (by decide) (by unfold js_kA; omega) (js_ct_A (by decide)) rfl rfl rfl (Nat.le_of_ble_eq_true rfl) dX4_join_5 ?_
  rintro _ _ ⟨rfl, rfl⟩
  show js_W X y 5 (js_Qi X y (fun r G' => jP (ms_join c (nI i) (nI i2)) r G G')) G (5 + 3) [(0, .ref (js_ad y (190))), (1, .int (nI (i))), (2, .int (nI (i2)))] [.ref (js_ad y (js_kS i))]
  refine js_astore_n (pc := 8) (lv2 := [(0, .ref (js_ad y (190))), (1, .int (nI (i))), (2, .int (nI (i2))), (3, .ref (js_ad y (js_kS i)))]) F dX4_join_8 (by decide) [1, 2, 3, 0] rfl ?_
  refine js_aload_n (pc := 9) 0 F rfl dX4_join_9 ?_
  refine jg_X_now (pc := 10) F in_X4_join_4 (lk_X4_join_fieldLink_RX4_10_JoinedSketches_now_LJoinedSketches_State) dX4_join_10 ?_
  refine js_iload_n (pc := 13) 2 F rfl dX4_join_13 ?_
  refine js_callq (pc := 14) F (c_sk_ok _ hy (G := G) (i := i2) hi2) mf_X3_sketchAt gX4_join_X3_sketchAt rfl (by decide) (by unfold js_kA; omega) (js_ct_A (by decide)) rfl rfl rfl (Nat.le_of_ble_eq_true rfl) dX4_join_14 ?_
  rintro _ _ ⟨rfl, rfl⟩
  show js_W X y 5 (js_Qi X y (fun r G' => jP (ms_join c (nI i) (nI i2)) r G G')) G (14 + 3) [(0, .ref (js_ad y (190))), (1, .int (nI (i))), (2, .int (nI (i2))), (3, .ref (js_ad y (js_kS i)))] [.ref (js_ad y (js_kS i2))]
  refine js_astore (pc := 17) (lv2 := [(0, .ref (js_ad y (190))), (1, .int (nI (i))), (2, .int (nI (i2))), (3, .ref (js_ad y (js_kS i))), (4, .ref (js_ad y (js_kS i2)))]) F dX4_join_17 (by decide) [1, 2, 3, 4, 0] rfl ?_
  refine js_aload_n (pc := 19) 3 F rfl dX4_join_19 ?_
  refine js_ifnull (pc := 20) F dX4_join_20 ?_
  refine js_aload (pc := 23) 4 F rfl dX4_join_23 ?_
  refine js_ifnonnull (pc := 25) (tgt := 30) F dX4_join_25 (by decide) ?_
  refine js_aload_n (pc := 30) 3 F rfl dX4_join_30 ?_
  refine js_aload (pc := 31) 4 F rfl dX4_join_31 ?_
  refine js_callsi (pc := 33) F (c_X4_areToJoin _ hy (j := i) (by omega) (j2 := i2) (by omega) (G := G) hS.2.2.1 hS.2.1 hS2.2.2.1 hS2.2.1) mf_X4_areToJoin gX4_join_X4_areToJoin (by decide) rfl rfl (Nat.le_of_ble_eq_true rfl) dX4_join_33 ?_
  rintro _ _ ⟨rfl, rfl⟩
  refine js_if_neB (pc := 36) (tgt := 42) F dX4_join_36 (by decide) (fun h36 => by exact absurd h36 hn) (fun h36 => ?_)
  refine js_bipush (pc := 39) (v := (-5)) F (by decide) dX4_join_39 ?_
  refine js_iret (pc := 41) F hr (rfl) ?_ dX4_join_41
  show jP (ms_join c (nI i) (nI i2)) _ _ _
  rw [show ms_join c (nI i) (nI i2) = (-5, c) from by unfold ms_join; rw [if_neg (fun q => q.elim (jb_no hi (by decide)) (jb_no hi2 (by decide))), jx (by omega), jx (by omega), if_pos hn]]
  exact ⟨rfl, hC, js_frX.rf⟩
theorem lk_X4_join_fieldLink_RX4_19_JoinedSketches_history_LJoinedSketches_History : Cond.fieldLink RX4 19 "JoinedSketches" "history" "LJoinedSketches$History;" ∈ wsX4_join := by decide +kernel
set_option maxHeartbeats 4000000 in
set_option maxRecDepth 100000 in
theorem c_X4_join_3 (la : Launch) {y : js_L} (hy : js_Dy y) {G : js_G} {c : js_C} (hC : jr_C G c) {i : Nat} (hi : i < 6) {i2 : Nat} (hi2 : i2 < 6) (hn : i ≠ i2 ∧ (c.1.2 i).1 = (c.1.2 i2).1) : js_Ci la y yX4_join wsX4_join 6 122 [.ref (js_ad y (190)), .int (nI (i)), .int (nI (i2))] G (fun r G' => jP (ms_join c (nI i) (nI i2)) r G G') := by
  have hS : jr_K G i (c.1.2 i) := hC.K hi
  have hp : 2 ^ (c.1.2 i).1 ≤ 64 := jm_p6 hS.2.1
  have hS2 : jr_K G i2 (c.1.2 i2) := hC.K hi2
  refine js_ofi mf_X4_join (Nat.le_of_ble_eq_true rfl) hy (fun X F hr => ?_)
  replace F : js_F X y cX4_join 5 RX4 wsX4_join 6 122 := F
  show js_W X y 5 _ G 0 [(0, .ref (js_ad y (190))), (1, .int (nI (i))), (2, .int (nI (i2)))] []
  refine js_aload_n (pc := 0) 0 F rfl dX4_join_0 ?_
  refine jg_X_now (pc := 1) F in_X4_join_4 (lk_X4_join_fieldLink_RX4_10_JoinedSketches_now_LJoinedSketches_State) dX4_join_1 ?_
  refine js_iload_n (pc := 4) 1 F rfl dX4_join_4 ?_
  refine js_callq (pc := 5) F (c_sk_ok _ hy (G := G) (i := i) hi) mf_X3_sketchAt gX4_join_X3_sketchAt rfl (by decide) (by unfold js_kA; omega) (js_ct_A (by decide)) rfl rfl rfl (Nat.le_of_ble_eq_true rfl) dX4_join_5 ?_
  rintro _ _ ⟨rfl, rfl⟩
  show js_W X y 5 (js_Qi X y (fun r G' => jP (ms_join c (nI i) (nI i2)) r G G')) G (5 + 3) [(0, .ref (js_ad y (190))), (1, .int (nI (i))), (2, .int (nI (i2)))] [.ref (js_ad y (js_kS i))]
  refine js_astore_n (pc := 8) (lv2 := [(0, .ref (js_ad y (190))), (1, .int (nI (i))), (2, .int (nI (i2))), (3, .ref (js_ad y (js_kS i)))]) F dX4_join_8 (by decide) [1, 2, 3, 0] rfl ?_
  refine js_aload_n (pc := 9) 0 F rfl dX4_join_9 ?_
  refine jg_X_now (pc := 10) F in_X4_join_4 (lk_X4_join_fieldLink_RX4_10_JoinedSketches_now_LJoinedSketches_State) dX4_join_10 ?_
  refine js_iload_n (pc := 13) 2 F rfl dX4_join_13 ?_
  refine js_callq (pc := 14) F (c_sk_ok _ hy (G := G) (i := i2) hi2) mf_X3_sketchAt gX4_join_X3_sketchAt rfl (by decide) (by unfold js_kA; omega) (js_ct_A (by decide)) rfl rfl rfl (Nat.le_of_ble_eq_true rfl) dX4_join_14 ?_
  rintro _ _ ⟨rfl, rfl⟩
  show js_W X y 5 (js_Qi X y (fun r G' => jP (ms_join c (nI i) (nI i2)) r G G')) G (14 + 3) [(0, .ref (js_ad y (190))), (1, .int (nI (i))), (2, .int (nI (i2))), (3, .ref (js_ad y (js_kS i)))] [.ref (js_ad y (js_kS i2))]
  refine js_astore (pc := 17) (lv2 := [(0, .ref (js_ad y (190))), (1, .int (nI (i))), (2, .int (nI (i2))), (3, .ref (js_ad y (js_kS i))), (4, .ref (js_ad y (js_kS i2)))]) F dX4_join_17 (by decide) [1, 2, 3, 4, 0] rfl ?_
  refine js_aload_n (pc := 19) 3 F rfl dX4_join_19 ?_
  refine js_ifnull (pc := 20) F dX4_join_20 ?_
  refine js_aload (pc := 23) 4 F rfl dX4_join_23 ?_
  refine js_ifnonnull (pc := 25) (tgt := 30) F dX4_join_25 (by decide) ?_
  refine js_aload_n (pc := 30) 3 F rfl dX4_join_30 ?_
  refine js_aload (pc := 31) 4 F rfl dX4_join_31 ?_
  refine js_callsi (pc := 33) F (c_X4_areToJoin _ hy (j := i) (by omega) (j2 := i2) (by omega) (G := G) hS.2.2.1 hS.2.1 hS2.2.2.1 hS2.2.1) mf_X4_areToJoin gX4_join_X4_areToJoin (by decide) rfl rfl (Nat.le_of_ble_eq_true rfl) dX4_join_33 ?_
  rintro _ _ ⟨rfl, rfl⟩
  refine js_if_neB (pc := 36) (tgt := 42) F dX4_join_36 (by decide) (fun h36 => ?_) (fun h36 => by exact absurd hn h36)
  refine js_aload_n (pc := 42) 0 F rfl dX4_join_42 ?_
  refine jg_X_history (pc := 43) F in_X4_join_4 (lk_X4_join_fieldLink_RX4_19_JoinedSketches_history_LJoinedSketches_History) dX4_join_43 ?_
  refine js_aload_n (pc := 46) 0 F rfl dX4_join_46 ?_
  refine jg_X_now (pc := 47) F in_X4_join_4 (lk_X4_join_fieldLink_RX4_10_JoinedSketches_now_LJoinedSketches_State) dX4_join_47 ?_
  refine js_callv (pc := 50) F (c_X0_record _ hy (h := c.2.1) hC.2.1 hC.1) mf_X0_record gX4_join_X0_record rfl (by decide) (by decide) (js_ct_H) rfl rfl rfl (Nat.le_of_ble_eq_true rfl) dX4_join_50 ?_
  rintro G1 ⟨q1, q2⟩
  have hC1 := hC.rec q1 q2
  have hS1 : jr_K G1 i (c.1.2 i) := hC1.K hi
  have hS21 : jr_K G1 i2 (c.1.2 i2) := hC1.K hi2
  refine js_aload_n (pc := 53) 3 F rfl dX4_join_53 ?_
  refine js_aload (pc := 54) 4 F rfl dX4_join_54 ?_
  refine js_callv (pc := 56) F (c_X2_takeAll _ hy (j := i) (by omega) (j2 := i2) (by omega) (Ne.symm hn.1) (hS1) (by rw [hn.2]; exact hS21)) mf_X2_takeAll gX4_join_X2_takeAll rfl (by decide) (by unfold js_kS; omega) (js_ct_S (by omega)) rfl rfl rfl (Nat.le_of_ble_eq_true rfl) dX4_join_56 ?_
  rintro G2 ⟨p1, p2⟩
  refine js_aload_n (pc := 59) 3 F rfl dX4_join_59 ?_
  refine js_calli (pc := 60) F (c_X2_estimate _ hy (by omega) (G := G2) (B := (c.1.2 i).1) (p1.2.2.1) (by first | exact hS.2.1 | exact hS2.2.1) (rk := jm_mx (c.1.2 i).2.1 (c.1.2 i2).2.1) (p1.2.2.2.1) (fun b hb => Nat.le_trans (p1.2.2.2.2.1 b hb) (by have := p1.1; omega))) mf_X2_estimate gX4_join_X2_estimate rfl (by decide) (by unfold js_kS; omega) (js_ct_S (by omega)) rfl rfl rfl (Nat.le_of_ble_eq_true rfl) dX4_join_60 ?_
  rintro _ _ ⟨rfl, rfl⟩
  refine js_iret (pc := 63) F hr (rfl) ?_ dX4_join_63
  show jP (ms_join c (nI i) (nI i2)) _ _ _
  rw [show ms_join c (nI i) (nI i2) = (nI (jm_esK (jm_joK (c.1.2 i) (c.1.2 i2))), jm_chg c (jm_sk c.1 i (jm_joK (c.1.2 i) (c.1.2 i2)))) from by unfold ms_join; rw [if_neg (fun q => q.elim (jb_no hi (by decide)) (jb_no hi2 (by decide))), jx (by omega), jx (by omega), if_neg (fun q => q hn)]]
  exact ⟨rfl, hC1.sk hi p2 p1, (js_frX.ofH q2).tr (js_frX.of p2 (by omega))⟩
theorem in_X4_fold_4 : ∀ w ∈ wsX40, w ∈ wsX4_fold := by decide +kernel
theorem lk_X4_fold_fieldLink_RX4_10_JoinedSketches_now_LJoinedSketches_State : Cond.fieldLink RX4 10 "JoinedSketches" "now" "LJoinedSketches$State;" ∈ wsX4_fold := by decide +kernel
theorem mf_X4_fold : js_M yX4_fold cX4_fold 3 (some .int) wsX4_fold 1 := ⟨⟨_, rfl⟩, by decide +kernel, by decide +kernel, by decide +kernel, by decide +kernel⟩
set_option maxHeartbeats 4000000 in
set_option maxRecDepth 100000 in
theorem c_X4_fold_1 (la : Launch) {y : js_L} (hy : js_Dy y) {G : js_G} {c : js_C} (hC : jr_C G c) {x : Int32} (hx : jb x 6) : js_Ci la y yX4_fold wsX4_fold 5 122 [.ref (js_ad y (190)), .int (x)] G (fun r G' => jP (ms_fold c x) r G G') := by
  refine js_ofi mf_X4_fold (Nat.le_of_ble_eq_true rfl) hy (fun X F hr => ?_)
  replace F : js_F X y cX4_fold 3 RX4 wsX4_fold 5 122 := F
  show js_W X y 3 _ G 0 [(0, .ref (js_ad y (190))), (1, .int (x))] []
  refine js_aload_n (pc := 0) 0 F rfl dX4_fold_0 ?_
  refine jg_X_now (pc := 1) F in_X4_fold_4 (lk_X4_fold_fieldLink_RX4_10_JoinedSketches_now_LJoinedSketches_State) dX4_fold_1 ?_
  refine js_iload_n (pc := 4) 1 F rfl dX4_fold_4 ?_
  refine js_callq (pc := 5) F (c_sk_bad _ hy (G := G) (x := x) hx) mf_X3_sketchAt gX4_fold_X3_sketchAt rfl (by decide) (by unfold js_kA; omega) (js_ct_A (by decide)) rfl rfl rfl (Nat.le_of_ble_eq_true rfl) dX4_fold_5 ?_
  rintro _ _ ⟨rfl, rfl⟩
  show js_W X y 3 (js_Qi X y (fun r G' => jP (ms_fold c x) r G G')) G (5 + 3) [(0, .ref (js_ad y (190))), (1, .int (x))] [.null]
  refine js_astore_nN (pc := 8) (lv2 := [(0, .ref (js_ad y (190))), (1, .int (x)), (2, .null)]) F dX4_fold_8 (by decide) [1, 2, 0] rfl ?_
  refine js_aload_nN (pc := 9) 2 F rfl dX4_fold_9 ?_
  refine js_ifnonnullN (pc := 10) F dX4_fold_10 ?_
  refine js_iconst (pc := 13) (v := (-1)) F (by decide) dX4_fold_13 ?_
  refine js_iret (pc := 14) F hr (rfl) ?_ dX4_fold_14
  show jP (ms_fold c x) _ _ _
  rw [show ms_fold c x = (-1, c) from if_pos hx]
  exact ⟨rfl, hC, js_frX.rf⟩
set_option maxHeartbeats 4000000 in
set_option maxRecDepth 100000 in
theorem c_X4_fold_2 (la : Launch) {y : js_L} (hy : js_Dy y) {G : js_G} {c : js_C} (hC : jr_C G c) {i : Nat} (hi : i < 6) (hn : ¬ 2 < (c.1.2 i).1) : js_Ci la y yX4_fold wsX4_fold 5 122 [.ref (js_ad y (190)), .int (nI (i))] G (fun r G' => jP (ms_fold c (nI i)) r G G') := by
  have hS : jr_K G i (c.1.2 i) := hC.K hi
  have hp : 2 ^ (c.1.2 i).1 ≤ 64 := jm_p6 hS.2.1
  refine js_ofi mf_X4_fold (Nat.le_of_ble_eq_true rfl) hy (fun X F hr => ?_)
  replace F : js_F X y cX4_fold 3 RX4 wsX4_fold 5 122 := F
  show js_W X y 3 _ G 0 [(0, .ref (js_ad y (190))), (1, .int (nI (i)))] []
  refine js_aload_n (pc := 0) 0 F rfl dX4_fold_0 ?_
  refine jg_X_now (pc := 1) F in_X4_fold_4 (lk_X4_fold_fieldLink_RX4_10_JoinedSketches_now_LJoinedSketches_State) dX4_fold_1 ?_
  refine js_iload_n (pc := 4) 1 F rfl dX4_fold_4 ?_
  refine js_callq (pc := 5) F (c_sk_ok _ hy (G := G) (i := i) hi) mf_X3_sketchAt gX4_fold_X3_sketchAt rfl (by decide) (by unfold js_kA; omega) (js_ct_A (by decide)) rfl rfl rfl (Nat.le_of_ble_eq_true rfl) dX4_fold_5 ?_
  rintro _ _ ⟨rfl, rfl⟩
  show js_W X y 3 (js_Qi X y (fun r G' => jP (ms_fold c (nI i)) r G G')) G (5 + 3) [(0, .ref (js_ad y (190))), (1, .int (nI (i)))] [.ref (js_ad y (js_kS i))]
  refine js_astore_n (pc := 8) (lv2 := [(0, .ref (js_ad y (190))), (1, .int (nI (i))), (2, .ref (js_ad y (js_kS i)))]) F dX4_fold_8 (by decide) [1, 2, 0] rfl ?_
  refine js_aload_n (pc := 9) 2 F rfl dX4_fold_9 ?_
  refine js_ifnonnull (pc := 10) (tgt := 15) F dX4_fold_10 (by decide) ?_
  refine js_aload_n (pc := 15) 2 F rfl dX4_fold_15 ?_
  refine js_callsi (pc := 16) F (c_X4_isToFold _ hy (by omega) (G := G) (B := (c.1.2 i).1) (hS.2.2.1) (hS.2.1)) mf_X4_isToFold gX4_fold_X4_isToFold (by decide) rfl rfl (Nat.le_of_ble_eq_true rfl) dX4_fold_16 ?_
  rintro _ _ ⟨rfl, rfl⟩
  refine js_if_neB (pc := 19) (tgt := 25) F dX4_fold_19 (by decide) (fun h19 => by exact absurd h19 hn) (fun h19 => ?_)
  refine js_bipush (pc := 22) (v := (-5)) F (by decide) dX4_fold_22 ?_
  refine js_iret (pc := 24) F hr (rfl) ?_ dX4_fold_24
  show jP (ms_fold c (nI i)) _ _ _
  rw [show ms_fold c (nI i) = (-5, c) from by unfold ms_fold; rw [if_neg (jb_no hi (by decide)), jx (by omega), if_pos hn]]
  exact ⟨rfl, hC, js_frX.rf⟩
theorem lk_X4_fold_fieldLink_RX4_19_JoinedSketches_history_LJoinedSketches_History : Cond.fieldLink RX4 19 "JoinedSketches" "history" "LJoinedSketches$History;" ∈ wsX4_fold := by decide +kernel
set_option maxHeartbeats 4000000 in
set_option maxRecDepth 100000 in
theorem c_X4_fold_3 (la : Launch) {y : js_L} (hy : js_Dy y) {G : js_G} {c : js_C} (hC : jr_C G c) {i : Nat} (hi : i < 6) (hn : 2 < (c.1.2 i).1) : js_Ci la y yX4_fold wsX4_fold 5 122 [.ref (js_ad y (190)), .int (nI (i))] G (fun r G' => jP (ms_fold c (nI i)) r G G') := by
  have hS : jr_K G i (c.1.2 i) := hC.K hi
  have hp : 2 ^ (c.1.2 i).1 ≤ 64 := jm_p6 hS.2.1
  have hB6 := hS.2.1
  refine js_ofi mf_X4_fold (Nat.le_of_ble_eq_true rfl) hy (fun X F hr => ?_)
  replace F : js_F X y cX4_fold 3 RX4 wsX4_fold 5 122 := F
  show js_W X y 3 _ G 0 [(0, .ref (js_ad y (190))), (1, .int (nI (i)))] []
  refine js_aload_n (pc := 0) 0 F rfl dX4_fold_0 ?_
  refine jg_X_now (pc := 1) F in_X4_fold_4 (lk_X4_fold_fieldLink_RX4_10_JoinedSketches_now_LJoinedSketches_State) dX4_fold_1 ?_
  refine js_iload_n (pc := 4) 1 F rfl dX4_fold_4 ?_
  refine js_callq (pc := 5) F (c_sk_ok _ hy (G := G) (i := i) hi) mf_X3_sketchAt gX4_fold_X3_sketchAt rfl (by decide) (by unfold js_kA; omega) (js_ct_A (by decide)) rfl rfl rfl (Nat.le_of_ble_eq_true rfl) dX4_fold_5 ?_
  rintro _ _ ⟨rfl, rfl⟩
  show js_W X y 3 (js_Qi X y (fun r G' => jP (ms_fold c (nI i)) r G G')) G (5 + 3) [(0, .ref (js_ad y (190))), (1, .int (nI (i)))] [.ref (js_ad y (js_kS i))]
  refine js_astore_n (pc := 8) (lv2 := [(0, .ref (js_ad y (190))), (1, .int (nI (i))), (2, .ref (js_ad y (js_kS i)))]) F dX4_fold_8 (by decide) [1, 2, 0] rfl ?_
  refine js_aload_n (pc := 9) 2 F rfl dX4_fold_9 ?_
  refine js_ifnonnull (pc := 10) (tgt := 15) F dX4_fold_10 (by decide) ?_
  refine js_aload_n (pc := 15) 2 F rfl dX4_fold_15 ?_
  refine js_callsi (pc := 16) F (c_X4_isToFold _ hy (by omega) (G := G) (B := (c.1.2 i).1) (hS.2.2.1) (by first | exact hS.2.1 | omega)) mf_X4_isToFold gX4_fold_X4_isToFold (by decide) rfl rfl (Nat.le_of_ble_eq_true rfl) dX4_fold_16 ?_
  rintro _ _ ⟨rfl, rfl⟩
  refine js_if_neB (pc := 19) (tgt := 25) F dX4_fold_19 (by decide) (fun h19 => ?_) (fun h19 => by exact absurd hn h19)
  refine js_aload_n (pc := 25) 0 F rfl dX4_fold_25 ?_
  refine jg_X_history (pc := 26) F in_X4_fold_4 (lk_X4_fold_fieldLink_RX4_19_JoinedSketches_history_LJoinedSketches_History) dX4_fold_26 ?_
  refine js_aload_n (pc := 29) 0 F rfl dX4_fold_29 ?_
  refine jg_X_now (pc := 30) F in_X4_fold_4 (lk_X4_fold_fieldLink_RX4_10_JoinedSketches_now_LJoinedSketches_State) dX4_fold_30 ?_
  refine js_callv (pc := 33) F (c_X0_record _ hy (h := c.2.1) hC.2.1 hC.1) mf_X0_record gX4_fold_X0_record rfl (by decide) (by decide) (js_ct_H) rfl rfl rfl (Nat.le_of_ble_eq_true rfl) dX4_fold_33 ?_
  rintro G1 ⟨q1, q2⟩
  have hC1 := hC.rec q1 q2
  have hS1 : jr_K G1 i (c.1.2 i) := hC1.K hi
  refine js_aload_n (pc := 36) 2 F rfl dX4_fold_36 ?_
  refine js_callv (pc := 37) F (c_X2_halve _ hy (j := i) (by omega) (G := G1) hS1 hn) mf_X2_halve gX4_fold_X2_halve rfl (by decide) (by unfold js_kS; omega) (js_ct_S (by omega)) rfl rfl rfl (Nat.le_of_ble_eq_true rfl) dX4_fold_37 ?_
  rintro G2 ⟨p1, p2⟩
  refine js_aload_n (pc := 40) 2 F rfl dX4_fold_40 ?_
  refine js_calli (pc := 41) F (c_X2_buckets _ hy (by omega) (G := G2) (B := (c.1.2 i).1 - 1) (p1.2.2.1) (by first | exact hS.2.1 | omega)) mf_X2_buckets gX4_fold_X2_buckets rfl (by decide) (by unfold js_kS; omega) (js_ct_S (by omega)) rfl rfl rfl (Nat.le_of_ble_eq_true rfl) dX4_fold_41 ?_
  rintro _ _ ⟨rfl, rfl⟩
  refine js_iret (pc := 44) F hr (rfl) ?_ dX4_fold_44
  show jP (ms_fold c (nI i)) _ _ _
  rw [show ms_fold c (nI i) = (nI (2 ^ ((c.1.2 i).1 - 1)), jm_chg c (jm_sk c.1 i (jm_foK (c.1.2 i)))) from by unfold ms_fold; rw [if_neg (jb_no hi (by decide)), jx (by omega), if_neg (fun q => q hn)]]
  exact ⟨rfl, hC1.sk hi p2 p1, (js_frX.ofH q2).tr (js_frX.of p2 (by omega))⟩
theorem in_X4_empty_4 : ∀ w ∈ wsX40, w ∈ wsX4_empty := by decide +kernel
theorem lk_X4_empty_fieldLink_RX4_10_JoinedSketches_now_LJoinedSketches_State : Cond.fieldLink RX4 10 "JoinedSketches" "now" "LJoinedSketches$State;" ∈ wsX4_empty := by decide +kernel
theorem mf_X4_empty : js_M yX4_empty cX4_empty 4 (some .int) wsX4_empty 1 := ⟨⟨_, rfl⟩, by decide +kernel, by decide +kernel, by decide +kernel, by decide +kernel⟩
set_option maxHeartbeats 4000000 in
set_option maxRecDepth 100000 in
theorem c_X4_empty_1 (la : Launch) {y : js_L} (hy : js_Dy y) {G : js_G} {c : js_C} (hC : jr_C G c) {x : Int32} (hx : jb x 6) : js_Ci la y yX4_empty wsX4_empty 5 122 [.ref (js_ad y (190)), .int (x)] G (fun r G' => jP (ms_empty c x) r G G') := by
  refine js_ofi mf_X4_empty (Nat.le_of_ble_eq_true rfl) hy (fun X F hr => ?_)
  replace F : js_F X y cX4_empty 4 RX4 wsX4_empty 5 122 := F
  show js_W X y 4 _ G 0 [(0, .ref (js_ad y (190))), (1, .int (x))] []
  refine js_aload_n (pc := 0) 0 F rfl dX4_empty_0 ?_
  refine jg_X_now (pc := 1) F in_X4_empty_4 (lk_X4_empty_fieldLink_RX4_10_JoinedSketches_now_LJoinedSketches_State) dX4_empty_1 ?_
  refine js_iload_n (pc := 4) 1 F rfl dX4_empty_4 ?_
  refine js_callq (pc := 5) F (c_sk_bad _ hy (G := G) (x := x) hx) mf_X3_sketchAt gX4_empty_X3_sketchAt rfl (by decide) (by unfold js_kA; omega) (js_ct_A (by decide)) rfl rfl rfl (Nat.le_of_ble_eq_true rfl) dX4_empty_5 ?_
  rintro _ _ ⟨rfl, rfl⟩
  show js_W X y 4 (js_Qi X y (fun r G' => jP (ms_empty c x) r G G')) G (5 + 3) [(0, .ref (js_ad y (190))), (1, .int (x))] [.null]
  refine js_astore_nN (pc := 8) (lv2 := [(0, .ref (js_ad y (190))), (1, .int (x)), (2, .null)]) F dX4_empty_8 (by decide) [1, 2, 0] rfl ?_
  refine js_aload_nN (pc := 9) 2 F rfl dX4_empty_9 ?_
  refine js_ifnonnullN (pc := 10) F dX4_empty_10 ?_
  refine js_iconst (pc := 13) (v := (-1)) F (by decide) dX4_empty_13 ?_
  refine js_iret (pc := 14) F hr (rfl) ?_ dX4_empty_14
  show jP (ms_empty c x) _ _ _
  rw [show ms_empty c x = (-1, c) from if_pos hx]
  exact ⟨rfl, hC, js_frX.rf⟩
theorem in_X4_empty_2 : ∀ w ∈ wsX20, w ∈ wsX4_empty := by decide +kernel
theorem lk_X4_empty_fieldLink_RX4_19_JoinedSketches_history_LJoinedSketches_History : Cond.fieldLink RX4 19 "JoinedSketches" "history" "LJoinedSketches$History;" ∈ wsX4_empty := by decide +kernel
set_option maxHeartbeats 4000000 in
set_option maxRecDepth 100000 in
theorem c_X4_empty_3 (la : Launch) {y : js_L} (hy : js_Dy y) {G : js_G} {c : js_C} (hC : jr_C G c) {i : Nat} (hi : i < 6) : js_Ci la y yX4_empty wsX4_empty 5 122 [.ref (js_ad y (190)), .int (nI (i))] G (fun r G' => jP (ms_empty c (nI i)) r G G') := by
  have hS : jr_K G i (c.1.2 i) := hC.K hi
  have hp : 2 ^ (c.1.2 i).1 ≤ 64 := jm_p6 hS.2.1
  refine js_ofi mf_X4_empty (Nat.le_of_ble_eq_true rfl) hy (fun X F hr => ?_)
  replace F : js_F X y cX4_empty 4 RX4 wsX4_empty 5 122 := F
  show js_W X y 4 _ G 0 [(0, .ref (js_ad y (190))), (1, .int (nI (i)))] []
  refine js_aload_n (pc := 0) 0 F rfl dX4_empty_0 ?_
  refine jg_X_now (pc := 1) F in_X4_empty_4 (lk_X4_empty_fieldLink_RX4_10_JoinedSketches_now_LJoinedSketches_State) dX4_empty_1 ?_
  refine js_iload_n (pc := 4) 1 F rfl dX4_empty_4 ?_
  refine js_callq (pc := 5) F (c_sk_ok _ hy (G := G) (i := i) hi) mf_X3_sketchAt gX4_empty_X3_sketchAt rfl (by decide) (by unfold js_kA; omega) (js_ct_A (by decide)) rfl rfl rfl (Nat.le_of_ble_eq_true rfl) dX4_empty_5 ?_
  rintro _ _ ⟨rfl, rfl⟩
  show js_W X y 4 (js_Qi X y (fun r G' => jP (ms_empty c (nI i)) r G G')) G (5 + 3) [(0, .ref (js_ad y (190))), (1, .int (nI (i)))] [.ref (js_ad y (js_kS i))]
  refine js_astore_n (pc := 8) (lv2 := [(0, .ref (js_ad y (190))), (1, .int (nI (i))), (2, .ref (js_ad y (js_kS i)))]) F dX4_empty_8 (by decide) [1, 2, 0] rfl ?_
  refine js_aload_n (pc := 9) 2 F rfl dX4_empty_9 ?_
  refine js_ifnonnull (pc := 10) (tgt := 15) F dX4_empty_10 (by decide) ?_
  refine js_aload_n (pc := 15) 0 F rfl dX4_empty_15 ?_
  refine jg_X_history (pc := 16) F in_X4_empty_4 (lk_X4_empty_fieldLink_RX4_19_JoinedSketches_history_LJoinedSketches_History) dX4_empty_16 ?_
  refine js_aload_n (pc := 19) 0 F rfl dX4_empty_19 ?_
  refine jg_X_now (pc := 20) F in_X4_empty_4 (lk_X4_empty_fieldLink_RX4_10_JoinedSketches_now_LJoinedSketches_State) dX4_empty_20 ?_
  refine js_callv (pc := 23) F (c_X0_record _ hy (h := c.2.1) hC.2.1 hC.1) mf_X0_record gX4_empty_X0_record rfl (by decide) (by decide) (js_ct_H) rfl rfl rfl (Nat.le_of_ble_eq_true rfl) dX4_empty_23 ?_
  rintro G1 ⟨q1, q2⟩
  have hC1 := hC.rec q1 q2
  have hS1 : jr_K G1 i (c.1.2 i) := hC1.K hi
  refine js_aload_n (pc := 26) 2 F rfl dX4_empty_26 ?_
  refine js_calli (pc := 27) F (c_X2_filledBuckets _ hy (by omega) (G := G1) (B := (c.1.2 i).1) (hS1.2.2.1) (by first | exact hS.2.1 | exact hS2.2.1) (rk := (c.1.2 i).2.1) (hS1.2.2.2.1) (fun b hb => Nat.le_trans (hS1.2.2.2.2.1 b hb) (by have := hS1.1; omega))) mf_X2_filledBuckets gX4_empty_X2_filledBuckets rfl (by decide) (by unfold js_kS; omega) (js_ct_S (by omega)) rfl rfl rfl (Nat.le_of_ble_eq_true rfl) dX4_empty_27 ?_
  rintro _ _ ⟨rfl, rfl⟩
  refine js_istore_n (pc := 30) (lv2 := [(0, .ref (js_ad y (190))), (1, .int (nI (i))), (2, .ref (js_ad y (js_kS i))), (3, .int (nI (jm_fil (c.1.2 i).2.1 (2 ^ ((c.1.2 i).1)))))]) F dX4_empty_30 (by decide) [1, 2, 3, 0] rfl ?_
  refine js_aload_n (pc := 31) 2 F rfl dX4_empty_31 ?_
  refine js_aload_n (pc := 32) 2 F rfl dX4_empty_32 ?_
  refine jgN_4_62 (pc := 33) (v := nI ((c.1.2 i).1)) F in_X4_empty_2 (by omega) (hS1.2.2.1) dX4_empty_33 ?_
  refine js_callv (pc := 36) F (c_X2_startAgain _ hy (j := i) (by omega) (G := G1) (B := (c.1.2 i).1) hS.1 hS.2.1) mf_X2_startAgain gX4_empty_X2_startAgain rfl (by decide) (by unfold js_kS; omega) (js_ct_S (by omega)) rfl rfl rfl (Nat.le_of_ble_eq_true rfl) dX4_empty_36 ?_
  rintro G2 ⟨p1, p2⟩
  refine js_iload_n (pc := 39) 3 F rfl dX4_empty_39 ?_
  refine js_iret (pc := 40) F hr (rfl) ?_ dX4_empty_40
  show jP (ms_empty c (nI i)) _ _ _
  rw [show ms_empty c (nI i) = (nI (jm_fiK (c.1.2 i)), jm_chg c (jm_sk c.1 i (jm_e (c.1.2 i)))) from by unfold ms_empty; rw [if_neg (jb_no hi (by decide)), jx (by omega)]]
  exact ⟨rfl, hC1.sk hi p2 p1, (js_frX.ofH q2).tr (js_frX.of p2 (by omega))⟩
theorem in_X4_thing_4 : ∀ w ∈ wsX40, w ∈ wsX4_thing := by decide +kernel
theorem lk_X4_thing_fieldLink_RX4_10_JoinedSketches_now_LJoinedSketches_State : Cond.fieldLink RX4 10 "JoinedSketches" "now" "LJoinedSketches$State;" ∈ wsX4_thing := by decide +kernel
theorem mf_X4_thing : js_M yX4_thing cX4_thing 6 (some .int) wsX4_thing 3 := ⟨⟨_, rfl⟩, by decide +kernel, by decide +kernel, by decide +kernel, by decide +kernel⟩
set_option maxHeartbeats 4000000 in
set_option maxRecDepth 100000 in
theorem c_X4_thing_1 (la : Launch) {y : js_L} (hy : js_Dy y) {G : js_G} {c : js_C} (hC : jr_C G c) {x : Int32} {t : Int32} {w : Int32} (hx : jb x 6) : js_Ci la y yX4_thing wsX4_thing 4 76 [.ref (js_ad y (190)), .int (x), .int (t), .int (w)] G (fun r G' => jP (mq_thing c x t w, c) r G G') := by
  refine js_ofi mf_X4_thing (Nat.le_of_ble_eq_true rfl) hy (fun X F hr => ?_)
  replace F : js_F X y cX4_thing 6 RX4 wsX4_thing 4 76 := F
  show js_W X y 6 _ G 0 [(0, .ref (js_ad y (190))), (1, .int (x)), (2, .int (t)), (3, .int (w))] []
  refine js_aload_n (pc := 0) 0 F rfl dX4_thing_0 ?_
  refine jg_X_now (pc := 1) F in_X4_thing_4 (lk_X4_thing_fieldLink_RX4_10_JoinedSketches_now_LJoinedSketches_State) dX4_thing_1 ?_
  refine js_iload_n (pc := 4) 1 F rfl dX4_thing_4 ?_
  refine js_callq (pc := 5) F (c_sk_bad _ hy (G := G) (x := x) hx) mf_X3_sketchAt gX4_thing_X3_sketchAt rfl (by decide) (by unfold js_kA; omega) (js_ct_A (by decide)) rfl rfl rfl (Nat.le_of_ble_eq_true rfl) dX4_thing_5 ?_
  rintro _ _ ⟨rfl, rfl⟩
  show js_W X y 6 (js_Qi X y (fun r G' => jP (mq_thing c x t w, c) r G G')) G (5 + 3) [(0, .ref (js_ad y (190))), (1, .int (x)), (2, .int (t)), (3, .int (w))] [.null]
  refine js_astoreN (pc := 8) (lv2 := [(0, .ref (js_ad y (190))), (1, .int (x)), (2, .int (t)), (3, .int (w)), (4, .null)]) F dX4_thing_8 (by decide) [1, 2, 3, 4, 0] rfl ?_
  refine js_aloadN (pc := 10) 4 F rfl dX4_thing_10 ?_
  refine js_ifnonnullN (pc := 12) F dX4_thing_12 ?_
  refine js_iconst (pc := 15) (v := (-1)) F (by decide) dX4_thing_15 ?_
  refine js_iret (pc := 16) F hr (rfl) ?_ dX4_thing_16
  show jP (mq_thing c x t w, c) _ _ _
  rw [show mq_thing c x t w = -1 from if_pos hx]
  exact ⟨rfl, hC, js_frX.rf⟩
set_option maxHeartbeats 4000000 in
set_option maxRecDepth 100000 in
theorem c_X4_thing_2 (la : Launch) {y : js_L} (hy : js_Dy y) {G : js_G} {c : js_C} (hC : jr_C G c) {i : Nat} (hi : i < 6) {t w : Int32} (ht : jb t 100000) : js_Ci la y yX4_thing wsX4_thing 4 76 [.ref (js_ad y (190)), .int (nI (i)), .int (t), .int (w)] G (fun r G' => jP (mq_thing c (nI i) t w, c) r G G') := by
  refine js_ofi mf_X4_thing (Nat.le_of_ble_eq_true rfl) hy (fun X F hr => ?_)
  replace F : js_F X y cX4_thing 6 RX4 wsX4_thing 4 76 := F
  show js_W X y 6 _ G 0 [(0, .ref (js_ad y (190))), (1, .int (nI (i))), (2, .int (t)), (3, .int (w))] []
  refine js_aload_n (pc := 0) 0 F rfl dX4_thing_0 ?_
  refine jg_X_now (pc := 1) F in_X4_thing_4 (lk_X4_thing_fieldLink_RX4_10_JoinedSketches_now_LJoinedSketches_State) dX4_thing_1 ?_
  refine js_iload_n (pc := 4) 1 F rfl dX4_thing_4 ?_
  refine js_callq (pc := 5) F (c_sk_ok _ hy (G := G) (i := i) hi) mf_X3_sketchAt gX4_thing_X3_sketchAt rfl (by decide) (by unfold js_kA; omega) (js_ct_A (by decide)) rfl rfl rfl (Nat.le_of_ble_eq_true rfl) dX4_thing_5 ?_
  rintro _ _ ⟨rfl, rfl⟩
  show js_W X y 6 (js_Qi X y (fun r G' => jP (mq_thing c (nI i) t w, c) r G G')) G (5 + 3) [(0, .ref (js_ad y (190))), (1, .int (nI (i))), (2, .int (t)), (3, .int (w))] [.ref (js_ad y (js_kS i))]
  refine js_astore (pc := 8) (lv2 := [(0, .ref (js_ad y (190))), (1, .int (nI (i))), (2, .int (t)), (3, .int (w)), (4, .ref (js_ad y (js_kS i)))]) F dX4_thing_8 (by decide) [1, 2, 3, 4, 0] rfl ?_
  refine js_aload (pc := 10) 4 F rfl dX4_thing_10 ?_
  refine js_ifnonnull (pc := 12) (tgt := 17) F dX4_thing_12 (by decide) ?_
  refine js_iload_n (pc := 17) 2 F rfl dX4_thing_17 ?_
  refine js_callsi (pc := 18) F (c_X4_isThing _ hy (x := t)) mf_X4_isThing gX4_thing_X4_isThing (by decide) rfl rfl (Nat.le_of_ble_eq_true rfl) dX4_thing_18 ?_
  rintro _ _ ⟨rfl, rfl⟩
  rw [show (if jb (t) 100000 then 0 else 1) = (if ¬ jb (t) 100000 then 1 else 0) from by split <;> simp_all]
  refine js_if_neB (pc := 21) (tgt := 27) F dX4_thing_21 (by decide) (fun h21 => by exact absurd ht h21) (fun h21 => ?_)
  refine js_bipush (pc := 24) (v := (-2)) F (by decide) dX4_thing_24 ?_
  refine js_iret (pc := 26) F hr (rfl) ?_ dX4_thing_26
  show jP (mq_thing c (nI i) t w, c) _ _ _
  rw [show mq_thing c (nI i) t w = -2 from by unfold mq_thing; rw [if_neg (jb_no hi (by decide)), if_pos ht]]
  exact ⟨rfl, hC, js_frX.rf⟩
theorem in_X4_thing_3 : ∀ w ∈ wsX30, w ∈ wsX4_thing := by decide +kernel
set_option maxHeartbeats 4000000 in
set_option maxRecDepth 100000 in
theorem c_X4_thing_3 (la : Launch) {y : js_L} (hy : js_Dy y) {G : js_G} {c : js_C} (hC : jr_C G c) {i : Nat} (hi : i < 6) {t : Nat} (ht : t < 100000) {w : Int32} (hw : jb w 4) : js_Ci la y yX4_thing wsX4_thing 4 76 [.ref (js_ad y (190)), .int (nI (i)), .int (nI (t)), .int (w)] G (fun r G' => jP (mq_thing c (nI i) (nI t) w, c) r G G') := by
  have hS : jr_K G i (c.1.2 i) := hC.K hi
  have hp : 2 ^ (c.1.2 i).1 ≤ 64 := jm_p6 hS.2.1
  refine js_ofi mf_X4_thing (Nat.le_of_ble_eq_true rfl) hy (fun X F hr => ?_)
  replace F : js_F X y cX4_thing 6 RX4 wsX4_thing 4 76 := F
  show js_W X y 6 _ G 0 [(0, .ref (js_ad y (190))), (1, .int (nI (i))), (2, .int (nI (t))), (3, .int (w))] []
  refine js_aload_n (pc := 0) 0 F rfl dX4_thing_0 ?_
  refine jg_X_now (pc := 1) F in_X4_thing_4 (lk_X4_thing_fieldLink_RX4_10_JoinedSketches_now_LJoinedSketches_State) dX4_thing_1 ?_
  refine js_iload_n (pc := 4) 1 F rfl dX4_thing_4 ?_
  refine js_callq (pc := 5) F (c_sk_ok _ hy (G := G) (i := i) hi) mf_X3_sketchAt gX4_thing_X3_sketchAt rfl (by decide) (by unfold js_kA; omega) (js_ct_A (by decide)) rfl rfl rfl (Nat.le_of_ble_eq_true rfl) dX4_thing_5 ?_
  rintro _ _ ⟨rfl, rfl⟩
  show js_W X y 6 (js_Qi X y (fun r G' => jP (mq_thing c (nI i) (nI t) w, c) r G G')) G (5 + 3) [(0, .ref (js_ad y (190))), (1, .int (nI (i))), (2, .int (nI (t))), (3, .int (w))] [.ref (js_ad y (js_kS i))]
  refine js_astore (pc := 8) (lv2 := [(0, .ref (js_ad y (190))), (1, .int (nI (i))), (2, .int (nI (t))), (3, .int (w)), (4, .ref (js_ad y (js_kS i)))]) F dX4_thing_8 (by decide) [1, 2, 3, 4, 0] rfl ?_
  refine js_aload (pc := 10) 4 F rfl dX4_thing_10 ?_
  refine js_ifnonnull (pc := 12) (tgt := 17) F dX4_thing_12 (by decide) ?_
  refine js_iload_n (pc := 17) 2 F rfl dX4_thing_17 ?_
  refine js_callsi (pc := 18) F (c_X4_isThing _ hy (x := nI (t))) mf_X4_isThing gX4_thing_X4_isThing (by decide) rfl rfl (Nat.le_of_ble_eq_true rfl) dX4_thing_18 ?_
  rintro _ _ ⟨rfl, rfl⟩
  rw [show (if jb (nI (t)) 100000 then 0 else 1) = (if ¬ jb (nI (t)) 100000 then 1 else 0) from by split <;> simp_all]
  refine js_if_neB (pc := 21) (tgt := 27) F dX4_thing_21 (by decide) (fun h21 => ?_) (fun h21 => by exact absurd (jb_no ht (by decide)) h21)
  refine js_iload_n (pc := 27) 2 F rfl dX4_thing_27 ?_
  refine js_aload_n (pc := 28) 0 F rfl dX4_thing_28 ?_
  refine jg_X_now (pc := 29) F in_X4_thing_4 (lk_X4_thing_fieldLink_RX4_10_JoinedSketches_now_LJoinedSketches_State) dX4_thing_29 ?_
  refine jgN_4_50 (pc := 32) (v := nI (c.1.1)) F in_X4_thing_3 (by decide) (hC.1.1) dX4_thing_32 ?_
  refine js_callsi (pc := 35) F (c_X4_hashOf _ hy (t := t) (s := c.1.1)) mf_X4_hashOf gX4_thing_X4_hashOf (by decide) rfl rfl (Nat.le_of_ble_eq_true rfl) dX4_thing_35 ?_
  rintro _ _ ⟨rfl, rfl⟩
  refine js_istore (pc := 38) (lv2 := [(0, .ref (js_ad y (190))), (1, .int (nI (i))), (2, .int (nI (t))), (3, .int (w)), (4, .ref (js_ad y (js_kS i))), (5, .int (nI (jm_hash t c.1.1)))]) F dX4_thing_38 (by decide) [1, 2, 3, 4, 5, 0] rfl ?_
  refine js_iload_n (pc := 40) 3 F rfl dX4_thing_40 ?_
  refine js_tableOut (pc := 41) (tgt := 107) F dX4_thing_41 (by have := jb_sw (n := 4) (by decide) hw; omega) (by decide) ?_
  refine js_bipush (pc := 107) (v := (-2)) F (by decide) dX4_thing_107 ?_
  refine js_iret (pc := 109) F hr (rfl) ?_ dX4_thing_109
  show jP (mq_thing c (nI i) (nI t) w, c) _ _ _
  rw [show mq_thing c (nI i) (nI t) w = -2 from by unfold mq_thing; rw [if_neg (jb_no hi (by decide)), if_neg (jb_no ht (by decide)), if_neg (jb_ne hw (by decide) (by decide)), if_neg (jb_ne hw (by decide) (by decide)), if_neg (jb_ne hw (by decide) (by decide)), if_neg (jb_ne hw (by decide) (by decide))]]
  exact ⟨rfl, hC, js_frX.rf⟩
set_option maxHeartbeats 4000000 in
set_option maxRecDepth 100000 in
theorem c_X4_thing_40 (la : Launch) {y : js_L} (hy : js_Dy y) {G : js_G} {c : js_C} (hC : jr_C G c) {i : Nat} (hi : i < 6) {t : Nat} (ht : t < 100000) : js_Ci la y yX4_thing wsX4_thing 4 76 [.ref (js_ad y (190)), .int (nI (i)), .int (nI (t)), .int (nI (0))] G (fun r G' => jP (mq_thing c (nI i) (nI t) (nI 0), c) r G G') := by
  have hS : jr_K G i (c.1.2 i) := hC.K hi
  have hp : 2 ^ (c.1.2 i).1 ≤ 64 := jm_p6 hS.2.1
  refine js_ofi mf_X4_thing (Nat.le_of_ble_eq_true rfl) hy (fun X F hr => ?_)
  replace F : js_F X y cX4_thing 6 RX4 wsX4_thing 4 76 := F
  show js_W X y 6 _ G 0 [(0, .ref (js_ad y (190))), (1, .int (nI (i))), (2, .int (nI (t))), (3, .int (nI (0)))] []
  refine js_aload_n (pc := 0) 0 F rfl dX4_thing_0 ?_
  refine jg_X_now (pc := 1) F in_X4_thing_4 (lk_X4_thing_fieldLink_RX4_10_JoinedSketches_now_LJoinedSketches_State) dX4_thing_1 ?_
  refine js_iload_n (pc := 4) 1 F rfl dX4_thing_4 ?_
  refine js_callq (pc := 5) F (c_sk_ok _ hy (G := G) (i := i) hi) mf_X3_sketchAt gX4_thing_X3_sketchAt rfl (by decide) (by unfold js_kA; omega) (js_ct_A (by decide)) rfl rfl rfl (Nat.le_of_ble_eq_true rfl) dX4_thing_5 ?_
  rintro _ _ ⟨rfl, rfl⟩
  show js_W X y 6 (js_Qi X y (fun r G' => jP (mq_thing c (nI i) (nI t) (nI 0), c) r G G')) G (5 + 3) [(0, .ref (js_ad y (190))), (1, .int (nI (i))), (2, .int (nI (t))), (3, .int (nI (0)))] [.ref (js_ad y (js_kS i))]
  refine js_astore (pc := 8) (lv2 := [(0, .ref (js_ad y (190))), (1, .int (nI (i))), (2, .int (nI (t))), (3, .int (nI (0))), (4, .ref (js_ad y (js_kS i)))]) F dX4_thing_8 (by decide) [1, 2, 3, 4, 0] rfl ?_
  refine js_aload (pc := 10) 4 F rfl dX4_thing_10 ?_
  refine js_ifnonnull (pc := 12) (tgt := 17) F dX4_thing_12 (by decide) ?_
  refine js_iload_n (pc := 17) 2 F rfl dX4_thing_17 ?_
  refine js_callsi (pc := 18) F (c_X4_isThing _ hy (x := nI (t))) mf_X4_isThing gX4_thing_X4_isThing (by decide) rfl rfl (Nat.le_of_ble_eq_true rfl) dX4_thing_18 ?_
  rintro _ _ ⟨rfl, rfl⟩
  rw [show (if jb (nI (t)) 100000 then 0 else 1) = (if ¬ jb (nI (t)) 100000 then 1 else 0) from by split <;> simp_all]
  refine js_if_neB (pc := 21) (tgt := 27) F dX4_thing_21 (by decide) (fun h21 => ?_) (fun h21 => by exact absurd (jb_no ht (by decide)) h21)
  refine js_iload_n (pc := 27) 2 F rfl dX4_thing_27 ?_
  refine js_aload_n (pc := 28) 0 F rfl dX4_thing_28 ?_
  refine jg_X_now (pc := 29) F in_X4_thing_4 (lk_X4_thing_fieldLink_RX4_10_JoinedSketches_now_LJoinedSketches_State) dX4_thing_29 ?_
  refine jgN_4_50 (pc := 32) (v := nI (c.1.1)) F in_X4_thing_3 (by decide) (hC.1.1) dX4_thing_32 ?_
  refine js_callsi (pc := 35) F (c_X4_hashOf _ hy (t := t) (s := c.1.1)) mf_X4_hashOf gX4_thing_X4_hashOf (by decide) rfl rfl (Nat.le_of_ble_eq_true rfl) dX4_thing_35 ?_
  rintro _ _ ⟨rfl, rfl⟩
  refine js_istore (pc := 38) (lv2 := [(0, .ref (js_ad y (190))), (1, .int (nI (i))), (2, .int (nI (t))), (3, .int (nI (0))), (4, .ref (js_ad y (js_kS i))), (5, .int (nI (jm_hash t c.1.1)))]) F dX4_thing_38 (by decide) [1, 2, 3, 4, 5, 0] rfl ?_
  refine js_iload_n (pc := 40) 3 F rfl dX4_thing_40 ?_
  refine js_tableIn (pc := 41) (off := 31) (tgt := 72) F dX4_thing_41 (by decide) (by decide) (by decide) (by decide) ?_
  refine js_iload (pc := 72) 5 F rfl dX4_thing_72 ?_
  refine js_iret (pc := 74) F hr (rfl) ?_ dX4_thing_74
  show jP (mq_thing c (nI i) (nI t) (nI 0), c) _ _ _
  rw [show mq_thing c (nI i) (nI t) (nI 0) = nI (jm_hash t c.1.1) from by unfold mq_thing; rw [if_neg (jb_no hi (by decide)), if_neg (jb_no ht (by decide)), if_pos rfl, jx (by omega)]]
  exact ⟨rfl, hC, js_frX.rf⟩
set_option maxHeartbeats 4000000 in
set_option maxRecDepth 100000 in
theorem c_X4_thing_41 (la : Launch) {y : js_L} (hy : js_Dy y) {G : js_G} {c : js_C} (hC : jr_C G c) {i : Nat} (hi : i < 6) {t : Nat} (ht : t < 100000) : js_Ci la y yX4_thing wsX4_thing 4 76 [.ref (js_ad y (190)), .int (nI (i)), .int (nI (t)), .int (nI (1))] G (fun r G' => jP (mq_thing c (nI i) (nI t) (nI 1), c) r G G') := by
  have hS : jr_K G i (c.1.2 i) := hC.K hi
  have hp : 2 ^ (c.1.2 i).1 ≤ 64 := jm_p6 hS.2.1
  refine js_ofi mf_X4_thing (Nat.le_of_ble_eq_true rfl) hy (fun X F hr => ?_)
  replace F : js_F X y cX4_thing 6 RX4 wsX4_thing 4 76 := F
  show js_W X y 6 _ G 0 [(0, .ref (js_ad y (190))), (1, .int (nI (i))), (2, .int (nI (t))), (3, .int (nI (1)))] []
  refine js_aload_n (pc := 0) 0 F rfl dX4_thing_0 ?_
  refine jg_X_now (pc := 1) F in_X4_thing_4 (lk_X4_thing_fieldLink_RX4_10_JoinedSketches_now_LJoinedSketches_State) dX4_thing_1 ?_
  refine js_iload_n (pc := 4) 1 F rfl dX4_thing_4 ?_
  refine js_callq (pc := 5) F (c_sk_ok _ hy (G := G) (i := i) hi) mf_X3_sketchAt gX4_thing_X3_sketchAt rfl (by decide) (by unfold js_kA; omega) (js_ct_A (by decide)) rfl rfl rfl (Nat.le_of_ble_eq_true rfl) dX4_thing_5 ?_
  rintro _ _ ⟨rfl, rfl⟩
  show js_W X y 6 (js_Qi X y (fun r G' => jP (mq_thing c (nI i) (nI t) (nI 1), c) r G G')) G (5 + 3) [(0, .ref (js_ad y (190))), (1, .int (nI (i))), (2, .int (nI (t))), (3, .int (nI (1)))] [.ref (js_ad y (js_kS i))]
  refine js_astore (pc := 8) (lv2 := [(0, .ref (js_ad y (190))), (1, .int (nI (i))), (2, .int (nI (t))), (3, .int (nI (1))), (4, .ref (js_ad y (js_kS i)))]) F dX4_thing_8 (by decide) [1, 2, 3, 4, 0] rfl ?_
  refine js_aload (pc := 10) 4 F rfl dX4_thing_10 ?_
  refine js_ifnonnull (pc := 12) (tgt := 17) F dX4_thing_12 (by decide) ?_
  refine js_iload_n (pc := 17) 2 F rfl dX4_thing_17 ?_
  refine js_callsi (pc := 18) F (c_X4_isThing _ hy (x := nI (t))) mf_X4_isThing gX4_thing_X4_isThing (by decide) rfl rfl (Nat.le_of_ble_eq_true rfl) dX4_thing_18 ?_
  rintro _ _ ⟨rfl, rfl⟩
  rw [show (if jb (nI (t)) 100000 then 0 else 1) = (if ¬ jb (nI (t)) 100000 then 1 else 0) from by split <;> simp_all]
  refine js_if_neB (pc := 21) (tgt := 27) F dX4_thing_21 (by decide) (fun h21 => ?_) (fun h21 => by exact absurd (jb_no ht (by decide)) h21)
  refine js_iload_n (pc := 27) 2 F rfl dX4_thing_27 ?_
  refine js_aload_n (pc := 28) 0 F rfl dX4_thing_28 ?_
  refine jg_X_now (pc := 29) F in_X4_thing_4 (lk_X4_thing_fieldLink_RX4_10_JoinedSketches_now_LJoinedSketches_State) dX4_thing_29 ?_
  refine jgN_4_50 (pc := 32) (v := nI (c.1.1)) F in_X4_thing_3 (by decide) (hC.1.1) dX4_thing_32 ?_
  refine js_callsi (pc := 35) F (c_X4_hashOf _ hy (t := t) (s := c.1.1)) mf_X4_hashOf gX4_thing_X4_hashOf (by decide) rfl rfl (Nat.le_of_ble_eq_true rfl) dX4_thing_35 ?_
  rintro _ _ ⟨rfl, rfl⟩
  refine js_istore (pc := 38) (lv2 := [(0, .ref (js_ad y (190))), (1, .int (nI (i))), (2, .int (nI (t))), (3, .int (nI (1))), (4, .ref (js_ad y (js_kS i))), (5, .int (nI (jm_hash t c.1.1)))]) F dX4_thing_38 (by decide) [1, 2, 3, 4, 5, 0] rfl ?_
  refine js_iload_n (pc := 40) 3 F rfl dX4_thing_40 ?_
  refine js_tableIn (pc := 41) (off := 34) (tgt := 75) F dX4_thing_41 (by decide) (by decide) (by decide) (by decide) ?_
  refine js_aload (pc := 75) 4 F rfl dX4_thing_75 ?_
  refine js_iload (pc := 77) 5 F rfl dX4_thing_77 ?_
  refine js_calli (pc := 79) F (c_X2_bucketOf _ hy (by omega) (G := G) (B := (c.1.2 i).1) (hS.2.2.1) (by first | exact hS.2.1 | exact hS2.2.1) (h := jm_hash t c.1.1) (jm_hash_lt _ _)) mf_X2_bucketOf gX4_thing_X2_bucketOf rfl (by decide) (by unfold js_kS; omega) (js_ct_S (by omega)) rfl rfl rfl (Nat.le_of_ble_eq_true rfl) dX4_thing_79 ?_
  rintro _ _ ⟨rfl, rfl⟩
  refine js_iret (pc := 82) F hr (rfl) ?_ dX4_thing_82
  show jP (mq_thing c (nI i) (nI t) (nI 1), c) _ _ _
  rw [show mq_thing c (nI i) (nI t) (nI 1) = nI (jm_hash t c.1.1 % 2 ^ (c.1.2 i).1) from by unfold mq_thing; rw [if_neg (jb_no hi (by decide)), if_neg (jb_no ht (by decide)), if_neg (show ¬ nI 1 = nI 0 by decide), if_pos rfl, jx (by omega), jx (by omega)]]
  exact ⟨rfl, hC, js_frX.rf⟩
set_option maxHeartbeats 4000000 in
set_option maxRecDepth 100000 in
theorem c_X4_thing_42 (la : Launch) {y : js_L} (hy : js_Dy y) {G : js_G} {c : js_C} (hC : jr_C G c) {i : Nat} (hi : i < 6) {t : Nat} (ht : t < 100000) : js_Ci la y yX4_thing wsX4_thing 4 76 [.ref (js_ad y (190)), .int (nI (i)), .int (nI (t)), .int (nI (2))] G (fun r G' => jP (mq_thing c (nI i) (nI t) (nI 2), c) r G G') := by
  have hS : jr_K G i (c.1.2 i) := hC.K hi
  have hp : 2 ^ (c.1.2 i).1 ≤ 64 := jm_p6 hS.2.1
  refine js_ofi mf_X4_thing (Nat.le_of_ble_eq_true rfl) hy (fun X F hr => ?_)
  replace F : js_F X y cX4_thing 6 RX4 wsX4_thing 4 76 := F
  show js_W X y 6 _ G 0 [(0, .ref (js_ad y (190))), (1, .int (nI (i))), (2, .int (nI (t))), (3, .int (nI (2)))] []
  refine js_aload_n (pc := 0) 0 F rfl dX4_thing_0 ?_
  refine jg_X_now (pc := 1) F in_X4_thing_4 (lk_X4_thing_fieldLink_RX4_10_JoinedSketches_now_LJoinedSketches_State) dX4_thing_1 ?_
  refine js_iload_n (pc := 4) 1 F rfl dX4_thing_4 ?_
  refine js_callq (pc := 5) F (c_sk_ok _ hy (G := G) (i := i) hi) mf_X3_sketchAt gX4_thing_X3_sketchAt rfl (by decide) (by unfold js_kA; omega) (js_ct_A (by decide)) rfl rfl rfl (Nat.le_of_ble_eq_true rfl) dX4_thing_5 ?_
  rintro _ _ ⟨rfl, rfl⟩
  show js_W X y 6 (js_Qi X y (fun r G' => jP (mq_thing c (nI i) (nI t) (nI 2), c) r G G')) G (5 + 3) [(0, .ref (js_ad y (190))), (1, .int (nI (i))), (2, .int (nI (t))), (3, .int (nI (2)))] [.ref (js_ad y (js_kS i))]
  refine js_astore (pc := 8) (lv2 := [(0, .ref (js_ad y (190))), (1, .int (nI (i))), (2, .int (nI (t))), (3, .int (nI (2))), (4, .ref (js_ad y (js_kS i)))]) F dX4_thing_8 (by decide) [1, 2, 3, 4, 0] rfl ?_
  refine js_aload (pc := 10) 4 F rfl dX4_thing_10 ?_
  refine js_ifnonnull (pc := 12) (tgt := 17) F dX4_thing_12 (by decide) ?_
  refine js_iload_n (pc := 17) 2 F rfl dX4_thing_17 ?_
  refine js_callsi (pc := 18) F (c_X4_isThing _ hy (x := nI (t))) mf_X4_isThing gX4_thing_X4_isThing (by decide) rfl rfl (Nat.le_of_ble_eq_true rfl) dX4_thing_18 ?_
  rintro _ _ ⟨rfl, rfl⟩
  rw [show (if jb (nI (t)) 100000 then 0 else 1) = (if ¬ jb (nI (t)) 100000 then 1 else 0) from by split <;> simp_all]
  refine js_if_neB (pc := 21) (tgt := 27) F dX4_thing_21 (by decide) (fun h21 => ?_) (fun h21 => by exact absurd (jb_no ht (by decide)) h21)
  refine js_iload_n (pc := 27) 2 F rfl dX4_thing_27 ?_
  refine js_aload_n (pc := 28) 0 F rfl dX4_thing_28 ?_
  refine jg_X_now (pc := 29) F in_X4_thing_4 (lk_X4_thing_fieldLink_RX4_10_JoinedSketches_now_LJoinedSketches_State) dX4_thing_29 ?_
  refine jgN_4_50 (pc := 32) (v := nI (c.1.1)) F in_X4_thing_3 (by decide) (hC.1.1) dX4_thing_32 ?_
  refine js_callsi (pc := 35) F (c_X4_hashOf _ hy (t := t) (s := c.1.1)) mf_X4_hashOf gX4_thing_X4_hashOf (by decide) rfl rfl (Nat.le_of_ble_eq_true rfl) dX4_thing_35 ?_
  rintro _ _ ⟨rfl, rfl⟩
  refine js_istore (pc := 38) (lv2 := [(0, .ref (js_ad y (190))), (1, .int (nI (i))), (2, .int (nI (t))), (3, .int (nI (2))), (4, .ref (js_ad y (js_kS i))), (5, .int (nI (jm_hash t c.1.1)))]) F dX4_thing_38 (by decide) [1, 2, 3, 4, 5, 0] rfl ?_
  refine js_iload_n (pc := 40) 3 F rfl dX4_thing_40 ?_
  refine js_tableIn (pc := 41) (off := 42) (tgt := 83) F dX4_thing_41 (by decide) (by decide) (by decide) (by decide) ?_
  refine js_aload (pc := 83) 4 F rfl dX4_thing_83 ?_
  refine js_iload (pc := 85) 5 F rfl dX4_thing_85 ?_
  refine js_calli (pc := 87) F (c_X2_rankOf _ hy (by omega) (G := G) (B := (c.1.2 i).1) (hS.2.2.1) (by first | exact hS.2.1 | exact hS2.2.1) (h := jm_hash t c.1.1) (jm_hash_lt _ _)) mf_X2_rankOf gX4_thing_X2_rankOf rfl (by decide) (by unfold js_kS; omega) (js_ct_S (by omega)) rfl rfl rfl (Nat.le_of_ble_eq_true rfl) dX4_thing_87 ?_
  rintro _ _ ⟨rfl, rfl⟩
  refine js_iret (pc := 90) F hr (rfl) ?_ dX4_thing_90
  show jP (mq_thing c (nI i) (nI t) (nI 2), c) _ _ _
  rw [show mq_thing c (nI i) (nI t) (nI 2) = nI (jm_rank (jm_hash t c.1.1) (c.1.2 i).1) from by unfold mq_thing; rw [if_neg (jb_no hi (by decide)), if_neg (jb_no ht (by decide)), if_neg (show ¬ nI 2 = nI 0 by decide), if_neg (show ¬ nI 2 = nI 1 by decide), if_pos rfl, jx (by omega), jx (by omega)]]
  exact ⟨rfl, hC, js_frX.rf⟩
set_option maxHeartbeats 4000000 in
set_option maxRecDepth 100000 in
theorem c_X4_thing_43 (la : Launch) {y : js_L} (hy : js_Dy y) {G : js_G} {c : js_C} (hC : jr_C G c) {i : Nat} (hi : i < 6) {t : Nat} (ht : t < 100000) : js_Ci la y yX4_thing wsX4_thing 4 76 [.ref (js_ad y (190)), .int (nI (i)), .int (nI (t)), .int (nI (3))] G (fun r G' => jP (mq_thing c (nI i) (nI t) (nI 3), c) r G G') := by
  have hS : jr_K G i (c.1.2 i) := hC.K hi
  have hp : 2 ^ (c.1.2 i).1 ≤ 64 := jm_p6 hS.2.1
  refine js_ofi mf_X4_thing (Nat.le_of_ble_eq_true rfl) hy (fun X F hr => ?_)
  replace F : js_F X y cX4_thing 6 RX4 wsX4_thing 4 76 := F
  show js_W X y 6 _ G 0 [(0, .ref (js_ad y (190))), (1, .int (nI (i))), (2, .int (nI (t))), (3, .int (nI (3)))] []
  refine js_aload_n (pc := 0) 0 F rfl dX4_thing_0 ?_
  refine jg_X_now (pc := 1) F in_X4_thing_4 (lk_X4_thing_fieldLink_RX4_10_JoinedSketches_now_LJoinedSketches_State) dX4_thing_1 ?_
  refine js_iload_n (pc := 4) 1 F rfl dX4_thing_4 ?_
  refine js_callq (pc := 5) F (c_sk_ok _ hy (G := G) (i := i) hi) mf_X3_sketchAt gX4_thing_X3_sketchAt rfl (by decide) (by unfold js_kA; omega) (js_ct_A (by decide)) rfl rfl rfl (Nat.le_of_ble_eq_true rfl) dX4_thing_5 ?_
  rintro _ _ ⟨rfl, rfl⟩
  show js_W X y 6 (js_Qi X y (fun r G' => jP (mq_thing c (nI i) (nI t) (nI 3), c) r G G')) G (5 + 3) [(0, .ref (js_ad y (190))), (1, .int (nI (i))), (2, .int (nI (t))), (3, .int (nI (3)))] [.ref (js_ad y (js_kS i))]
  refine js_astore (pc := 8) (lv2 := [(0, .ref (js_ad y (190))), (1, .int (nI (i))), (2, .int (nI (t))), (3, .int (nI (3))), (4, .ref (js_ad y (js_kS i)))]) F dX4_thing_8 (by decide) [1, 2, 3, 4, 0] rfl ?_
  refine js_aload (pc := 10) 4 F rfl dX4_thing_10 ?_
  refine js_ifnonnull (pc := 12) (tgt := 17) F dX4_thing_12 (by decide) ?_
  refine js_iload_n (pc := 17) 2 F rfl dX4_thing_17 ?_
  refine js_callsi (pc := 18) F (c_X4_isThing _ hy (x := nI (t))) mf_X4_isThing gX4_thing_X4_isThing (by decide) rfl rfl (Nat.le_of_ble_eq_true rfl) dX4_thing_18 ?_
  rintro _ _ ⟨rfl, rfl⟩
  rw [show (if jb (nI (t)) 100000 then 0 else 1) = (if ¬ jb (nI (t)) 100000 then 1 else 0) from by split <;> simp_all]
  refine js_if_neB (pc := 21) (tgt := 27) F dX4_thing_21 (by decide) (fun h21 => ?_) (fun h21 => by exact absurd (jb_no ht (by decide)) h21)
  refine js_iload_n (pc := 27) 2 F rfl dX4_thing_27 ?_
  refine js_aload_n (pc := 28) 0 F rfl dX4_thing_28 ?_
  refine jg_X_now (pc := 29) F in_X4_thing_4 (lk_X4_thing_fieldLink_RX4_10_JoinedSketches_now_LJoinedSketches_State) dX4_thing_29 ?_
  refine jgN_4_50 (pc := 32) (v := nI (c.1.1)) F in_X4_thing_3 (by decide) (hC.1.1) dX4_thing_32 ?_
  refine js_callsi (pc := 35) F (c_X4_hashOf _ hy (t := t) (s := c.1.1)) mf_X4_hashOf gX4_thing_X4_hashOf (by decide) rfl rfl (Nat.le_of_ble_eq_true rfl) dX4_thing_35 ?_
  rintro _ _ ⟨rfl, rfl⟩
  refine js_istore (pc := 38) (lv2 := [(0, .ref (js_ad y (190))), (1, .int (nI (i))), (2, .int (nI (t))), (3, .int (nI (3))), (4, .ref (js_ad y (js_kS i))), (5, .int (nI (jm_hash t c.1.1)))]) F dX4_thing_38 (by decide) [1, 2, 3, 4, 5, 0] rfl ?_
  refine js_iload_n (pc := 40) 3 F rfl dX4_thing_40 ?_
  refine js_tableIn (pc := 41) (off := 50) (tgt := 91) F dX4_thing_41 (by decide) (by decide) (by decide) (by decide) ?_
  refine js_aload (pc := 91) 4 F rfl dX4_thing_91 ?_
  refine js_iload (pc := 93) 5 F rfl dX4_thing_93 ?_
  refine js_calli (pc := 95) F (c_X2_wouldChangeBy _ hy (by omega) (G := G) (B := (c.1.2 i).1) (hS.2.2.1) (by first | exact hS.2.1 | exact hS2.2.1) (rk := (c.1.2 i).2.1) (hS.2.2.2.1) (fun b hb => Nat.le_trans (hS.2.2.2.2.1 b hb) (by have := hS.1; omega)) (h := jm_hash t c.1.1) (jm_hash_lt _ _)) mf_X2_wouldChangeBy gX4_thing_X2_wouldChangeBy rfl (by decide) (by unfold js_kS; omega) (js_ct_S (by omega)) rfl rfl rfl (Nat.le_of_ble_eq_true rfl) dX4_thing_95 ?_
  rintro _ _ ⟨rfl, rfl⟩
  refine js_if_eqB (pc := 98) (tgt := 105) F dX4_thing_98 (by decide) (fun h98 => ?_) (fun h98 => ?_)
  · skip
    refine js_iconst (pc := 105) (v := nI (0)) F (by decide) dX4_thing_105 ?_
    refine js_iret (pc := 106) F hr (rfl) ?_ dX4_thing_106
    show jP (mq_thing c (nI i) (nI t) (nI 3), c) _ _ _
    rw [show mq_thing c (nI i) (nI t) (nI 3) = nI (if (c.1.2 i).2.1 (jm_hash t c.1.1 % 2 ^ (c.1.2 i).1) < jm_rank (jm_hash t c.1.1) (c.1.2 i).1 then 1 else 0) from by unfold mq_thing; rw [if_neg (jb_no hi (by decide)), if_neg (jb_no ht (by decide)), if_neg (show ¬ nI 3 = nI 0 by decide), if_neg (show ¬ nI 3 = nI 1 by decide), if_neg (show ¬ nI 3 = nI 2 by decide), if_pos rfl, jx (by omega), jx (by omega)]]
    exact ⟨by show nI 0 = nI _; rw [if_neg h98], hC, js_frX.rf⟩
  · skip
    refine js_iconst (pc := 101) (v := nI (1)) F (by decide) dX4_thing_101 ?_
    refine js_goto (pc := 102) (tgt := 106) F dX4_thing_102 (by decide) ?_
    refine js_iret (pc := 106) F hr (rfl) ?_ dX4_thing_106
    show jP (mq_thing c (nI i) (nI t) (nI 3), c) _ _ _
    rw [show mq_thing c (nI i) (nI t) (nI 3) = nI (if (c.1.2 i).2.1 (jm_hash t c.1.1 % 2 ^ (c.1.2 i).1) < jm_rank (jm_hash t c.1.1) (c.1.2 i).1 then 1 else 0) from by unfold mq_thing; rw [if_neg (jb_no hi (by decide)), if_neg (jb_no ht (by decide)), if_neg (show ¬ nI 3 = nI 0 by decide), if_neg (show ¬ nI 3 = nI 1 by decide), if_neg (show ¬ nI 3 = nI 2 by decide), if_pos rfl, jx (by omega), jx (by omega)]]
    exact ⟨by show nI 1 = nI _; rw [if_pos h98], hC, js_frX.rf⟩
theorem in_X4_bucket_4 : ∀ w ∈ wsX40, w ∈ wsX4_bucket := by decide +kernel
theorem lk_X4_bucket_fieldLink_RX4_10_JoinedSketches_now_LJoinedSketches_State : Cond.fieldLink RX4 10 "JoinedSketches" "now" "LJoinedSketches$State;" ∈ wsX4_bucket := by decide +kernel
theorem mf_X4_bucket : js_M yX4_bucket cX4_bucket 4 (some .int) wsX4_bucket 2 := ⟨⟨_, rfl⟩, by decide +kernel, by decide +kernel, by decide +kernel, by decide +kernel⟩
set_option maxHeartbeats 4000000 in
set_option maxRecDepth 100000 in
theorem c_X4_bucket_1 (la : Launch) {y : js_L} (hy : js_Dy y) {G : js_G} {c : js_C} (hC : jr_C G c) {x : Int32} {b : Int32} (hx : jb x 6) : js_Ci la y yX4_bucket wsX4_bucket 3 54 [.ref (js_ad y (190)), .int (x), .int (b)] G (fun r G' => jP (mq_bucket c x b, c) r G G') := by
  refine js_ofi mf_X4_bucket (Nat.le_of_ble_eq_true rfl) hy (fun X F hr => ?_)
  replace F : js_F X y cX4_bucket 4 RX4 wsX4_bucket 3 54 := F
  show js_W X y 4 _ G 0 [(0, .ref (js_ad y (190))), (1, .int (x)), (2, .int (b))] []
  refine js_aload_n (pc := 0) 0 F rfl dX4_bucket_0 ?_
  refine jg_X_now (pc := 1) F in_X4_bucket_4 (lk_X4_bucket_fieldLink_RX4_10_JoinedSketches_now_LJoinedSketches_State) dX4_bucket_1 ?_
  refine js_iload_n (pc := 4) 1 F rfl dX4_bucket_4 ?_
  refine js_callq (pc := 5) F (c_sk_bad _ hy (G := G) (x := x) hx) mf_X3_sketchAt gX4_bucket_X3_sketchAt rfl (by decide) (by unfold js_kA; omega) (js_ct_A (by decide)) rfl rfl rfl (Nat.le_of_ble_eq_true rfl) dX4_bucket_5 ?_
  rintro _ _ ⟨rfl, rfl⟩
  show js_W X y 4 (js_Qi X y (fun r G' => jP (mq_bucket c x b, c) r G G')) G (5 + 3) [(0, .ref (js_ad y (190))), (1, .int (x)), (2, .int (b))] [.null]
  refine js_astore_nN (pc := 8) (lv2 := [(0, .ref (js_ad y (190))), (1, .int (x)), (2, .int (b)), (3, .null)]) F dX4_bucket_8 (by decide) [1, 2, 3, 0] rfl ?_
  refine js_aload_nN (pc := 9) 3 F rfl dX4_bucket_9 ?_
  refine js_ifnullN (pc := 10) (tgt := 21) F dX4_bucket_10 (by decide) ?_
  refine js_iconst (pc := 21) (v := (-1)) F (by decide) dX4_bucket_21 ?_
  refine js_iret (pc := 22) F hr (rfl) ?_ dX4_bucket_22
  show jP (mq_bucket c x b, c) _ _ _
  rw [show mq_bucket c x b = -1 from if_pos hx]
  exact ⟨rfl, hC, js_frX.rf⟩
set_option maxHeartbeats 4000000 in
set_option maxRecDepth 100000 in
theorem c_X4_bucket_2a (la : Launch) {y : js_L} (hy : js_Dy y) {G : js_G} {c : js_C} (hC : jr_C G c) {i : Nat} (hi : i < 6) {b : Int32} (hb : b < 0) : js_Ci la y yX4_bucket wsX4_bucket 3 54 [.ref (js_ad y (190)), .int (nI (i)), .int (b)] G (fun r G' => jP (mq_bucket c (nI i) b, c) r G G') := by
  have hS : jr_K G i (c.1.2 i) := hC.K hi
  have hp : 2 ^ (c.1.2 i).1 ≤ 64 := jm_p6 hS.2.1
  refine js_ofi mf_X4_bucket (Nat.le_of_ble_eq_true rfl) hy (fun X F hr => ?_)
  replace F : js_F X y cX4_bucket 4 RX4 wsX4_bucket 3 54 := F
  show js_W X y 4 _ G 0 [(0, .ref (js_ad y (190))), (1, .int (nI (i))), (2, .int (b))] []
  refine js_aload_n (pc := 0) 0 F rfl dX4_bucket_0 ?_
  refine jg_X_now (pc := 1) F in_X4_bucket_4 (lk_X4_bucket_fieldLink_RX4_10_JoinedSketches_now_LJoinedSketches_State) dX4_bucket_1 ?_
  refine js_iload_n (pc := 4) 1 F rfl dX4_bucket_4 ?_
  refine js_callq (pc := 5) F (c_sk_ok _ hy (G := G) (i := i) hi) mf_X3_sketchAt gX4_bucket_X3_sketchAt rfl (by decide) (by unfold js_kA; omega) (js_ct_A (by decide)) rfl rfl rfl (Nat.le_of_ble_eq_true rfl) dX4_bucket_5 ?_
  rintro _ _ ⟨rfl, rfl⟩
  show js_W X y 4 (js_Qi X y (fun r G' => jP (mq_bucket c (nI i) b, c) r G G')) G (5 + 3) [(0, .ref (js_ad y (190))), (1, .int (nI (i))), (2, .int (b))] [.ref (js_ad y (js_kS i))]
  refine js_astore_n (pc := 8) (lv2 := [(0, .ref (js_ad y (190))), (1, .int (nI (i))), (2, .int (b)), (3, .ref (js_ad y (js_kS i)))]) F dX4_bucket_8 (by decide) [1, 2, 3, 0] rfl ?_
  refine js_aload_n (pc := 9) 3 F rfl dX4_bucket_9 ?_
  refine js_ifnull (pc := 10) F dX4_bucket_10 ?_
  refine js_aload_n (pc := 13) 3 F rfl dX4_bucket_13 ?_
  refine js_iload_n (pc := 14) 2 F rfl dX4_bucket_14 ?_
  refine js_calli (pc := 15) F (c_X2_hasBucket_neg _ hy (j := i) (by omega) (G := G) hb) mf_X2_hasBucket gX4_bucket_X2_hasBucket rfl (by decide) (by unfold js_kS; omega) (js_ct_S (by omega)) rfl rfl rfl (Nat.le_of_ble_eq_true rfl) dX4_bucket_15 ?_
  rintro _ _ ⟨rfl, rfl⟩
  refine js_if_neN (pc := 18) (a := 0) (tgt := 23) F (by decide) dX4_bucket_18 (by decide) (fun h18 => by exfalso; omega) (fun h18 => ?_)
  refine js_iconst (pc := 21) (v := (-1)) F (by decide) dX4_bucket_21 ?_
  refine js_iret (pc := 22) F hr (rfl) ?_ dX4_bucket_22
  show jP (mq_bucket c (nI i) b, c) _ _ _
  rw [show mq_bucket c (nI i) b = -1 from by unfold mq_bucket; rw [if_neg (jb_no hi (by decide)), if_pos (Or.inl hb)]]
  exact ⟨rfl, hC, js_frX.rf⟩
set_option maxHeartbeats 4000000 in
set_option maxRecDepth 100000 in
theorem c_X4_bucket_2b (la : Launch) {y : js_L} (hy : js_Dy y) {G : js_G} {c : js_C} (hC : jr_C G c) {i : Nat} (hi : i < 6) {b : Nat} (hb3 : b < 2 ^ 31) (hb : ¬ b < 2 ^ (c.1.2 i).1) : js_Ci la y yX4_bucket wsX4_bucket 3 54 [.ref (js_ad y (190)), .int (nI (i)), .int (nI (b))] G (fun r G' => jP (mq_bucket c (nI i) (nI b), c) r G G') := by
  have hS : jr_K G i (c.1.2 i) := hC.K hi
  have hp : 2 ^ (c.1.2 i).1 ≤ 64 := jm_p6 hS.2.1
  refine js_ofi mf_X4_bucket (Nat.le_of_ble_eq_true rfl) hy (fun X F hr => ?_)
  replace F : js_F X y cX4_bucket 4 RX4 wsX4_bucket 3 54 := F
  show js_W X y 4 _ G 0 [(0, .ref (js_ad y (190))), (1, .int (nI (i))), (2, .int (nI (b)))] []
  refine js_aload_n (pc := 0) 0 F rfl dX4_bucket_0 ?_
  refine jg_X_now (pc := 1) F in_X4_bucket_4 (lk_X4_bucket_fieldLink_RX4_10_JoinedSketches_now_LJoinedSketches_State) dX4_bucket_1 ?_
  refine js_iload_n (pc := 4) 1 F rfl dX4_bucket_4 ?_
  refine js_callq (pc := 5) F (c_sk_ok _ hy (G := G) (i := i) hi) mf_X3_sketchAt gX4_bucket_X3_sketchAt rfl (by decide) (by unfold js_kA; omega) (js_ct_A (by decide)) rfl rfl rfl (Nat.le_of_ble_eq_true rfl) dX4_bucket_5 ?_
  rintro _ _ ⟨rfl, rfl⟩
  show js_W X y 4 (js_Qi X y (fun r G' => jP (mq_bucket c (nI i) (nI b), c) r G G')) G (5 + 3) [(0, .ref (js_ad y (190))), (1, .int (nI (i))), (2, .int (nI (b)))] [.ref (js_ad y (js_kS i))]
  refine js_astore_n (pc := 8) (lv2 := [(0, .ref (js_ad y (190))), (1, .int (nI (i))), (2, .int (nI (b))), (3, .ref (js_ad y (js_kS i)))]) F dX4_bucket_8 (by decide) [1, 2, 3, 0] rfl ?_
  refine js_aload_n (pc := 9) 3 F rfl dX4_bucket_9 ?_
  refine js_ifnull (pc := 10) F dX4_bucket_10 ?_
  refine js_aload_n (pc := 13) 3 F rfl dX4_bucket_13 ?_
  refine js_iload_n (pc := 14) 2 F rfl dX4_bucket_14 ?_
  refine js_calli (pc := 15) F (c_X2_hasBucket _ hy (by omega) (G := G) (B := (c.1.2 i).1) (hS.2.2.1) (hS.2.1) (b := b) (by omega)) mf_X2_hasBucket gX4_bucket_X2_hasBucket rfl (by decide) (by unfold js_kS; omega) (js_ct_S (by omega)) rfl rfl rfl (Nat.le_of_ble_eq_true rfl) dX4_bucket_15 ?_
  rintro _ _ ⟨rfl, rfl⟩
  refine js_if_neB (pc := 18) (tgt := 23) F dX4_bucket_18 (by decide) (fun h18 => by exact absurd h18 hb) (fun h18 => ?_)
  refine js_iconst (pc := 21) (v := (-1)) F (by decide) dX4_bucket_21 ?_
  refine js_iret (pc := 22) F hr (rfl) ?_ dX4_bucket_22
  show jP (mq_bucket c (nI i) (nI b), c) _ _ _
  rw [show mq_bucket c (nI i) (nI b) = -1 from by unfold mq_bucket; rw [if_neg (jb_no hi (by decide)), jx (by omega), if_pos (Or.inr ((nI_leI (by omega) (by omega)).mpr (by omega)))]]
  exact ⟨rfl, hC, js_frX.rf⟩
set_option maxHeartbeats 4000000 in
set_option maxRecDepth 100000 in
theorem c_X4_bucket_3 (la : Launch) {y : js_L} (hy : js_Dy y) {G : js_G} {c : js_C} (hC : jr_C G c) {i : Nat} (hi : i < 6) {b : Nat} (hb : b < 2 ^ (c.1.2 i).1) : js_Ci la y yX4_bucket wsX4_bucket 3 54 [.ref (js_ad y (190)), .int (nI (i)), .int (nI (b))] G (fun r G' => jP (mq_bucket c (nI i) (nI b), c) r G G') := by
  have hS : jr_K G i (c.1.2 i) := hC.K hi
  have hp : 2 ^ (c.1.2 i).1 ≤ 64 := jm_p6 hS.2.1
  refine js_ofi mf_X4_bucket (Nat.le_of_ble_eq_true rfl) hy (fun X F hr => ?_)
  replace F : js_F X y cX4_bucket 4 RX4 wsX4_bucket 3 54 := F
  show js_W X y 4 _ G 0 [(0, .ref (js_ad y (190))), (1, .int (nI (i))), (2, .int (nI (b)))] []
  refine js_aload_n (pc := 0) 0 F rfl dX4_bucket_0 ?_
  refine jg_X_now (pc := 1) F in_X4_bucket_4 (lk_X4_bucket_fieldLink_RX4_10_JoinedSketches_now_LJoinedSketches_State) dX4_bucket_1 ?_
  refine js_iload_n (pc := 4) 1 F rfl dX4_bucket_4 ?_
  refine js_callq (pc := 5) F (c_sk_ok _ hy (G := G) (i := i) hi) mf_X3_sketchAt gX4_bucket_X3_sketchAt rfl (by decide) (by unfold js_kA; omega) (js_ct_A (by decide)) rfl rfl rfl (Nat.le_of_ble_eq_true rfl) dX4_bucket_5 ?_
  rintro _ _ ⟨rfl, rfl⟩
  show js_W X y 4 (js_Qi X y (fun r G' => jP (mq_bucket c (nI i) (nI b), c) r G G')) G (5 + 3) [(0, .ref (js_ad y (190))), (1, .int (nI (i))), (2, .int (nI (b)))] [.ref (js_ad y (js_kS i))]
  refine js_astore_n (pc := 8) (lv2 := [(0, .ref (js_ad y (190))), (1, .int (nI (i))), (2, .int (nI (b))), (3, .ref (js_ad y (js_kS i)))]) F dX4_bucket_8 (by decide) [1, 2, 3, 0] rfl ?_
  refine js_aload_n (pc := 9) 3 F rfl dX4_bucket_9 ?_
  refine js_ifnull (pc := 10) F dX4_bucket_10 ?_
  refine js_aload_n (pc := 13) 3 F rfl dX4_bucket_13 ?_
  refine js_iload_n (pc := 14) 2 F rfl dX4_bucket_14 ?_
  refine js_calli (pc := 15) F (c_X2_hasBucket _ hy (by omega) (G := G) (B := (c.1.2 i).1) (hS.2.2.1) (by first | exact hS.2.1 | exact hS2.2.1) (b := b) (by omega)) mf_X2_hasBucket gX4_bucket_X2_hasBucket rfl (by decide) (by unfold js_kS; omega) (js_ct_S (by omega)) rfl rfl rfl (Nat.le_of_ble_eq_true rfl) dX4_bucket_15 ?_
  rintro _ _ ⟨rfl, rfl⟩
  refine js_if_neB (pc := 18) (tgt := 23) F dX4_bucket_18 (by decide) (fun h18 => ?_) (fun h18 => by exact absurd hb h18)
  refine js_aload_n (pc := 23) 3 F rfl dX4_bucket_23 ?_
  refine js_iload_n (pc := 24) 2 F rfl dX4_bucket_24 ?_
  refine js_calli (pc := 25) F (c_X2_rankIn _ hy (by omega) (G := G) (B := (c.1.2 i).1) (hS.2.2.1) (by first | exact hS.2.1 | exact hS2.2.1) (b := b) (by omega)) mf_X2_rankIn gX4_bucket_X2_rankIn rfl (by decide) (by unfold js_kS; omega) (js_ct_S (by omega)) rfl rfl rfl (Nat.le_of_ble_eq_true rfl) dX4_bucket_25 ?_
  rintro _ _ ⟨hv25, rfl⟩
  rw [hv25, show G (js_kR i) (b) = nI ((c.1.2 i).2.1 (b)) from (hS.2.2.2.1 _ hb)]
  refine js_iret (pc := 28) F hr (rfl) ?_ dX4_bucket_28
  show jP (mq_bucket c (nI i) (nI b), c) _ _ _
  rw [show mq_bucket c (nI i) (nI b) = nI ((c.1.2 i).2.1 b) from by unfold mq_bucket; rw [if_neg (jb_no hi (by decide)), jx (by omega), if_neg (jb_no hb (by omega)), jx (by omega)]]
  exact ⟨rfl, hC, js_frX.rf⟩
theorem in_X4_ofSketch_4 : ∀ w ∈ wsX40, w ∈ wsX4_ofSketch := by decide +kernel
theorem lk_X4_ofSketch_fieldLink_RX4_10_JoinedSketches_now_LJoinedSketches_State : Cond.fieldLink RX4 10 "JoinedSketches" "now" "LJoinedSketches$State;" ∈ wsX4_ofSketch := by decide +kernel
theorem mf_X4_ofSketch : js_M yX4_ofSketch cX4_ofSketch 4 (some .int) wsX4_ofSketch 2 := ⟨⟨_, rfl⟩, by decide +kernel, by decide +kernel, by decide +kernel, by decide +kernel⟩
set_option maxHeartbeats 4000000 in
set_option maxRecDepth 100000 in
theorem c_X4_ofSketch_1 (la : Launch) {y : js_L} (hy : js_Dy y) {G : js_G} {c : js_C} (hC : jr_C G c) {x : Int32} {w : Int32} (hx : jb x 6) : js_Ci la y yX4_ofSketch wsX4_ofSketch 7 144 [.ref (js_ad y (190)), .int (x), .int (w)] G (fun r G' => jP (mq_ofSketch c x w, c) r G G') := by
  refine js_ofi mf_X4_ofSketch (Nat.le_of_ble_eq_true rfl) hy (fun X F hr => ?_)
  replace F : js_F X y cX4_ofSketch 4 RX4 wsX4_ofSketch 7 144 := F
  show js_W X y 4 _ G 0 [(0, .ref (js_ad y (190))), (1, .int (x)), (2, .int (w))] []
  refine js_aload_n (pc := 0) 0 F rfl dX4_ofSketch_0 ?_
  refine jg_X_now (pc := 1) F in_X4_ofSketch_4 (lk_X4_ofSketch_fieldLink_RX4_10_JoinedSketches_now_LJoinedSketches_State) dX4_ofSketch_1 ?_
  refine js_iload_n (pc := 4) 1 F rfl dX4_ofSketch_4 ?_
  refine js_callq (pc := 5) F (c_sk_bad _ hy (G := G) (x := x) hx) mf_X3_sketchAt gX4_ofSketch_X3_sketchAt rfl (by decide) (by unfold js_kA; omega) (js_ct_A (by decide)) rfl rfl rfl (Nat.le_of_ble_eq_true rfl) dX4_ofSketch_5 ?_
  rintro _ _ ⟨rfl, rfl⟩
  show js_W X y 4 (js_Qi X y (fun r G' => jP (mq_ofSketch c x w, c) r G G')) G (5 + 3) [(0, .ref (js_ad y (190))), (1, .int (x)), (2, .int (w))] [.null]
  refine js_astore_nN (pc := 8) (lv2 := [(0, .ref (js_ad y (190))), (1, .int (x)), (2, .int (w)), (3, .null)]) F dX4_ofSketch_8 (by decide) [1, 2, 3, 0] rfl ?_
  refine js_aload_nN (pc := 9) 3 F rfl dX4_ofSketch_9 ?_
  refine js_ifnonnullN (pc := 10) F dX4_ofSketch_10 ?_
  refine js_iconst (pc := 13) (v := (-1)) F (by decide) dX4_ofSketch_13 ?_
  refine js_iret (pc := 14) F hr (rfl) ?_ dX4_ofSketch_14
  show jP (mq_ofSketch c x w, c) _ _ _
  rw [show mq_ofSketch c x w = -1 from if_pos hx]
  exact ⟨rfl, hC, js_frX.rf⟩
set_option maxHeartbeats 4000000 in
set_option maxRecDepth 100000 in
theorem c_X4_ofSketch_2 (la : Launch) {y : js_L} (hy : js_Dy y) {G : js_G} {c : js_C} (hC : jr_C G c) {i : Nat} (hi : i < 6) {w : Int32} (hw : jb w 9) : js_Ci la y yX4_ofSketch wsX4_ofSketch 7 144 [.ref (js_ad y (190)), .int (nI (i)), .int (w)] G (fun r G' => jP (mq_ofSketch c (nI i) w, c) r G G') := by
  refine js_ofi mf_X4_ofSketch (Nat.le_of_ble_eq_true rfl) hy (fun X F hr => ?_)
  replace F : js_F X y cX4_ofSketch 4 RX4 wsX4_ofSketch 7 144 := F
  show js_W X y 4 _ G 0 [(0, .ref (js_ad y (190))), (1, .int (nI (i))), (2, .int (w))] []
  refine js_aload_n (pc := 0) 0 F rfl dX4_ofSketch_0 ?_
  refine jg_X_now (pc := 1) F in_X4_ofSketch_4 (lk_X4_ofSketch_fieldLink_RX4_10_JoinedSketches_now_LJoinedSketches_State) dX4_ofSketch_1 ?_
  refine js_iload_n (pc := 4) 1 F rfl dX4_ofSketch_4 ?_
  refine js_callq (pc := 5) F (c_sk_ok _ hy (G := G) (i := i) hi) mf_X3_sketchAt gX4_ofSketch_X3_sketchAt rfl (by decide) (by unfold js_kA; omega) (js_ct_A (by decide)) rfl rfl rfl (Nat.le_of_ble_eq_true rfl) dX4_ofSketch_5 ?_
  rintro _ _ ⟨rfl, rfl⟩
  show js_W X y 4 (js_Qi X y (fun r G' => jP (mq_ofSketch c (nI i) w, c) r G G')) G (5 + 3) [(0, .ref (js_ad y (190))), (1, .int (nI (i))), (2, .int (w))] [.ref (js_ad y (js_kS i))]
  refine js_astore_n (pc := 8) (lv2 := [(0, .ref (js_ad y (190))), (1, .int (nI (i))), (2, .int (w)), (3, .ref (js_ad y (js_kS i)))]) F dX4_ofSketch_8 (by decide) [1, 2, 3, 0] rfl ?_
  refine js_aload_n (pc := 9) 3 F rfl dX4_ofSketch_9 ?_
  refine js_ifnonnull (pc := 10) (tgt := 15) F dX4_ofSketch_10 (by decide) ?_
  refine js_iload_n (pc := 15) 2 F rfl dX4_ofSketch_15 ?_
  refine js_tableOut (pc := 16) (tgt := 125) F dX4_ofSketch_16 (by have := jb_sw (n := 9) (by decide) hw; omega) (by decide) ?_
  refine js_bipush (pc := 125) (v := (-2)) F (by decide) dX4_ofSketch_125 ?_
  refine js_iret (pc := 127) F hr (rfl) ?_ dX4_ofSketch_127
  show jP (mq_ofSketch c (nI i) w, c) _ _ _
  rw [show mq_ofSketch c (nI i) w = -2 from by unfold mq_ofSketch; rw [if_neg (jb_no hi (by decide)), if_pos hw]]
  exact ⟨rfl, hC, js_frX.rf⟩
theorem in_X4_ofSketch_2 : ∀ w ∈ wsX20, w ∈ wsX4_ofSketch := by decide +kernel
set_option maxHeartbeats 4000000 in
set_option maxRecDepth 100000 in
theorem c_X4_ofSketch_30 (la : Launch) {y : js_L} (hy : js_Dy y) {G : js_G} {c : js_C} (hC : jr_C G c) {i : Nat} (hi : i < 6) : js_Ci la y yX4_ofSketch wsX4_ofSketch 7 144 [.ref (js_ad y (190)), .int (nI (i)), .int (nI (0))] G (fun r G' => jP (mq_ofSketch c (nI i) (nI 0), c) r G G') := by
  have hS : jr_K G i (c.1.2 i) := hC.K hi
  have hp : 2 ^ (c.1.2 i).1 ≤ 64 := jm_p6 hS.2.1
  refine js_ofi mf_X4_ofSketch (Nat.le_of_ble_eq_true rfl) hy (fun X F hr => ?_)
  replace F : js_F X y cX4_ofSketch 4 RX4 wsX4_ofSketch 7 144 := F
  show js_W X y 4 _ G 0 [(0, .ref (js_ad y (190))), (1, .int (nI (i))), (2, .int (nI (0)))] []
  refine js_aload_n (pc := 0) 0 F rfl dX4_ofSketch_0 ?_
  refine jg_X_now (pc := 1) F in_X4_ofSketch_4 (lk_X4_ofSketch_fieldLink_RX4_10_JoinedSketches_now_LJoinedSketches_State) dX4_ofSketch_1 ?_
  refine js_iload_n (pc := 4) 1 F rfl dX4_ofSketch_4 ?_
  refine js_callq (pc := 5) F (c_sk_ok _ hy (G := G) (i := i) hi) mf_X3_sketchAt gX4_ofSketch_X3_sketchAt rfl (by decide) (by unfold js_kA; omega) (js_ct_A (by decide)) rfl rfl rfl (Nat.le_of_ble_eq_true rfl) dX4_ofSketch_5 ?_
  rintro _ _ ⟨rfl, rfl⟩
  show js_W X y 4 (js_Qi X y (fun r G' => jP (mq_ofSketch c (nI i) (nI 0), c) r G G')) G (5 + 3) [(0, .ref (js_ad y (190))), (1, .int (nI (i))), (2, .int (nI (0)))] [.ref (js_ad y (js_kS i))]
  refine js_astore_n (pc := 8) (lv2 := [(0, .ref (js_ad y (190))), (1, .int (nI (i))), (2, .int (nI (0))), (3, .ref (js_ad y (js_kS i)))]) F dX4_ofSketch_8 (by decide) [1, 2, 3, 0] rfl ?_
  refine js_aload_n (pc := 9) 3 F rfl dX4_ofSketch_9 ?_
  refine js_ifnonnull (pc := 10) (tgt := 15) F dX4_ofSketch_10 (by decide) ?_
  refine js_iload_n (pc := 15) 2 F rfl dX4_ofSketch_15 ?_
  refine js_tableIn (pc := 16) (off := 52) (tgt := 68) F dX4_ofSketch_16 (by decide) (by decide) (by decide) (by decide) ?_
  refine js_aload_n (pc := 68) 3 F rfl dX4_ofSketch_68 ?_
  refine jgN_4_62 (pc := 69) (v := nI ((c.1.2 i).1)) F in_X4_ofSketch_2 (by omega) (hS.2.2.1) dX4_ofSketch_69 ?_
  refine js_iret (pc := 72) F hr (rfl) ?_ dX4_ofSketch_72
  show jP (mq_ofSketch c (nI i) (nI 0), c) _ _ _
  rw [show mq_ofSketch c (nI i) (nI 0) = nI (c.1.2 i).1 from by unfold mq_ofSketch; rw [if_neg (jb_no hi (by decide)), if_neg (jb_no (by decide) (by decide)), jx (by omega), jx (by decide)]; rfl]
  exact ⟨rfl, hC, js_frX.rf⟩
set_option maxHeartbeats 4000000 in
set_option maxRecDepth 100000 in
theorem c_X4_ofSketch_31 (la : Launch) {y : js_L} (hy : js_Dy y) {G : js_G} {c : js_C} (hC : jr_C G c) {i : Nat} (hi : i < 6) : js_Ci la y yX4_ofSketch wsX4_ofSketch 7 144 [.ref (js_ad y (190)), .int (nI (i)), .int (nI (1))] G (fun r G' => jP (mq_ofSketch c (nI i) (nI 1), c) r G G') := by
  have hS : jr_K G i (c.1.2 i) := hC.K hi
  have hp : 2 ^ (c.1.2 i).1 ≤ 64 := jm_p6 hS.2.1
  refine js_ofi mf_X4_ofSketch (Nat.le_of_ble_eq_true rfl) hy (fun X F hr => ?_)
  replace F : js_F X y cX4_ofSketch 4 RX4 wsX4_ofSketch 7 144 := F
  show js_W X y 4 _ G 0 [(0, .ref (js_ad y (190))), (1, .int (nI (i))), (2, .int (nI (1)))] []
  refine js_aload_n (pc := 0) 0 F rfl dX4_ofSketch_0 ?_
  refine jg_X_now (pc := 1) F in_X4_ofSketch_4 (lk_X4_ofSketch_fieldLink_RX4_10_JoinedSketches_now_LJoinedSketches_State) dX4_ofSketch_1 ?_
  refine js_iload_n (pc := 4) 1 F rfl dX4_ofSketch_4 ?_
  refine js_callq (pc := 5) F (c_sk_ok _ hy (G := G) (i := i) hi) mf_X3_sketchAt gX4_ofSketch_X3_sketchAt rfl (by decide) (by unfold js_kA; omega) (js_ct_A (by decide)) rfl rfl rfl (Nat.le_of_ble_eq_true rfl) dX4_ofSketch_5 ?_
  rintro _ _ ⟨rfl, rfl⟩
  show js_W X y 4 (js_Qi X y (fun r G' => jP (mq_ofSketch c (nI i) (nI 1), c) r G G')) G (5 + 3) [(0, .ref (js_ad y (190))), (1, .int (nI (i))), (2, .int (nI (1)))] [.ref (js_ad y (js_kS i))]
  refine js_astore_n (pc := 8) (lv2 := [(0, .ref (js_ad y (190))), (1, .int (nI (i))), (2, .int (nI (1))), (3, .ref (js_ad y (js_kS i)))]) F dX4_ofSketch_8 (by decide) [1, 2, 3, 0] rfl ?_
  refine js_aload_n (pc := 9) 3 F rfl dX4_ofSketch_9 ?_
  refine js_ifnonnull (pc := 10) (tgt := 15) F dX4_ofSketch_10 (by decide) ?_
  refine js_iload_n (pc := 15) 2 F rfl dX4_ofSketch_15 ?_
  refine js_tableIn (pc := 16) (off := 57) (tgt := 73) F dX4_ofSketch_16 (by decide) (by decide) (by decide) (by decide) ?_
  refine js_aload_n (pc := 73) 3 F rfl dX4_ofSketch_73 ?_
  refine js_calli (pc := 74) F (c_X2_buckets _ hy (by omega) (G := G) (B := (c.1.2 i).1) (hS.2.2.1) (by first | exact hS.2.1 | exact hS2.2.1)) mf_X2_buckets gX4_ofSketch_X2_buckets rfl (by decide) (by unfold js_kS; omega) (js_ct_S (by omega)) rfl rfl rfl (Nat.le_of_ble_eq_true rfl) dX4_ofSketch_74 ?_
  rintro _ _ ⟨rfl, rfl⟩
  refine js_iret (pc := 77) F hr (rfl) ?_ dX4_ofSketch_77
  show jP (mq_ofSketch c (nI i) (nI 1), c) _ _ _
  rw [show mq_ofSketch c (nI i) (nI 1) = nI (2 ^ (c.1.2 i).1) from by unfold mq_ofSketch; rw [if_neg (jb_no hi (by decide)), if_neg (jb_no (by decide) (by decide)), jx (by omega), jx (by decide)]; rfl]
  exact ⟨rfl, hC, js_frX.rf⟩
set_option maxHeartbeats 4000000 in
set_option maxRecDepth 100000 in
theorem c_X4_ofSketch_32 (la : Launch) {y : js_L} (hy : js_Dy y) {G : js_G} {c : js_C} (hC : jr_C G c) {i : Nat} (hi : i < 6) : js_Ci la y yX4_ofSketch wsX4_ofSketch 7 144 [.ref (js_ad y (190)), .int (nI (i)), .int (nI (2))] G (fun r G' => jP (mq_ofSketch c (nI i) (nI 2), c) r G G') := by
  have hS : jr_K G i (c.1.2 i) := hC.K hi
  have hp : 2 ^ (c.1.2 i).1 ≤ 64 := jm_p6 hS.2.1
  refine js_ofi mf_X4_ofSketch (Nat.le_of_ble_eq_true rfl) hy (fun X F hr => ?_)
  replace F : js_F X y cX4_ofSketch 4 RX4 wsX4_ofSketch 7 144 := F
  show js_W X y 4 _ G 0 [(0, .ref (js_ad y (190))), (1, .int (nI (i))), (2, .int (nI (2)))] []
  refine js_aload_n (pc := 0) 0 F rfl dX4_ofSketch_0 ?_
  refine jg_X_now (pc := 1) F in_X4_ofSketch_4 (lk_X4_ofSketch_fieldLink_RX4_10_JoinedSketches_now_LJoinedSketches_State) dX4_ofSketch_1 ?_
  refine js_iload_n (pc := 4) 1 F rfl dX4_ofSketch_4 ?_
  refine js_callq (pc := 5) F (c_sk_ok _ hy (G := G) (i := i) hi) mf_X3_sketchAt gX4_ofSketch_X3_sketchAt rfl (by decide) (by unfold js_kA; omega) (js_ct_A (by decide)) rfl rfl rfl (Nat.le_of_ble_eq_true rfl) dX4_ofSketch_5 ?_
  rintro _ _ ⟨rfl, rfl⟩
  show js_W X y 4 (js_Qi X y (fun r G' => jP (mq_ofSketch c (nI i) (nI 2), c) r G G')) G (5 + 3) [(0, .ref (js_ad y (190))), (1, .int (nI (i))), (2, .int (nI (2)))] [.ref (js_ad y (js_kS i))]
  refine js_astore_n (pc := 8) (lv2 := [(0, .ref (js_ad y (190))), (1, .int (nI (i))), (2, .int (nI (2))), (3, .ref (js_ad y (js_kS i)))]) F dX4_ofSketch_8 (by decide) [1, 2, 3, 0] rfl ?_
  refine js_aload_n (pc := 9) 3 F rfl dX4_ofSketch_9 ?_
  refine js_ifnonnull (pc := 10) (tgt := 15) F dX4_ofSketch_10 (by decide) ?_
  refine js_iload_n (pc := 15) 2 F rfl dX4_ofSketch_15 ?_
  refine js_tableIn (pc := 16) (off := 62) (tgt := 78) F dX4_ofSketch_16 (by decide) (by decide) (by decide) (by decide) ?_
  refine js_aload_n (pc := 78) 3 F rfl dX4_ofSketch_78 ?_
  refine js_calli (pc := 79) F (c_X2_emptyBuckets _ hy (by omega) (G := G) (B := (c.1.2 i).1) (hS.2.2.1) (by first | exact hS.2.1 | exact hS2.2.1) (rk := (c.1.2 i).2.1) (hS.2.2.2.1) (fun b hb => Nat.le_trans (hS.2.2.2.2.1 b hb) (by have := hS.1; omega))) mf_X2_emptyBuckets gX4_ofSketch_X2_emptyBuckets rfl (by decide) (by unfold js_kS; omega) (js_ct_S (by omega)) rfl rfl rfl (Nat.le_of_ble_eq_true rfl) dX4_ofSketch_79 ?_
  rintro _ _ ⟨rfl, rfl⟩
  refine js_iret (pc := 82) F hr (rfl) ?_ dX4_ofSketch_82
  show jP (mq_ofSketch c (nI i) (nI 2), c) _ _ _
  rw [show mq_ofSketch c (nI i) (nI 2) = nI (jm_emp (c.1.2 i).2.1 (2 ^ (c.1.2 i).1)) from by unfold mq_ofSketch; rw [if_neg (jb_no hi (by decide)), if_neg (jb_no (by decide) (by decide)), jx (by omega), jx (by decide)]; rfl]
  exact ⟨rfl, hC, js_frX.rf⟩
set_option maxHeartbeats 4000000 in
set_option maxRecDepth 100000 in
theorem c_X4_ofSketch_33 (la : Launch) {y : js_L} (hy : js_Dy y) {G : js_G} {c : js_C} (hC : jr_C G c) {i : Nat} (hi : i < 6) : js_Ci la y yX4_ofSketch wsX4_ofSketch 7 144 [.ref (js_ad y (190)), .int (nI (i)), .int (nI (3))] G (fun r G' => jP (mq_ofSketch c (nI i) (nI 3), c) r G G') := by
  have hS : jr_K G i (c.1.2 i) := hC.K hi
  have hp : 2 ^ (c.1.2 i).1 ≤ 64 := jm_p6 hS.2.1
  refine js_ofi mf_X4_ofSketch (Nat.le_of_ble_eq_true rfl) hy (fun X F hr => ?_)
  replace F : js_F X y cX4_ofSketch 4 RX4 wsX4_ofSketch 7 144 := F
  show js_W X y 4 _ G 0 [(0, .ref (js_ad y (190))), (1, .int (nI (i))), (2, .int (nI (3)))] []
  refine js_aload_n (pc := 0) 0 F rfl dX4_ofSketch_0 ?_
  refine jg_X_now (pc := 1) F in_X4_ofSketch_4 (lk_X4_ofSketch_fieldLink_RX4_10_JoinedSketches_now_LJoinedSketches_State) dX4_ofSketch_1 ?_
  refine js_iload_n (pc := 4) 1 F rfl dX4_ofSketch_4 ?_
  refine js_callq (pc := 5) F (c_sk_ok _ hy (G := G) (i := i) hi) mf_X3_sketchAt gX4_ofSketch_X3_sketchAt rfl (by decide) (by unfold js_kA; omega) (js_ct_A (by decide)) rfl rfl rfl (Nat.le_of_ble_eq_true rfl) dX4_ofSketch_5 ?_
  rintro _ _ ⟨rfl, rfl⟩
  show js_W X y 4 (js_Qi X y (fun r G' => jP (mq_ofSketch c (nI i) (nI 3), c) r G G')) G (5 + 3) [(0, .ref (js_ad y (190))), (1, .int (nI (i))), (2, .int (nI (3)))] [.ref (js_ad y (js_kS i))]
  refine js_astore_n (pc := 8) (lv2 := [(0, .ref (js_ad y (190))), (1, .int (nI (i))), (2, .int (nI (3))), (3, .ref (js_ad y (js_kS i)))]) F dX4_ofSketch_8 (by decide) [1, 2, 3, 0] rfl ?_
  refine js_aload_n (pc := 9) 3 F rfl dX4_ofSketch_9 ?_
  refine js_ifnonnull (pc := 10) (tgt := 15) F dX4_ofSketch_10 (by decide) ?_
  refine js_iload_n (pc := 15) 2 F rfl dX4_ofSketch_15 ?_
  refine js_tableIn (pc := 16) (off := 67) (tgt := 83) F dX4_ofSketch_16 (by decide) (by decide) (by decide) (by decide) ?_
  refine js_aload_n (pc := 83) 3 F rfl dX4_ofSketch_83 ?_
  refine js_calli (pc := 84) F (c_X2_greatestRank _ hy (by omega) (G := G) (B := (c.1.2 i).1) (hS.2.2.1) (by first | exact hS.2.1 | exact hS2.2.1) (rk := (c.1.2 i).2.1) (hS.2.2.2.1) (fun b hb => Nat.le_trans (hS.2.2.2.2.1 b hb) (by have := hS.1; omega))) mf_X2_greatestRank gX4_ofSketch_X2_greatestRank rfl (by decide) (by unfold js_kS; omega) (js_ct_S (by omega)) rfl rfl rfl (Nat.le_of_ble_eq_true rfl) dX4_ofSketch_84 ?_
  rintro _ _ ⟨rfl, rfl⟩
  refine js_iret (pc := 87) F hr (rfl) ?_ dX4_ofSketch_87
  show jP (mq_ofSketch c (nI i) (nI 3), c) _ _ _
  rw [show mq_ofSketch c (nI i) (nI 3) = nI (jm_max (c.1.2 i).2.1 (2 ^ (c.1.2 i).1)) from by unfold mq_ofSketch; rw [if_neg (jb_no hi (by decide)), if_neg (jb_no (by decide) (by decide)), jx (by omega), jx (by decide)]; rfl]
  exact ⟨rfl, hC, js_frX.rf⟩
set_option maxHeartbeats 4000000 in
set_option maxRecDepth 100000 in
theorem c_X4_ofSketch_34 (la : Launch) {y : js_L} (hy : js_Dy y) {G : js_G} {c : js_C} (hC : jr_C G c) {i : Nat} (hi : i < 6) : js_Ci la y yX4_ofSketch wsX4_ofSketch 7 144 [.ref (js_ad y (190)), .int (nI (i)), .int (nI (4))] G (fun r G' => jP (mq_ofSketch c (nI i) (nI 4), c) r G G') := by
  have hS : jr_K G i (c.1.2 i) := hC.K hi
  have hp : 2 ^ (c.1.2 i).1 ≤ 64 := jm_p6 hS.2.1
  refine js_ofi mf_X4_ofSketch (Nat.le_of_ble_eq_true rfl) hy (fun X F hr => ?_)
  replace F : js_F X y cX4_ofSketch 4 RX4 wsX4_ofSketch 7 144 := F
  show js_W X y 4 _ G 0 [(0, .ref (js_ad y (190))), (1, .int (nI (i))), (2, .int (nI (4)))] []
  refine js_aload_n (pc := 0) 0 F rfl dX4_ofSketch_0 ?_
  refine jg_X_now (pc := 1) F in_X4_ofSketch_4 (lk_X4_ofSketch_fieldLink_RX4_10_JoinedSketches_now_LJoinedSketches_State) dX4_ofSketch_1 ?_
  refine js_iload_n (pc := 4) 1 F rfl dX4_ofSketch_4 ?_
  refine js_callq (pc := 5) F (c_sk_ok _ hy (G := G) (i := i) hi) mf_X3_sketchAt gX4_ofSketch_X3_sketchAt rfl (by decide) (by unfold js_kA; omega) (js_ct_A (by decide)) rfl rfl rfl (Nat.le_of_ble_eq_true rfl) dX4_ofSketch_5 ?_
  rintro _ _ ⟨rfl, rfl⟩
  show js_W X y 4 (js_Qi X y (fun r G' => jP (mq_ofSketch c (nI i) (nI 4), c) r G G')) G (5 + 3) [(0, .ref (js_ad y (190))), (1, .int (nI (i))), (2, .int (nI (4)))] [.ref (js_ad y (js_kS i))]
  refine js_astore_n (pc := 8) (lv2 := [(0, .ref (js_ad y (190))), (1, .int (nI (i))), (2, .int (nI (4))), (3, .ref (js_ad y (js_kS i)))]) F dX4_ofSketch_8 (by decide) [1, 2, 3, 0] rfl ?_
  refine js_aload_n (pc := 9) 3 F rfl dX4_ofSketch_9 ?_
  refine js_ifnonnull (pc := 10) (tgt := 15) F dX4_ofSketch_10 (by decide) ?_
  refine js_iload_n (pc := 15) 2 F rfl dX4_ofSketch_15 ?_
  refine js_tableIn (pc := 16) (off := 72) (tgt := 88) F dX4_ofSketch_16 (by decide) (by decide) (by decide) (by decide) ?_
  refine js_aload_n (pc := 88) 3 F rfl dX4_ofSketch_88 ?_
  refine js_calli (pc := 89) F (c_X2_rankSum _ hy (by omega) (G := G) (B := (c.1.2 i).1) (hS.2.2.1) (by first | exact hS.2.1 | exact hS2.2.1) (rk := (c.1.2 i).2.1) (hS.2.2.2.1) (fun b hb => Nat.le_trans (hS.2.2.2.2.1 b hb) (by have := hS.1; omega))) mf_X2_rankSum gX4_ofSketch_X2_rankSum rfl (by decide) (by unfold js_kS; omega) (js_ct_S (by omega)) rfl rfl rfl (Nat.le_of_ble_eq_true rfl) dX4_ofSketch_89 ?_
  rintro _ _ ⟨rfl, rfl⟩
  refine js_iret (pc := 92) F hr (rfl) ?_ dX4_ofSketch_92
  show jP (mq_ofSketch c (nI i) (nI 4), c) _ _ _
  rw [show mq_ofSketch c (nI i) (nI 4) = nI (jm_S (c.1.2 i).2.1 (2 ^ (c.1.2 i).1)) from by unfold mq_ofSketch; rw [if_neg (jb_no hi (by decide)), if_neg (jb_no (by decide) (by decide)), jx (by omega), jx (by decide)]; rfl]
  exact ⟨rfl, hC, js_frX.rf⟩
set_option maxHeartbeats 4000000 in
set_option maxRecDepth 100000 in
theorem c_X4_ofSketch_35 (la : Launch) {y : js_L} (hy : js_Dy y) {G : js_G} {c : js_C} (hC : jr_C G c) {i : Nat} (hi : i < 6) : js_Ci la y yX4_ofSketch wsX4_ofSketch 7 144 [.ref (js_ad y (190)), .int (nI (i)), .int (nI (5))] G (fun r G' => jP (mq_ofSketch c (nI i) (nI 5), c) r G G') := by
  have hS : jr_K G i (c.1.2 i) := hC.K hi
  have hp : 2 ^ (c.1.2 i).1 ≤ 64 := jm_p6 hS.2.1
  refine js_ofi mf_X4_ofSketch (Nat.le_of_ble_eq_true rfl) hy (fun X F hr => ?_)
  replace F : js_F X y cX4_ofSketch 4 RX4 wsX4_ofSketch 7 144 := F
  show js_W X y 4 _ G 0 [(0, .ref (js_ad y (190))), (1, .int (nI (i))), (2, .int (nI (5)))] []
  refine js_aload_n (pc := 0) 0 F rfl dX4_ofSketch_0 ?_
  refine jg_X_now (pc := 1) F in_X4_ofSketch_4 (lk_X4_ofSketch_fieldLink_RX4_10_JoinedSketches_now_LJoinedSketches_State) dX4_ofSketch_1 ?_
  refine js_iload_n (pc := 4) 1 F rfl dX4_ofSketch_4 ?_
  refine js_callq (pc := 5) F (c_sk_ok _ hy (G := G) (i := i) hi) mf_X3_sketchAt gX4_ofSketch_X3_sketchAt rfl (by decide) (by unfold js_kA; omega) (js_ct_A (by decide)) rfl rfl rfl (Nat.le_of_ble_eq_true rfl) dX4_ofSketch_5 ?_
  rintro _ _ ⟨rfl, rfl⟩
  show js_W X y 4 (js_Qi X y (fun r G' => jP (mq_ofSketch c (nI i) (nI 5), c) r G G')) G (5 + 3) [(0, .ref (js_ad y (190))), (1, .int (nI (i))), (2, .int (nI (5)))] [.ref (js_ad y (js_kS i))]
  refine js_astore_n (pc := 8) (lv2 := [(0, .ref (js_ad y (190))), (1, .int (nI (i))), (2, .int (nI (5))), (3, .ref (js_ad y (js_kS i)))]) F dX4_ofSketch_8 (by decide) [1, 2, 3, 0] rfl ?_
  refine js_aload_n (pc := 9) 3 F rfl dX4_ofSketch_9 ?_
  refine js_ifnonnull (pc := 10) (tgt := 15) F dX4_ofSketch_10 (by decide) ?_
  refine js_iload_n (pc := 15) 2 F rfl dX4_ofSketch_15 ?_
  refine js_tableIn (pc := 16) (off := 77) (tgt := 93) F dX4_ofSketch_16 (by decide) (by decide) (by decide) (by decide) ?_
  refine js_aload_n (pc := 93) 3 F rfl dX4_ofSketch_93 ?_
  refine js_calli (pc := 94) F (c_X2_rawEstimate _ hy (by omega) (G := G) (B := (c.1.2 i).1) (hS.2.2.1) (by first | exact hS.2.1 | exact hS2.2.1) (rk := (c.1.2 i).2.1) (hS.2.2.2.1) (fun b hb => Nat.le_trans (hS.2.2.2.2.1 b hb) (by have := hS.1; omega))) mf_X2_rawEstimate gX4_ofSketch_X2_rawEstimate rfl (by decide) (by unfold js_kS; omega) (js_ct_S (by omega)) rfl rfl rfl (Nat.le_of_ble_eq_true rfl) dX4_ofSketch_94 ?_
  rintro _ _ ⟨rfl, rfl⟩
  refine js_iret (pc := 97) F hr (rfl) ?_ dX4_ofSketch_97
  show jP (mq_ofSketch c (nI i) (nI 5), c) _ _ _
  rw [show mq_ofSketch c (nI i) (nI 5) = nI (jm_raw (2 ^ (c.1.2 i).1) (jm_S (c.1.2 i).2.1 (2 ^ (c.1.2 i).1))) from by unfold mq_ofSketch; rw [if_neg (jb_no hi (by decide)), if_neg (jb_no (by decide) (by decide)), jx (by omega), jx (by decide)]; rfl]
  exact ⟨rfl, hC, js_frX.rf⟩
set_option maxHeartbeats 4000000 in
set_option maxRecDepth 100000 in
theorem c_X4_ofSketch_36 (la : Launch) {y : js_L} (hy : js_Dy y) {G : js_G} {c : js_C} (hC : jr_C G c) {i : Nat} (hi : i < 6) : js_Ci la y yX4_ofSketch wsX4_ofSketch 7 144 [.ref (js_ad y (190)), .int (nI (i)), .int (nI (6))] G (fun r G' => jP (mq_ofSketch c (nI i) (nI 6), c) r G G') := by
  have hS : jr_K G i (c.1.2 i) := hC.K hi
  have hp : 2 ^ (c.1.2 i).1 ≤ 64 := jm_p6 hS.2.1
  refine js_ofi mf_X4_ofSketch (Nat.le_of_ble_eq_true rfl) hy (fun X F hr => ?_)
  replace F : js_F X y cX4_ofSketch 4 RX4 wsX4_ofSketch 7 144 := F
  show js_W X y 4 _ G 0 [(0, .ref (js_ad y (190))), (1, .int (nI (i))), (2, .int (nI (6)))] []
  refine js_aload_n (pc := 0) 0 F rfl dX4_ofSketch_0 ?_
  refine jg_X_now (pc := 1) F in_X4_ofSketch_4 (lk_X4_ofSketch_fieldLink_RX4_10_JoinedSketches_now_LJoinedSketches_State) dX4_ofSketch_1 ?_
  refine js_iload_n (pc := 4) 1 F rfl dX4_ofSketch_4 ?_
  refine js_callq (pc := 5) F (c_sk_ok _ hy (G := G) (i := i) hi) mf_X3_sketchAt gX4_ofSketch_X3_sketchAt rfl (by decide) (by unfold js_kA; omega) (js_ct_A (by decide)) rfl rfl rfl (Nat.le_of_ble_eq_true rfl) dX4_ofSketch_5 ?_
  rintro _ _ ⟨rfl, rfl⟩
  show js_W X y 4 (js_Qi X y (fun r G' => jP (mq_ofSketch c (nI i) (nI 6), c) r G G')) G (5 + 3) [(0, .ref (js_ad y (190))), (1, .int (nI (i))), (2, .int (nI (6)))] [.ref (js_ad y (js_kS i))]
  refine js_astore_n (pc := 8) (lv2 := [(0, .ref (js_ad y (190))), (1, .int (nI (i))), (2, .int (nI (6))), (3, .ref (js_ad y (js_kS i)))]) F dX4_ofSketch_8 (by decide) [1, 2, 3, 0] rfl ?_
  refine js_aload_n (pc := 9) 3 F rfl dX4_ofSketch_9 ?_
  refine js_ifnonnull (pc := 10) (tgt := 15) F dX4_ofSketch_10 (by decide) ?_
  refine js_iload_n (pc := 15) 2 F rfl dX4_ofSketch_15 ?_
  refine js_tableIn (pc := 16) (off := 82) (tgt := 98) F dX4_ofSketch_16 (by decide) (by decide) (by decide) (by decide) ?_
  refine js_aload_n (pc := 98) 3 F rfl dX4_ofSketch_98 ?_
  refine js_calli (pc := 99) F (c_X2_estimate _ hy (by omega) (G := G) (B := (c.1.2 i).1) (hS.2.2.1) (by first | exact hS.2.1 | exact hS2.2.1) (rk := (c.1.2 i).2.1) (hS.2.2.2.1) (fun b hb => Nat.le_trans (hS.2.2.2.2.1 b hb) (by have := hS.1; omega))) mf_X2_estimate gX4_ofSketch_X2_estimate rfl (by decide) (by unfold js_kS; omega) (js_ct_S (by omega)) rfl rfl rfl (Nat.le_of_ble_eq_true rfl) dX4_ofSketch_99 ?_
  rintro _ _ ⟨rfl, rfl⟩
  refine js_iret (pc := 102) F hr (rfl) ?_ dX4_ofSketch_102
  show jP (mq_ofSketch c (nI i) (nI 6), c) _ _ _
  rw [show mq_ofSketch c (nI i) (nI 6) = nI (jm_est (c.1.2 i).2.1 (2 ^ (c.1.2 i).1)) from by unfold mq_ofSketch; rw [if_neg (jb_no hi (by decide)), if_neg (jb_no (by decide) (by decide)), jx (by omega), jx (by decide)]; rfl]
  exact ⟨rfl, hC, js_frX.rf⟩
set_option maxHeartbeats 4000000 in
set_option maxRecDepth 100000 in
theorem c_X4_ofSketch_37 (la : Launch) {y : js_L} (hy : js_Dy y) {G : js_G} {c : js_C} (hC : jr_C G c) {i : Nat} (hi : i < 6) : js_Ci la y yX4_ofSketch wsX4_ofSketch 7 144 [.ref (js_ad y (190)), .int (nI (i)), .int (nI (7))] G (fun r G' => jP (mq_ofSketch c (nI i) (nI 7), c) r G G') := by
  have hS : jr_K G i (c.1.2 i) := hC.K hi
  have hp : 2 ^ (c.1.2 i).1 ≤ 64 := jm_p6 hS.2.1
  refine js_ofi mf_X4_ofSketch (Nat.le_of_ble_eq_true rfl) hy (fun X F hr => ?_)
  replace F : js_F X y cX4_ofSketch 4 RX4 wsX4_ofSketch 7 144 := F
  show js_W X y 4 _ G 0 [(0, .ref (js_ad y (190))), (1, .int (nI (i))), (2, .int (nI (7)))] []
  refine js_aload_n (pc := 0) 0 F rfl dX4_ofSketch_0 ?_
  refine jg_X_now (pc := 1) F in_X4_ofSketch_4 (lk_X4_ofSketch_fieldLink_RX4_10_JoinedSketches_now_LJoinedSketches_State) dX4_ofSketch_1 ?_
  refine js_iload_n (pc := 4) 1 F rfl dX4_ofSketch_4 ?_
  refine js_callq (pc := 5) F (c_sk_ok _ hy (G := G) (i := i) hi) mf_X3_sketchAt gX4_ofSketch_X3_sketchAt rfl (by decide) (by unfold js_kA; omega) (js_ct_A (by decide)) rfl rfl rfl (Nat.le_of_ble_eq_true rfl) dX4_ofSketch_5 ?_
  rintro _ _ ⟨rfl, rfl⟩
  show js_W X y 4 (js_Qi X y (fun r G' => jP (mq_ofSketch c (nI i) (nI 7), c) r G G')) G (5 + 3) [(0, .ref (js_ad y (190))), (1, .int (nI (i))), (2, .int (nI (7)))] [.ref (js_ad y (js_kS i))]
  refine js_astore_n (pc := 8) (lv2 := [(0, .ref (js_ad y (190))), (1, .int (nI (i))), (2, .int (nI (7))), (3, .ref (js_ad y (js_kS i)))]) F dX4_ofSketch_8 (by decide) [1, 2, 3, 0] rfl ?_
  refine js_aload_n (pc := 9) 3 F rfl dX4_ofSketch_9 ?_
  refine js_ifnonnull (pc := 10) (tgt := 15) F dX4_ofSketch_10 (by decide) ?_
  refine js_iload_n (pc := 15) 2 F rfl dX4_ofSketch_15 ?_
  refine js_tableIn (pc := 16) (off := 87) (tgt := 103) F dX4_ofSketch_16 (by decide) (by decide) (by decide) (by decide) ?_
  refine js_aload_n (pc := 103) 3 F rfl dX4_ofSketch_103 ?_
  refine js_calli (pc := 104) F (c_X2_toldError _ hy (by omega) (G := G) (B := (c.1.2 i).1) (hS.2.2.1) (by first | exact hS.2.1 | exact hS2.2.1) (rk := (c.1.2 i).2.1) (hS.2.2.2.1) (fun b hb => Nat.le_trans (hS.2.2.2.2.1 b hb) (by have := hS.1; omega)) (hS.1)) mf_X2_toldError gX4_ofSketch_X2_toldError rfl (by decide) (by unfold js_kS; omega) (js_ct_S (by omega)) rfl rfl rfl (Nat.le_of_ble_eq_true rfl) dX4_ofSketch_104 ?_
  rintro _ _ ⟨rfl, rfl⟩
  refine js_iret (pc := 107) F hr (rfl) ?_ dX4_ofSketch_107
  show jP (mq_ofSketch c (nI i) (nI 7), c) _ _ _
  rw [show mq_ofSketch c (nI i) (nI 7) = nI (jm_err (c.1.2 i).2.1 (2 ^ (c.1.2 i).1)) from by unfold mq_ofSketch; rw [if_neg (jb_no hi (by decide)), if_neg (jb_no (by decide) (by decide)), jx (by omega), jx (by decide)]; rfl]
  exact ⟨rfl, hC, js_frX.rf⟩
set_option maxHeartbeats 4000000 in
set_option maxRecDepth 100000 in
theorem c_X4_ofSketch_38n (la : Launch) {y : js_L} (hy : js_Dy y) {G : js_G} {c : js_C} (hC : jr_C G c) {i : Nat} (hi : i < 6) (hq : (c.1.2 i).2.2 = none) : js_Ci la y yX4_ofSketch wsX4_ofSketch 7 144 [.ref (js_ad y (190)), .int (nI (i)), .int (nI (8))] G (fun r G' => jP (mq_ofSketch c (nI i) (nI 8), c) r G G') := by
  have hS : jr_K G i (c.1.2 i) := hC.K hi
  have hp : 2 ^ (c.1.2 i).1 ≤ 64 := jm_p6 hS.2.1
  have hL : jr_L G i none := hq ▸ hS.2.2.2.2.2
  refine js_ofi mf_X4_ofSketch (Nat.le_of_ble_eq_true rfl) hy (fun X F hr => ?_)
  replace F : js_F X y cX4_ofSketch 4 RX4 wsX4_ofSketch 7 144 := F
  show js_W X y 4 _ G 0 [(0, .ref (js_ad y (190))), (1, .int (nI (i))), (2, .int (nI (8)))] []
  refine js_aload_n (pc := 0) 0 F rfl dX4_ofSketch_0 ?_
  refine jg_X_now (pc := 1) F in_X4_ofSketch_4 (lk_X4_ofSketch_fieldLink_RX4_10_JoinedSketches_now_LJoinedSketches_State) dX4_ofSketch_1 ?_
  refine js_iload_n (pc := 4) 1 F rfl dX4_ofSketch_4 ?_
  refine js_callq (pc := 5) F (c_sk_ok _ hy (G := G) (i := i) hi) mf_X3_sketchAt gX4_ofSketch_X3_sketchAt rfl (by decide) (by unfold js_kA; omega) (js_ct_A (by decide)) rfl rfl rfl (Nat.le_of_ble_eq_true rfl) dX4_ofSketch_5 ?_
  rintro _ _ ⟨rfl, rfl⟩
  show js_W X y 4 (js_Qi X y (fun r G' => jP (mq_ofSketch c (nI i) (nI 8), c) r G G')) G (5 + 3) [(0, .ref (js_ad y (190))), (1, .int (nI (i))), (2, .int (nI (8)))] [.ref (js_ad y (js_kS i))]
  refine js_astore_n (pc := 8) (lv2 := [(0, .ref (js_ad y (190))), (1, .int (nI (i))), (2, .int (nI (8))), (3, .ref (js_ad y (js_kS i)))]) F dX4_ofSketch_8 (by decide) [1, 2, 3, 0] rfl ?_
  refine js_aload_n (pc := 9) 3 F rfl dX4_ofSketch_9 ?_
  refine js_ifnonnull (pc := 10) (tgt := 15) F dX4_ofSketch_10 (by decide) ?_
  refine js_iload_n (pc := 15) 2 F rfl dX4_ofSketch_15 ?_
  refine js_tableIn (pc := 16) (off := 92) (tgt := 108) F dX4_ofSketch_16 (by decide) (by decide) (by decide) (by decide) ?_
  refine js_aload_n (pc := 108) 3 F rfl dX4_ofSketch_108 ?_
  refine jgN_4_140 (pc := 109) (v := nI (1)) F in_X4_ofSketch_2 (by omega) (hL.2) dX4_ofSketch_109 ?_
  refine js_if_eqN (pc := 112) (a := 1) (tgt := 120) F (by decide) dX4_ofSketch_112 (by decide) (fun h112 => by exact absurd h112 (by decide)) (fun h112 => ?_)
  refine js_bipush (pc := 115) (v := (-6)) F (by decide) dX4_ofSketch_115 ?_
  refine js_goto (pc := 117) (tgt := 124) F dX4_ofSketch_117 (by decide) ?_
  refine js_iret (pc := 124) F hr (rfl) ?_ dX4_ofSketch_124
  show jP (mq_ofSketch c (nI i) (nI 8), c) _ _ _
  rw [show mq_ofSketch c (nI i) (nI 8) = -6 from by unfold mq_ofSketch; rw [if_neg (jb_no hi (by decide)), if_neg (jb_no (by decide) (by decide)), jx (by omega), jx (by decide)]; show jm_len (c.1.2 i).2.2 = _; rw [hq]; rfl]
  exact ⟨rfl, hC, js_frX.rf⟩
set_option maxHeartbeats 4000000 in
set_option maxRecDepth 100000 in
theorem c_X4_ofSketch_38s (la : Launch) {y : js_L} (hy : js_Dy y) {G : js_G} {c : js_C} (hC : jr_C G c) {i : Nat} (hi : i < 6) {l : List Nat} (hq : (c.1.2 i).2.2 = some l) : js_Ci la y yX4_ofSketch wsX4_ofSketch 7 144 [.ref (js_ad y (190)), .int (nI (i)), .int (nI (8))] G (fun r G' => jP (mq_ofSketch c (nI i) (nI 8), c) r G G') := by
  have hS : jr_K G i (c.1.2 i) := hC.K hi
  have hp : 2 ^ (c.1.2 i).1 ≤ 64 := jm_p6 hS.2.1
  have hL : jr_L G i (some l) := hq ▸ hS.2.2.2.2.2
  refine js_ofi mf_X4_ofSketch (Nat.le_of_ble_eq_true rfl) hy (fun X F hr => ?_)
  replace F : js_F X y cX4_ofSketch 4 RX4 wsX4_ofSketch 7 144 := F
  show js_W X y 4 _ G 0 [(0, .ref (js_ad y (190))), (1, .int (nI (i))), (2, .int (nI (8)))] []
  refine js_aload_n (pc := 0) 0 F rfl dX4_ofSketch_0 ?_
  refine jg_X_now (pc := 1) F in_X4_ofSketch_4 (lk_X4_ofSketch_fieldLink_RX4_10_JoinedSketches_now_LJoinedSketches_State) dX4_ofSketch_1 ?_
  refine js_iload_n (pc := 4) 1 F rfl dX4_ofSketch_4 ?_
  refine js_callq (pc := 5) F (c_sk_ok _ hy (G := G) (i := i) hi) mf_X3_sketchAt gX4_ofSketch_X3_sketchAt rfl (by decide) (by unfold js_kA; omega) (js_ct_A (by decide)) rfl rfl rfl (Nat.le_of_ble_eq_true rfl) dX4_ofSketch_5 ?_
  rintro _ _ ⟨rfl, rfl⟩
  show js_W X y 4 (js_Qi X y (fun r G' => jP (mq_ofSketch c (nI i) (nI 8), c) r G G')) G (5 + 3) [(0, .ref (js_ad y (190))), (1, .int (nI (i))), (2, .int (nI (8)))] [.ref (js_ad y (js_kS i))]
  refine js_astore_n (pc := 8) (lv2 := [(0, .ref (js_ad y (190))), (1, .int (nI (i))), (2, .int (nI (8))), (3, .ref (js_ad y (js_kS i)))]) F dX4_ofSketch_8 (by decide) [1, 2, 3, 0] rfl ?_
  refine js_aload_n (pc := 9) 3 F rfl dX4_ofSketch_9 ?_
  refine js_ifnonnull (pc := 10) (tgt := 15) F dX4_ofSketch_10 (by decide) ?_
  refine js_iload_n (pc := 15) 2 F rfl dX4_ofSketch_15 ?_
  refine js_tableIn (pc := 16) (off := 92) (tgt := 108) F dX4_ofSketch_16 (by decide) (by decide) (by decide) (by decide) ?_
  refine js_aload_n (pc := 108) 3 F rfl dX4_ofSketch_108 ?_
  refine jgN_4_140 (pc := 109) (v := nI (0)) F in_X4_ofSketch_2 (by omega) (hL.2.1) dX4_ofSketch_109 ?_
  refine js_if_eqN (pc := 112) (a := 0) (tgt := 120) F (by decide) dX4_ofSketch_112 (by decide) (fun h112 => ?_) (fun h112 => by exact absurd rfl h112)
  refine js_aload_n (pc := 120) 3 F rfl dX4_ofSketch_120 ?_
  refine jgN_4_144 (pc := 121) (v := nI (l.length)) F in_X4_ofSketch_2 (by omega) (hL.1) dX4_ofSketch_121 ?_
  refine js_iret (pc := 124) F hr (rfl) ?_ dX4_ofSketch_124
  show jP (mq_ofSketch c (nI i) (nI 8), c) _ _ _
  rw [show mq_ofSketch c (nI i) (nI 8) = nI l.length from by unfold mq_ofSketch; rw [if_neg (jb_no hi (by decide)), if_neg (jb_no (by decide) (by decide)), jx (by omega), jx (by decide)]; show jm_len (c.1.2 i).2.2 = _; rw [hq]; rfl]
  exact ⟨rfl, hC, js_frX.rf⟩
theorem in_X4_withRank_4 : ∀ w ∈ wsX40, w ∈ wsX4_withRank := by decide +kernel
theorem lk_X4_withRank_constantLong_RX4_147_1 : Cond.constantLong RX4 147 (-1) ∈ wsX4_withRank := by decide +kernel
theorem lk_X4_withRank_fieldLink_RX4_10_JoinedSketches_now_LJoinedSketches_State : Cond.fieldLink RX4 10 "JoinedSketches" "now" "LJoinedSketches$State;" ∈ wsX4_withRank := by decide +kernel
theorem mf_X4_withRank : js_M yX4_withRank cX4_withRank 4 (some .long) wsX4_withRank 2 := ⟨⟨_, rfl⟩, by decide +kernel, by decide +kernel, by decide +kernel, by decide +kernel⟩
set_option maxHeartbeats 4000000 in
set_option maxRecDepth 100000 in
theorem c_X4_withRank_1 (la : Launch) {y : js_L} (hy : js_Dy y) {G : js_G} {c : js_C} (hC : jr_C G c) {x : Int32} {q : Int32} (hx : jb x 6) : js_Cl la y yX4_withRank wsX4_withRank 4 78 [.ref (js_ad y (190)), .int (x), .int (q)] G (fun r G' => r = mq_withRank c x q ∧ jr_C G' c ∧ js_frX G G') := by
  refine js_ofl mf_X4_withRank (Nat.le_of_ble_eq_true rfl) hy (fun X F hr => ?_)
  replace F : js_F X y cX4_withRank 4 RX4 wsX4_withRank 4 78 := F
  show js_W X y 4 _ G 0 [(0, .ref (js_ad y (190))), (1, .int (x)), (2, .int (q))] []
  refine js_aload_n (pc := 0) 0 F rfl dX4_withRank_0 ?_
  refine jg_X_now (pc := 1) F in_X4_withRank_4 (lk_X4_withRank_fieldLink_RX4_10_JoinedSketches_now_LJoinedSketches_State) dX4_withRank_1 ?_
  refine js_iload_n (pc := 4) 1 F rfl dX4_withRank_4 ?_
  refine js_callq (pc := 5) F (c_sk_bad _ hy (G := G) (x := x) hx) mf_X3_sketchAt gX4_withRank_X3_sketchAt rfl (by decide) (by unfold js_kA; omega) (js_ct_A (by decide)) rfl rfl rfl (Nat.le_of_ble_eq_true rfl) dX4_withRank_5 ?_
  rintro _ _ ⟨rfl, rfl⟩
  show js_W X y 4 (js_Ql X y (fun r G' => r = mq_withRank c x q ∧ jr_C G' c ∧ js_frX G G')) G (5 + 3) [(0, .ref (js_ad y (190))), (1, .int (x)), (2, .int (q))] [.null]
  refine js_astore_nN (pc := 8) (lv2 := [(0, .ref (js_ad y (190))), (1, .int (x)), (2, .int (q)), (3, .null)]) F dX4_withRank_8 (by decide) [1, 2, 3, 0] rfl ?_
  refine js_aload_nN (pc := 9) 3 F rfl dX4_withRank_9 ?_
  refine js_ifnonnullN (pc := 10) F dX4_withRank_10 ?_
  refine js_ldc2 (pc := 13) (v := (-1)) F (lk_X4_withRank_constantLong_RX4_147_1) dX4_withRank_13 ?_
  refine js_lret (pc := 16) F hr ?_ dX4_withRank_16
  exact ⟨by rw [show mq_withRank c x q = -1 from if_pos hx], hC, js_frX.rf⟩
theorem lk_X4_withRank_constantLong_RX4_149_2 : Cond.constantLong RX4 149 (-2) ∈ wsX4_withRank := by decide +kernel
set_option maxHeartbeats 4000000 in
set_option maxRecDepth 100000 in
theorem c_X4_withRank_2 (la : Launch) {y : js_L} (hy : js_Dy y) {G : js_G} {c : js_C} (hC : jr_C G c) {i : Nat} (hi : i < 6) {q : Int32} (hq : jb q 16) : js_Cl la y yX4_withRank wsX4_withRank 4 78 [.ref (js_ad y (190)), .int (nI (i)), .int (q)] G (fun r G' => r = mq_withRank c (nI i) q ∧ jr_C G' c ∧ js_frX G G') := by
  refine js_ofl mf_X4_withRank (Nat.le_of_ble_eq_true rfl) hy (fun X F hr => ?_)
  replace F : js_F X y cX4_withRank 4 RX4 wsX4_withRank 4 78 := F
  show js_W X y 4 _ G 0 [(0, .ref (js_ad y (190))), (1, .int (nI (i))), (2, .int (q))] []
  refine js_aload_n (pc := 0) 0 F rfl dX4_withRank_0 ?_
  refine jg_X_now (pc := 1) F in_X4_withRank_4 (lk_X4_withRank_fieldLink_RX4_10_JoinedSketches_now_LJoinedSketches_State) dX4_withRank_1 ?_
  refine js_iload_n (pc := 4) 1 F rfl dX4_withRank_4 ?_
  refine js_callq (pc := 5) F (c_sk_ok _ hy (G := G) (i := i) hi) mf_X3_sketchAt gX4_withRank_X3_sketchAt rfl (by decide) (by unfold js_kA; omega) (js_ct_A (by decide)) rfl rfl rfl (Nat.le_of_ble_eq_true rfl) dX4_withRank_5 ?_
  rintro _ _ ⟨rfl, rfl⟩
  show js_W X y 4 (js_Ql X y (fun r G' => r = mq_withRank c (nI i) q ∧ jr_C G' c ∧ js_frX G G')) G (5 + 3) [(0, .ref (js_ad y (190))), (1, .int (nI (i))), (2, .int (q))] [.ref (js_ad y (js_kS i))]
  refine js_astore_n (pc := 8) (lv2 := [(0, .ref (js_ad y (190))), (1, .int (nI (i))), (2, .int (q)), (3, .ref (js_ad y (js_kS i)))]) F dX4_withRank_8 (by decide) [1, 2, 3, 0] rfl ?_
  refine js_aload_n (pc := 9) 3 F rfl dX4_withRank_9 ?_
  refine js_ifnonnull (pc := 10) (tgt := 17) F dX4_withRank_10 (by decide) ?_
  refine js_iload_n (pc := 17) 2 F rfl dX4_withRank_17 ?_
  refine js_if_lt (pc := 18) (tgt := 27) F dX4_withRank_18 (by decide) (fun h18 => ?_) (fun h18 => ?_)
  · skip
    refine js_ldc2 (pc := 27) (v := (-2)) F (lk_X4_withRank_constantLong_RX4_149_2) dX4_withRank_27 ?_
    refine js_lret (pc := 30) F hr ?_ dX4_withRank_30
    exact ⟨by rw [show mq_withRank c (nI i) q = -2 from by unfold mq_withRank; rw [if_neg (jb_no hi (by decide)), if_pos hq]], hC, js_frX.rf⟩
  · skip
    refine js_iload_n (pc := 21) 2 F rfl dX4_withRank_21 ?_
    refine js_bipush (pc := 22) (v := nI (15)) F (by decide) dX4_withRank_22 ?_
    refine js_icmp_le (pc := 24) (tgt := 31) F dX4_withRank_24 (by decide) (fun h24 => by exact absurd h24 (fun z => by have a := jb_sw (n := 16) (by decide) hq; have b := Int32.le_iff_toInt_le.mp z; rw [nI_toInt (by decide)] at b; have d : ¬ q.toInt < 0 := fun e => h18 (Int32.lt_iff_toInt_lt.mpr e); omega)) (fun h24 => ?_)
    refine js_ldc2 (pc := 27) (v := (-2)) F (lk_X4_withRank_constantLong_RX4_149_2) dX4_withRank_27 ?_
    refine js_lret (pc := 30) F hr ?_ dX4_withRank_30
    exact ⟨by rw [show mq_withRank c (nI i) q = -2 from by unfold mq_withRank; rw [if_neg (jb_no hi (by decide)), if_pos hq]], hC, js_frX.rf⟩
set_option maxHeartbeats 4000000 in
set_option maxRecDepth 100000 in
theorem c_X4_withRank_3 (la : Launch) {y : js_L} (hy : js_Dy y) {G : js_G} {c : js_C} (hC : jr_C G c) {i : Nat} (hi : i < 6) {q : Nat} (hq : q < 16) : js_Cl la y yX4_withRank wsX4_withRank 4 78 [.ref (js_ad y (190)), .int (nI (i)), .int (nI (q))] G (fun r G' => r = mq_withRank c (nI i) (nI q) ∧ jr_C G' c ∧ js_frX G G') := by
  have hS : jr_K G i (c.1.2 i) := hC.K hi
  have hp : 2 ^ (c.1.2 i).1 ≤ 64 := jm_p6 hS.2.1
  refine js_ofl mf_X4_withRank (Nat.le_of_ble_eq_true rfl) hy (fun X F hr => ?_)
  replace F : js_F X y cX4_withRank 4 RX4 wsX4_withRank 4 78 := F
  show js_W X y 4 _ G 0 [(0, .ref (js_ad y (190))), (1, .int (nI (i))), (2, .int (nI (q)))] []
  refine js_aload_n (pc := 0) 0 F rfl dX4_withRank_0 ?_
  refine jg_X_now (pc := 1) F in_X4_withRank_4 (lk_X4_withRank_fieldLink_RX4_10_JoinedSketches_now_LJoinedSketches_State) dX4_withRank_1 ?_
  refine js_iload_n (pc := 4) 1 F rfl dX4_withRank_4 ?_
  refine js_callq (pc := 5) F (c_sk_ok _ hy (G := G) (i := i) hi) mf_X3_sketchAt gX4_withRank_X3_sketchAt rfl (by decide) (by unfold js_kA; omega) (js_ct_A (by decide)) rfl rfl rfl (Nat.le_of_ble_eq_true rfl) dX4_withRank_5 ?_
  rintro _ _ ⟨rfl, rfl⟩
  show js_W X y 4 (js_Ql X y (fun r G' => r = mq_withRank c (nI i) (nI q) ∧ jr_C G' c ∧ js_frX G G')) G (5 + 3) [(0, .ref (js_ad y (190))), (1, .int (nI (i))), (2, .int (nI (q)))] [.ref (js_ad y (js_kS i))]
  refine js_astore_n (pc := 8) (lv2 := [(0, .ref (js_ad y (190))), (1, .int (nI (i))), (2, .int (nI (q))), (3, .ref (js_ad y (js_kS i)))]) F dX4_withRank_8 (by decide) [1, 2, 3, 0] rfl ?_
  refine js_aload_n (pc := 9) 3 F rfl dX4_withRank_9 ?_
  refine js_ifnonnull (pc := 10) (tgt := 17) F dX4_withRank_10 (by decide) ?_
  refine js_iload_n (pc := 17) 2 F rfl dX4_withRank_17 ?_
  refine js_if_ltN (pc := 18) (a := q) (tgt := 27) F (by omega) dX4_withRank_18 (by decide) (fun h18 => by exact absurd h18 (Nat.not_lt_zero _)) (fun h18 => ?_)
  refine js_iload_n (pc := 21) 2 F rfl dX4_withRank_21 ?_
  refine js_bipush (pc := 22) (v := nI (15)) F (by decide) dX4_withRank_22 ?_
  refine js_icmp_leN (pc := 24) (a := q) (b := 15) (tgt := 31) F (by omega) (by decide) dX4_withRank_24 (by decide) (fun h24 => ?_) (fun h24 => by exfalso; omega)
  refine js_aload_n (pc := 31) 3 F rfl dX4_withRank_31 ?_
  refine js_iload_n (pc := 32) 2 F rfl dX4_withRank_32 ?_
  refine js_calll (pc := 33) F (c_X2_bucketsWithRank _ hy (by omega) (G := G) (B := (c.1.2 i).1) (hS.2.2.1) (by first | exact hS.2.1 | exact hS2.2.1) (rk := (c.1.2 i).2.1) (hS.2.2.2.1) (fun b hb => Nat.le_trans (hS.2.2.2.2.1 b hb) (by have := hS.1; omega)) (q := q) (by omega)) mf_X2_bucketsWithRank gX4_withRank_X2_bucketsWithRank rfl (by decide) (by unfold js_kS; omega) (js_ct_S (by omega)) rfl rfl rfl (Nat.le_of_ble_eq_true rfl) dX4_withRank_33 ?_
  rintro _ _ ⟨rfl, rfl⟩
  refine js_lret (pc := 36) F hr ?_ dX4_withRank_36
  exact ⟨by rw [show mq_withRank c (nI i) (nI q) = jm_set (fun b => decide ((c.1.2 i).2.1 b = q)) (2 ^ (c.1.2 i).1) from by unfold mq_withRank; rw [if_neg (jb_no hi (by decide)), if_neg (jb_no hq (by decide)), jx (by omega), jx (by omega)]], hC, js_frX.rf⟩
