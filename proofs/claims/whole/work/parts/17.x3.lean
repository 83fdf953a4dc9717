theorem in_X4_listed_4 : ∀ w ∈ wsX40, w ∈ wsX4_listed := by decide +kernel
theorem lk_X4_listed_fieldLink_RX4_10_JoinedSketches_now_LJoinedSketches_State : Cond.fieldLink RX4 10 "JoinedSketches" "now" "LJoinedSketches$State;" ∈ wsX4_listed := by decide +kernel
theorem mf_X4_listed : js_M yX4_listed cX4_listed 4 (some .int) wsX4_listed 2 := ⟨⟨_, rfl⟩, by decide +kernel, by decide +kernel, by decide +kernel, by decide +kernel⟩
set_option maxHeartbeats 4000000 in
set_option maxRecDepth 100000 in
theorem c_X4_listed_1 (la : Launch) {y : js_L} (hy : js_Dy y) {G : js_G} {c : js_C} (hC : jr_C G c) {x : Int32} {p : Int32} (hx : jb x 6) : js_Ci la y yX4_listed wsX4_listed 3 54 [.ref (js_ad y (190)), .int (x), .int (p)] G (fun r G' => jP (mq_listed c x p, c) r G G') := by
  refine js_ofi mf_X4_listed (Nat.le_of_ble_eq_true rfl) hy (fun X F hr => ?_)
  replace F : js_F X y cX4_listed 4 RX4 wsX4_listed 3 54 := F
  show js_W X y 4 _ G 0 [(0, .ref (js_ad y (190))), (1, .int (x)), (2, .int (p))] []
  refine js_aload_n (pc := 0) 0 F rfl dX4_listed_0 ?_
  refine jg_X_now (pc := 1) F in_X4_listed_4 (lk_X4_listed_fieldLink_RX4_10_JoinedSketches_now_LJoinedSketches_State) dX4_listed_1 ?_
  refine js_iload_n (pc := 4) 1 F rfl dX4_listed_4 ?_
  refine js_callq (pc := 5) F (c_sk_bad _ hy (G := G) (x := x) hx) mf_X3_sketchAt gX4_listed_X3_sketchAt rfl (by decide) (by unfold js_kA; omega) (js_ct_A (by decide)) rfl rfl rfl (Nat.le_of_ble_eq_true rfl) dX4_listed_5 ?_
  rintro _ _ ⟨rfl, rfl⟩
  show js_W X y 4 (js_Qi X y (fun r G' => jP (mq_listed c x p, c) r G G')) G (5 + 3) [(0, .ref (js_ad y (190))), (1, .int (x)), (2, .int (p))] [.null]
  refine js_astore_nN (pc := 8) (lv2 := [(0, .ref (js_ad y (190))), (1, .int (x)), (2, .int (p)), (3, .null)]) F dX4_listed_8 (by decide) [1, 2, 3, 0] rfl ?_
  refine js_aload_nN (pc := 9) 3 F rfl dX4_listed_9 ?_
  refine js_ifnullN (pc := 10) (tgt := 21) F dX4_listed_10 (by decide) ?_
  refine js_iconst (pc := 21) (v := (-1)) F (by decide) dX4_listed_21 ?_
  refine js_iret (pc := 22) F hr (rfl) ?_ dX4_listed_22
  show jP (mq_listed c x p, c) _ _ _
  rw [show mq_listed c x p = -1 from if_pos hx]
  exact ⟨rfl, hC, js_frX.rf⟩
set_option maxHeartbeats 4000000 in
set_option maxRecDepth 100000 in
theorem c_X4_listed_2a (la : Launch) {y : js_L} (hy : js_Dy y) {G : js_G} {c : js_C} (hC : jr_C G c) {i : Nat} (hi : i < 6) {p : Int32} (hb : p < 0) : js_Ci la y yX4_listed wsX4_listed 3 54 [.ref (js_ad y (190)), .int (nI (i)), .int (p)] G (fun r G' => jP (mq_listed c (nI i) p, c) r G G') := by
  have hS : jr_K G i (c.1.2 i) := hC.K hi
  have hp : 2 ^ (c.1.2 i).1 ≤ 64 := jm_p6 hS.2.1
  refine js_ofi mf_X4_listed (Nat.le_of_ble_eq_true rfl) hy (fun X F hr => ?_)
  replace F : js_F X y cX4_listed 4 RX4 wsX4_listed 3 54 := F
  show js_W X y 4 _ G 0 [(0, .ref (js_ad y (190))), (1, .int (nI (i))), (2, .int (p))] []
  refine js_aload_n (pc := 0) 0 F rfl dX4_listed_0 ?_
  refine jg_X_now (pc := 1) F in_X4_listed_4 (lk_X4_listed_fieldLink_RX4_10_JoinedSketches_now_LJoinedSketches_State) dX4_listed_1 ?_
  refine js_iload_n (pc := 4) 1 F rfl dX4_listed_4 ?_
  refine js_callq (pc := 5) F (c_sk_ok _ hy (G := G) (i := i) hi) mf_X3_sketchAt gX4_listed_X3_sketchAt rfl (by decide) (by unfold js_kA; omega) (js_ct_A (by decide)) rfl rfl rfl (Nat.le_of_ble_eq_true rfl) dX4_listed_5 ?_
  rintro _ _ ⟨rfl, rfl⟩
  show js_W X y 4 (js_Qi X y (fun r G' => jP (mq_listed c (nI i) p, c) r G G')) G (5 + 3) [(0, .ref (js_ad y (190))), (1, .int (nI (i))), (2, .int (p))] [.ref (js_ad y (js_kS i))]
  refine js_astore_n (pc := 8) (lv2 := [(0, .ref (js_ad y (190))), (1, .int (nI (i))), (2, .int (p)), (3, .ref (js_ad y (js_kS i)))]) F dX4_listed_8 (by decide) [1, 2, 3, 0] rfl ?_
  refine js_aload_n (pc := 9) 3 F rfl dX4_listed_9 ?_
  refine js_ifnull (pc := 10) F dX4_listed_10 ?_
  refine js_aload_n (pc := 13) 3 F rfl dX4_listed_13 ?_
  refine js_iload_n (pc := 14) 2 F rfl dX4_listed_14 ?_
  refine js_calli (pc := 15) F (c_X2_hasPlace_neg _ hy (j := i) (by omega) (G := G) hb) mf_X2_hasPlace gX4_listed_X2_hasPlace rfl (by decide) (by unfold js_kS; omega) (js_ct_S (by omega)) rfl rfl rfl (Nat.le_of_ble_eq_true rfl) dX4_listed_15 ?_
  rintro _ _ ⟨rfl, rfl⟩
  refine js_if_neN (pc := 18) (a := 0) (tgt := 23) F (by decide) dX4_listed_18 (by decide) (fun h18 => by exfalso; omega) (fun h18 => ?_)
  refine js_iconst (pc := 21) (v := (-1)) F (by decide) dX4_listed_21 ?_
  refine js_iret (pc := 22) F hr (rfl) ?_ dX4_listed_22
  show jP (mq_listed c (nI i) p, c) _ _ _
  rw [show mq_listed c (nI i) p = -1 from by unfold mq_listed; rw [if_neg (jb_no hi (by decide))]; unfold jm_lsK; split; rfl; exact if_pos (Or.inl hb)]
  exact ⟨rfl, hC, js_frX.rf⟩
set_option maxHeartbeats 4000000 in
set_option maxRecDepth 100000 in
theorem c_X4_listed_2b (la : Launch) {y : js_L} (hy : js_Dy y) {G : js_G} {c : js_C} (hC : jr_C G c) {i : Nat} (hi : i < 6) {p : Nat} (hp3 : p < 2 ^ 31) (hq : (c.1.2 i).2.2 = none)  : js_Ci la y yX4_listed wsX4_listed 3 54 [.ref (js_ad y (190)), .int (nI (i)), .int (nI (p))] G (fun r G' => jP (mq_listed c (nI i) (nI p), c) r G G') := by
  have hS : jr_K G i (c.1.2 i) := hC.K hi
  have hp : 2 ^ (c.1.2 i).1 ≤ 64 := jm_p6 hS.2.1
  have hL : jr_L G i none := hq ▸ hS.2.2.2.2.2
  refine js_ofi mf_X4_listed (Nat.le_of_ble_eq_true rfl) hy (fun X F hr => ?_)
  replace F : js_F X y cX4_listed 4 RX4 wsX4_listed 3 54 := F
  show js_W X y 4 _ G 0 [(0, .ref (js_ad y (190))), (1, .int (nI (i))), (2, .int (nI (p)))] []
  refine js_aload_n (pc := 0) 0 F rfl dX4_listed_0 ?_
  refine jg_X_now (pc := 1) F in_X4_listed_4 (lk_X4_listed_fieldLink_RX4_10_JoinedSketches_now_LJoinedSketches_State) dX4_listed_1 ?_
  refine js_iload_n (pc := 4) 1 F rfl dX4_listed_4 ?_
  refine js_callq (pc := 5) F (c_sk_ok _ hy (G := G) (i := i) hi) mf_X3_sketchAt gX4_listed_X3_sketchAt rfl (by decide) (by unfold js_kA; omega) (js_ct_A (by decide)) rfl rfl rfl (Nat.le_of_ble_eq_true rfl) dX4_listed_5 ?_
  rintro _ _ ⟨rfl, rfl⟩
  show js_W X y 4 (js_Qi X y (fun r G' => jP (mq_listed c (nI i) (nI p), c) r G G')) G (5 + 3) [(0, .ref (js_ad y (190))), (1, .int (nI (i))), (2, .int (nI (p)))] [.ref (js_ad y (js_kS i))]
  refine js_astore_n (pc := 8) (lv2 := [(0, .ref (js_ad y (190))), (1, .int (nI (i))), (2, .int (nI (p))), (3, .ref (js_ad y (js_kS i)))]) F dX4_listed_8 (by decide) [1, 2, 3, 0] rfl ?_
  refine js_aload_n (pc := 9) 3 F rfl dX4_listed_9 ?_
  refine js_ifnull (pc := 10) F dX4_listed_10 ?_
  refine js_aload_n (pc := 13) 3 F rfl dX4_listed_13 ?_
  refine js_iload_n (pc := 14) 2 F rfl dX4_listed_14 ?_
  refine js_calli (pc := 15) F (c_X2_hasPlace _ hy (by omega) (G := G) (n := 0) (hL.1) (by omega) (p := p) (by omega)) mf_X2_hasPlace gX4_listed_X2_hasPlace rfl (by decide) (by unfold js_kS; omega) (js_ct_S (by omega)) rfl rfl rfl (Nat.le_of_ble_eq_true rfl) dX4_listed_15 ?_
  rintro _ _ ⟨rfl, rfl⟩
  refine js_if_neB (pc := 18) (tgt := 23) F dX4_listed_18 (by decide) (fun h18 => by exact absurd h18 (Nat.not_lt_zero _)) (fun h18 => ?_)
  refine js_iconst (pc := 21) (v := (-1)) F (by decide) dX4_listed_21 ?_
  refine js_iret (pc := 22) F hr (rfl) ?_ dX4_listed_22
  show jP (mq_listed c (nI i) (nI p), c) _ _ _
  rw [show mq_listed c (nI i) (nI p) = -1 from by unfold mq_listed; rw [if_neg (jb_no hi (by decide)), jx (by omega), hq]; rfl]
  exact ⟨rfl, hC, js_frX.rf⟩
set_option maxHeartbeats 4000000 in
set_option maxRecDepth 100000 in
theorem c_X4_listed_2c (la : Launch) {y : js_L} (hy : js_Dy y) {G : js_G} {c : js_C} (hC : jr_C G c) {i : Nat} (hi : i < 6) {p : Nat} (hp3 : p < 2 ^ 31) {l : List Nat} (hq : (c.1.2 i).2.2 = some l) (hpl : ¬ p < l.length) : js_Ci la y yX4_listed wsX4_listed 3 54 [.ref (js_ad y (190)), .int (nI (i)), .int (nI (p))] G (fun r G' => jP (mq_listed c (nI i) (nI p), c) r G G') := by
  have hS : jr_K G i (c.1.2 i) := hC.K hi
  have hp : 2 ^ (c.1.2 i).1 ≤ 64 := jm_p6 hS.2.1
  have hL : jr_L G i (some l) := hq ▸ hS.2.2.2.2.2
  have hlen := hL.2.2.1
  refine js_ofi mf_X4_listed (Nat.le_of_ble_eq_true rfl) hy (fun X F hr => ?_)
  replace F : js_F X y cX4_listed 4 RX4 wsX4_listed 3 54 := F
  show js_W X y 4 _ G 0 [(0, .ref (js_ad y (190))), (1, .int (nI (i))), (2, .int (nI (p)))] []
  refine js_aload_n (pc := 0) 0 F rfl dX4_listed_0 ?_
  refine jg_X_now (pc := 1) F in_X4_listed_4 (lk_X4_listed_fieldLink_RX4_10_JoinedSketches_now_LJoinedSketches_State) dX4_listed_1 ?_
  refine js_iload_n (pc := 4) 1 F rfl dX4_listed_4 ?_
  refine js_callq (pc := 5) F (c_sk_ok _ hy (G := G) (i := i) hi) mf_X3_sketchAt gX4_listed_X3_sketchAt rfl (by decide) (by unfold js_kA; omega) (js_ct_A (by decide)) rfl rfl rfl (Nat.le_of_ble_eq_true rfl) dX4_listed_5 ?_
  rintro _ _ ⟨rfl, rfl⟩
  show js_W X y 4 (js_Qi X y (fun r G' => jP (mq_listed c (nI i) (nI p), c) r G G')) G (5 + 3) [(0, .ref (js_ad y (190))), (1, .int (nI (i))), (2, .int (nI (p)))] [.ref (js_ad y (js_kS i))]
  refine js_astore_n (pc := 8) (lv2 := [(0, .ref (js_ad y (190))), (1, .int (nI (i))), (2, .int (nI (p))), (3, .ref (js_ad y (js_kS i)))]) F dX4_listed_8 (by decide) [1, 2, 3, 0] rfl ?_
  refine js_aload_n (pc := 9) 3 F rfl dX4_listed_9 ?_
  refine js_ifnull (pc := 10) F dX4_listed_10 ?_
  refine js_aload_n (pc := 13) 3 F rfl dX4_listed_13 ?_
  refine js_iload_n (pc := 14) 2 F rfl dX4_listed_14 ?_
  refine js_calli (pc := 15) F (c_X2_hasPlace _ hy (by omega) (G := G) (n := l.length) (hL.1) (by omega) (p := p) (by omega)) mf_X2_hasPlace gX4_listed_X2_hasPlace rfl (by decide) (by unfold js_kS; omega) (js_ct_S (by omega)) rfl rfl rfl (Nat.le_of_ble_eq_true rfl) dX4_listed_15 ?_
  rintro _ _ ⟨rfl, rfl⟩
  refine js_if_neB (pc := 18) (tgt := 23) F dX4_listed_18 (by decide) (fun h18 => by exact absurd h18 hpl) (fun h18 => ?_)
  refine js_iconst (pc := 21) (v := (-1)) F (by decide) dX4_listed_21 ?_
  refine js_iret (pc := 22) F hr (rfl) ?_ dX4_listed_22
  show jP (mq_listed c (nI i) (nI p), c) _ _ _
  rw [show mq_listed c (nI i) (nI p) = -1 from by unfold mq_listed; rw [if_neg (jb_no hi (by decide)), jx (by omega), hq]; exact if_pos (Or.inr ((nI_leI (by omega) (by omega)).mpr (by omega)))]
  exact ⟨rfl, hC, js_frX.rf⟩
set_option maxHeartbeats 4000000 in
set_option maxRecDepth 100000 in
theorem c_X4_listed_3 (la : Launch) {y : js_L} (hy : js_Dy y) {G : js_G} {c : js_C} (hC : jr_C G c) {i : Nat} (hi : i < 6) {p : Nat} {l : List Nat} (hq : (c.1.2 i).2.2 = some l) (hpl : p < l.length) : js_Ci la y yX4_listed wsX4_listed 3 54 [.ref (js_ad y (190)), .int (nI (i)), .int (nI (p))] G (fun r G' => jP (mq_listed c (nI i) (nI p), c) r G G') := by
  have hS : jr_K G i (c.1.2 i) := hC.K hi
  have hp : 2 ^ (c.1.2 i).1 ≤ 64 := jm_p6 hS.2.1
  have hL : jr_L G i (some l) := hq ▸ hS.2.2.2.2.2
  have hlen := hL.2.2.1
  refine js_ofi mf_X4_listed (Nat.le_of_ble_eq_true rfl) hy (fun X F hr => ?_)
  replace F : js_F X y cX4_listed 4 RX4 wsX4_listed 3 54 := F
  show js_W X y 4 _ G 0 [(0, .ref (js_ad y (190))), (1, .int (nI (i))), (2, .int (nI (p)))] []
  refine js_aload_n (pc := 0) 0 F rfl dX4_listed_0 ?_
  refine jg_X_now (pc := 1) F in_X4_listed_4 (lk_X4_listed_fieldLink_RX4_10_JoinedSketches_now_LJoinedSketches_State) dX4_listed_1 ?_
  refine js_iload_n (pc := 4) 1 F rfl dX4_listed_4 ?_
  refine js_callq (pc := 5) F (c_sk_ok _ hy (G := G) (i := i) hi) mf_X3_sketchAt gX4_listed_X3_sketchAt rfl (by decide) (by unfold js_kA; omega) (js_ct_A (by decide)) rfl rfl rfl (Nat.le_of_ble_eq_true rfl) dX4_listed_5 ?_
  rintro _ _ ⟨rfl, rfl⟩
  show js_W X y 4 (js_Qi X y (fun r G' => jP (mq_listed c (nI i) (nI p), c) r G G')) G (5 + 3) [(0, .ref (js_ad y (190))), (1, .int (nI (i))), (2, .int (nI (p)))] [.ref (js_ad y (js_kS i))]
  refine js_astore_n (pc := 8) (lv2 := [(0, .ref (js_ad y (190))), (1, .int (nI (i))), (2, .int (nI (p))), (3, .ref (js_ad y (js_kS i)))]) F dX4_listed_8 (by decide) [1, 2, 3, 0] rfl ?_
  refine js_aload_n (pc := 9) 3 F rfl dX4_listed_9 ?_
  refine js_ifnull (pc := 10) F dX4_listed_10 ?_
  refine js_aload_n (pc := 13) 3 F rfl dX4_listed_13 ?_
  refine js_iload_n (pc := 14) 2 F rfl dX4_listed_14 ?_
  refine js_calli (pc := 15) F (c_X2_hasPlace _ hy (by omega) (G := G) (n := l.length) (hL.1) (by omega) (p := p) (by omega)) mf_X2_hasPlace gX4_listed_X2_hasPlace rfl (by decide) (by unfold js_kS; omega) (js_ct_S (by omega)) rfl rfl rfl (Nat.le_of_ble_eq_true rfl) dX4_listed_15 ?_
  rintro _ _ ⟨rfl, rfl⟩
  refine js_if_neB (pc := 18) (tgt := 23) F dX4_listed_18 (by decide) (fun h18 => ?_) (fun h18 => by exact absurd hpl h18)
  refine js_aload_n (pc := 23) 3 F rfl dX4_listed_23 ?_
  refine js_iload_n (pc := 24) 2 F rfl dX4_listed_24 ?_
  refine js_calli (pc := 25) F (c_X2_thingAt _ hy (by omega) (G := G) (n := l.length) (hL.1) (by omega) (p := p) (by omega)) mf_X2_thingAt gX4_listed_X2_thingAt rfl (by decide) (by unfold js_kS; omega) (js_ct_S (by omega)) rfl rfl rfl (Nat.le_of_ble_eq_true rfl) dX4_listed_25 ?_
  rintro _ _ ⟨hv25, rfl⟩
  rw [hv25, show G (js_kT i) (p) = nI (l.getD (p) 0) from (hL.2.2.2.2 _ (by omega))]
  refine js_iret (pc := 28) F hr (rfl) ?_ dX4_listed_28
  show jP (mq_listed c (nI i) (nI p), c) _ _ _
  rw [show mq_listed c (nI i) (nI p) = nI (l.getD p 0) from by unfold mq_listed; rw [if_neg (jb_no hi (by decide)), jx (by omega), hq]; unfold jm_lsK; show (if _ then _ else _) = _; rw [if_neg (jb_no hpl (by omega)), jx (by omega)]]
  exact ⟨rfl, hC, js_frX.rf⟩
theorem mf_X4_count : js_M yX4_count cX4_count 2 (some .int) wsX4_count 1 := ⟨⟨_, rfl⟩, by decide +kernel, by decide +kernel, by decide +kernel, by decide +kernel⟩
set_option maxHeartbeats 4000000 in
set_option maxRecDepth 100000 in
theorem c_X4_count_1 (la : Launch) {y : js_L} (hy : js_Dy y) {G : js_G} {c : js_C} (hC : jr_C G c) {w : Int32} (hw : jb w 6) : js_Ci la y yX4_count wsX4_count 5 101 [.ref (js_ad y (190)), .int (w)] G (fun r G' => jP (mq_count c w, c) r G G') := by
  refine js_ofi mf_X4_count (Nat.le_of_ble_eq_true rfl) hy (fun X F hr => ?_)
  replace F : js_F X y cX4_count 2 RX4 wsX4_count 5 101 := F
  show js_W X y 2 _ G 0 [(0, .ref (js_ad y (190))), (1, .int (w))] []
  refine js_iload_n (pc := 0) 1 F rfl dX4_count_0 ?_
  refine js_tableOut (pc := 1) (tgt := 88) F dX4_count_1 (by have := jb_sw (n := 6) (by decide) hw; omega) (by decide) ?_
  refine js_bipush (pc := 88) (v := (-2)) F (by decide) dX4_count_88 ?_
  refine js_iret (pc := 90) F hr (rfl) ?_ dX4_count_90
  show jP (mq_count c w, c) _ _ _
  rw [show mq_count c w = -2 from by unfold mq_count; rw [if_neg (jb_ne hw (by decide) (by decide)), if_neg (jb_ne hw (by decide) (by decide)), if_neg (jb_ne hw (by decide) (by decide)), if_neg (jb_ne hw (by decide) (by decide)), if_neg (jb_ne hw (by decide) (by decide)), if_neg (jb_ne hw (by decide) (by decide))]]
  exact ⟨rfl, hC, js_frX.rf⟩
theorem in_X4_count_3 : ∀ w ∈ wsX30, w ∈ wsX4_count := by decide +kernel
theorem in_X4_count_4 : ∀ w ∈ wsX40, w ∈ wsX4_count := by decide +kernel
theorem lk_X4_count_fieldLink_RX4_10_JoinedSketches_now_LJoinedSketches_State : Cond.fieldLink RX4 10 "JoinedSketches" "now" "LJoinedSketches$State;" ∈ wsX4_count := by decide +kernel
set_option maxHeartbeats 4000000 in
set_option maxRecDepth 100000 in
theorem c_X4_count_20 (la : Launch) {y : js_L} (hy : js_Dy y) {G : js_G} {c : js_C} (hC : jr_C G c)  : js_Ci la y yX4_count wsX4_count 5 101 [.ref (js_ad y (190)), .int (nI (0))] G (fun r G' => jP (mq_count c (nI 0), c) r G G') := by
  have hlh : G 183 2 = nI c.2.1.length := by obtain ⟨o, _, _, e, _⟩ := hC.2.1; exact e
  refine js_ofi mf_X4_count (Nat.le_of_ble_eq_true rfl) hy (fun X F hr => ?_)
  replace F : js_F X y cX4_count 2 RX4 wsX4_count 5 101 := F
  show js_W X y 2 _ G 0 [(0, .ref (js_ad y (190))), (1, .int (nI (0)))] []
  refine js_iload_n (pc := 0) 1 F rfl dX4_count_0 ?_
  refine js_tableIn (pc := 1) (off := 39) (tgt := 40) F dX4_count_1 (by decide) (by decide) (by decide) (by decide) ?_
  refine js_aload_n (pc := 40) 0 F rfl dX4_count_40 ?_
  refine jg_X_now (pc := 41) F in_X4_count_4 (lk_X4_count_fieldLink_RX4_10_JoinedSketches_now_LJoinedSketches_State) dX4_count_41 ?_
  refine jgN_4_50 (pc := 44) (v := nI (c.1.1)) F in_X4_count_3 (by decide) (hC.1.1) dX4_count_44 ?_
  refine js_iret (pc := 47) F hr (rfl) ?_ dX4_count_47
  show jP (mq_count c (nI 0), c) _ _ _
  rw [show mq_count c (nI 0) = nI (c.1.1) from by unfold mq_count; rw [if_pos rfl]]
  exact ⟨rfl, hC, js_frX.rf⟩
set_option maxHeartbeats 4000000 in
set_option maxRecDepth 100000 in
theorem c_X4_count_21 (la : Launch) {y : js_L} (hy : js_Dy y) {G : js_G} {c : js_C} (hC : jr_C G c)  : js_Ci la y yX4_count wsX4_count 5 101 [.ref (js_ad y (190)), .int (nI (1))] G (fun r G' => jP (mq_count c (nI 1), c) r G G') := by
  have hlh : G 183 2 = nI c.2.1.length := by obtain ⟨o, _, _, e, _⟩ := hC.2.1; exact e
  refine js_ofi mf_X4_count (Nat.le_of_ble_eq_true rfl) hy (fun X F hr => ?_)
  replace F : js_F X y cX4_count 2 RX4 wsX4_count 5 101 := F
  show js_W X y 2 _ G 0 [(0, .ref (js_ad y (190))), (1, .int (nI (1)))] []
  refine js_iload_n (pc := 0) 1 F rfl dX4_count_0 ?_
  refine js_tableIn (pc := 1) (off := 47) (tgt := 48) F dX4_count_1 (by decide) (by decide) (by decide) (by decide) ?_
  refine js_aload_n (pc := 48) 0 F rfl dX4_count_48 ?_
  refine jg_X_now (pc := 49) F in_X4_count_4 (lk_X4_count_fieldLink_RX4_10_JoinedSketches_now_LJoinedSketches_State) dX4_count_49 ?_
  refine js_calli (pc := 52) F (c_X3_filledSketches _ hy (t := 0) (by decide) (G := G) hC.1) mf_X3_filledSketches gX4_count_X3_filledSketches rfl (by decide) (by unfold js_kA; omega) (js_ct_A (by decide)) rfl rfl rfl (Nat.le_of_ble_eq_true rfl) dX4_count_52 ?_
  rintro _ _ ⟨rfl, rfl⟩
  refine js_iret (pc := 55) F hr (rfl) ?_ dX4_count_55
  show jP (mq_count c (nI 1), c) _ _ _
  rw [show mq_count c (nI 1) = nI (jm_sF c.1) from by unfold mq_count; rw [if_neg (show ¬ nI 1 = nI 0 by decide), if_pos rfl]]
  exact ⟨rfl, hC, js_frX.rf⟩
set_option maxHeartbeats 4000000 in
set_option maxRecDepth 100000 in
theorem c_X4_count_22 (la : Launch) {y : js_L} (hy : js_Dy y) {G : js_G} {c : js_C} (hC : jr_C G c)  : js_Ci la y yX4_count wsX4_count 5 101 [.ref (js_ad y (190)), .int (nI (2))] G (fun r G' => jP (mq_count c (nI 2), c) r G G') := by
  have hlh : G 183 2 = nI c.2.1.length := by obtain ⟨o, _, _, e, _⟩ := hC.2.1; exact e
  refine js_ofi mf_X4_count (Nat.le_of_ble_eq_true rfl) hy (fun X F hr => ?_)
  replace F : js_F X y cX4_count 2 RX4 wsX4_count 5 101 := F
  show js_W X y 2 _ G 0 [(0, .ref (js_ad y (190))), (1, .int (nI (2)))] []
  refine js_iload_n (pc := 0) 1 F rfl dX4_count_0 ?_
  refine js_tableIn (pc := 1) (off := 55) (tgt := 56) F dX4_count_1 (by decide) (by decide) (by decide) (by decide) ?_
  refine js_aload_n (pc := 56) 0 F rfl dX4_count_56 ?_
  refine jg_X_now (pc := 57) F in_X4_count_4 (lk_X4_count_fieldLink_RX4_10_JoinedSketches_now_LJoinedSketches_State) dX4_count_57 ?_
  refine js_calli (pc := 60) F (c_X3_filledBuckets _ hy (t := 0) (by decide) (G := G) hC.1) mf_X3_filledBuckets gX4_count_X3_filledBuckets rfl (by decide) (by unfold js_kA; omega) (js_ct_A (by decide)) rfl rfl rfl (Nat.le_of_ble_eq_true rfl) dX4_count_60 ?_
  rintro _ _ ⟨rfl, rfl⟩
  refine js_iret (pc := 63) F hr (rfl) ?_ dX4_count_63
  show jP (mq_count c (nI 2), c) _ _ _
  rw [show mq_count c (nI 2) = nI (jm_aF c.1) from by unfold mq_count; rw [if_neg (show ¬ nI 2 = nI 0 by decide), if_neg (show ¬ nI 2 = nI 1 by decide), if_pos rfl]]
  exact ⟨rfl, hC, js_frX.rf⟩
set_option maxHeartbeats 4000000 in
set_option maxRecDepth 100000 in
theorem c_X4_count_23 (la : Launch) {y : js_L} (hy : js_Dy y) {G : js_G} {c : js_C} (hC : jr_C G c)  : js_Ci la y yX4_count wsX4_count 5 101 [.ref (js_ad y (190)), .int (nI (3))] G (fun r G' => jP (mq_count c (nI 3), c) r G G') := by
  have hlh : G 183 2 = nI c.2.1.length := by obtain ⟨o, _, _, e, _⟩ := hC.2.1; exact e
  refine js_ofi mf_X4_count (Nat.le_of_ble_eq_true rfl) hy (fun X F hr => ?_)
  replace F : js_F X y cX4_count 2 RX4 wsX4_count 5 101 := F
  show js_W X y 2 _ G 0 [(0, .ref (js_ad y (190))), (1, .int (nI (3)))] []
  refine js_iload_n (pc := 0) 1 F rfl dX4_count_0 ?_
  refine js_tableIn (pc := 1) (off := 63) (tgt := 64) F dX4_count_1 (by decide) (by decide) (by decide) (by decide) ?_
  refine js_aload_n (pc := 64) 0 F rfl dX4_count_64 ?_
  refine jg_X_now (pc := 65) F in_X4_count_4 (lk_X4_count_fieldLink_RX4_10_JoinedSketches_now_LJoinedSketches_State) dX4_count_65 ?_
  refine js_calli (pc := 68) F (c_X3_fullLists _ hy (t := 0) (by decide) (G := G) hC.1) mf_X3_fullLists gX4_count_X3_fullLists rfl (by decide) (by unfold js_kA; omega) (js_ct_A (by decide)) rfl rfl rfl (Nat.le_of_ble_eq_true rfl) dX4_count_68 ?_
  rintro _ _ ⟨rfl, rfl⟩
  refine js_iret (pc := 71) F hr (rfl) ?_ dX4_count_71
  show jP (mq_count c (nI 3), c) _ _ _
  rw [show mq_count c (nI 3) = nI (jm_fF c.1) from by unfold mq_count; rw [if_neg (show ¬ nI 3 = nI 0 by decide), if_neg (show ¬ nI 3 = nI 1 by decide), if_neg (show ¬ nI 3 = nI 2 by decide), if_pos rfl]]
  exact ⟨rfl, hC, js_frX.rf⟩
theorem in_X4_count_1 : ∀ w ∈ wsX10, w ∈ wsX4_count := by decide +kernel
theorem lk_X4_count_fieldLink_RX4_34_JoinedSketches_pad_LJoinedSketches_Pad : Cond.fieldLink RX4 34 "JoinedSketches" "pad" "LJoinedSketches$Pad;" ∈ wsX4_count := by decide +kernel
set_option maxHeartbeats 4000000 in
set_option maxRecDepth 100000 in
theorem c_X4_count_24 (la : Launch) {y : js_L} (hy : js_Dy y) {G : js_G} {c : js_C} (hC : jr_C G c)  : js_Ci la y yX4_count wsX4_count 5 101 [.ref (js_ad y (190)), .int (nI (4))] G (fun r G' => jP (mq_count c (nI 4), c) r G G') := by
  have hlh : G 183 2 = nI c.2.1.length := by obtain ⟨o, _, _, e, _⟩ := hC.2.1; exact e
  refine js_ofi mf_X4_count (Nat.le_of_ble_eq_true rfl) hy (fun X F hr => ?_)
  replace F : js_F X y cX4_count 2 RX4 wsX4_count 5 101 := F
  show js_W X y 2 _ G 0 [(0, .ref (js_ad y (190))), (1, .int (nI (4)))] []
  refine js_iload_n (pc := 0) 1 F rfl dX4_count_0 ?_
  refine js_tableIn (pc := 1) (off := 71) (tgt := 72) F dX4_count_1 (by decide) (by decide) (by decide) (by decide) ?_
  refine js_aload_n (pc := 72) 0 F rfl dX4_count_72 ?_
  refine jg_X_pad (pc := 73) F in_X4_count_4 (lk_X4_count_fieldLink_RX4_34_JoinedSketches_pad_LJoinedSketches_Pad) dX4_count_73 ?_
  refine jgN_4_168 (pc := 76) (v := nI (c.2.2.2.length)) F in_X4_count_1 (hC.2.2.2.1) dX4_count_76 ?_
  refine js_iret (pc := 79) F hr (rfl) ?_ dX4_count_79
  show jP (mq_count c (nI 4), c) _ _ _
  rw [show mq_count c (nI 4) = nI (c.2.2.2.length) from by unfold mq_count; rw [if_neg (show ¬ nI 4 = nI 0 by decide), if_neg (show ¬ nI 4 = nI 1 by decide), if_neg (show ¬ nI 4 = nI 2 by decide), if_neg (show ¬ nI 4 = nI 3 by decide), if_pos rfl]]
  exact ⟨rfl, hC, js_frX.rf⟩
theorem in_X4_count_0 : ∀ w ∈ wsX00, w ∈ wsX4_count := by decide +kernel
theorem lk_X4_count_fieldLink_RX4_19_JoinedSketches_history_LJoinedSketches_History : Cond.fieldLink RX4 19 "JoinedSketches" "history" "LJoinedSketches$History;" ∈ wsX4_count := by decide +kernel
set_option maxHeartbeats 4000000 in
set_option maxRecDepth 100000 in
theorem c_X4_count_25 (la : Launch) {y : js_L} (hy : js_Dy y) {G : js_G} {c : js_C} (hC : jr_C G c)  : js_Ci la y yX4_count wsX4_count 5 101 [.ref (js_ad y (190)), .int (nI (5))] G (fun r G' => jP (mq_count c (nI 5), c) r G G') := by
  have hlh : G 183 2 = nI c.2.1.length := by obtain ⟨o, _, _, e, _⟩ := hC.2.1; exact e
  refine js_ofi mf_X4_count (Nat.le_of_ble_eq_true rfl) hy (fun X F hr => ?_)
  replace F : js_F X y cX4_count 2 RX4 wsX4_count 5 101 := F
  show js_W X y 2 _ G 0 [(0, .ref (js_ad y (190))), (1, .int (nI (5)))] []
  refine js_iload_n (pc := 0) 1 F rfl dX4_count_0 ?_
  refine js_tableIn (pc := 1) (off := 79) (tgt := 80) F dX4_count_1 (by decide) (by decide) (by decide) (by decide) ?_
  refine js_aload_n (pc := 80) 0 F rfl dX4_count_80 ?_
  refine jg_X_history (pc := 81) F in_X4_count_4 (lk_X4_count_fieldLink_RX4_19_JoinedSketches_history_LJoinedSketches_History) dX4_count_81 ?_
  refine jgN_4_171 (pc := 84) (v := nI (c.2.1.length)) F in_X4_count_0 (hlh) dX4_count_84 ?_
  refine js_iret (pc := 87) F hr (rfl) ?_ dX4_count_87
  show jP (mq_count c (nI 5), c) _ _ _
  rw [show mq_count c (nI 5) = nI (c.2.1.length) from by unfold mq_count; rw [if_neg (show ¬ nI 5 = nI 0 by decide), if_neg (show ¬ nI 5 = nI 1 by decide), if_neg (show ¬ nI 5 = nI 2 by decide), if_neg (show ¬ nI 5 = nI 3 by decide), if_neg (show ¬ nI 5 = nI 4 by decide), if_pos rfl]]
  exact ⟨rfl, hC, js_frX.rf⟩
theorem in_X4_together_4 : ∀ w ∈ wsX40, w ∈ wsX4_together := by decide +kernel
theorem lk_X4_together_fieldLink_RX4_10_JoinedSketches_now_LJoinedSketches_State : Cond.fieldLink RX4 10 "JoinedSketches" "now" "LJoinedSketches$State;" ∈ wsX4_together := by decide +kernel
theorem mf_X4_together : js_M yX4_together cX4_together 5 (some .int) wsX4_together 2 := ⟨⟨_, rfl⟩, by decide +kernel, by decide +kernel, by decide +kernel, by decide +kernel⟩
set_option maxHeartbeats 4000000 in
set_option maxRecDepth 100000 in
theorem c_X4_together_1a (la : Launch) {y : js_L} (hy : js_Dy y) {G : js_G} {c : js_C} (hC : jr_C G c) {x z : Int32} (hx : jb x 6) (hz : jb z 6)  : js_Ci la y yX4_together wsX4_together 6 122 [.ref (js_ad y (190)), .int (x), .int (z)] G (fun r G' => jP (mq_together c x z, c) r G G') := by
  refine js_ofi mf_X4_together (Nat.le_of_ble_eq_true rfl) hy (fun X F hr => ?_)
  replace F : js_F X y cX4_together 5 RX4 wsX4_together 6 122 := F
  show js_W X y 5 _ G 0 [(0, .ref (js_ad y (190))), (1, .int (x)), (2, .int (z))] []
  refine js_aload_n (pc := 0) 0 F rfl dX4_together_0 ?_
  refine jg_X_now (pc := 1) F in_X4_together_4 (lk_X4_together_fieldLink_RX4_10_JoinedSketches_now_LJoinedSketches_State) dX4_together_1 ?_
  refine js_iload_n (pc := 4) 1 F rfl dX4_together_4 ?_
  refine js_callq (pc := 5) F (c_sk_bad _ hy (G := G) (x := x) hx) mf_X3_sketchAt gX4_together_X3_sketchAt rfl (by decide) (by unfold js_kA; omega) (js_ct_A (by decide)) rfl rfl rfl (Nat.le_of_ble_eq_true rfl) dX4_together_5 ?_
  rintro _ _ ⟨rfl, rfl⟩
  show js_W X y 5 (js_Qi X y (fun r G' => jP (mq_together c x z, c) r G G')) G (5 + 3) [(0, .ref (js_ad y (190))), (1, .int (x)), (2, .int (z))] [.null]
  refine js_astore_nN (pc := 8) (lv2 := [(0, .ref (js_ad y (190))), (1, .int (x)), (2, .int (z)), (3, .null)]) F dX4_together_8 (by decide) [1, 2, 3, 0] rfl ?_
  refine js_aload_n (pc := 9) 0 F rfl dX4_together_9 ?_
  refine jg_X_now (pc := 10) F in_X4_together_4 (lk_X4_together_fieldLink_RX4_10_JoinedSketches_now_LJoinedSketches_State) dX4_together_10 ?_
  refine js_iload_n (pc := 13) 2 F rfl dX4_together_13 ?_
  refine js_callq (pc := 14) F (c_sk_bad _ hy (G := G) (x := z) hz) mf_X3_sketchAt gX4_together_X3_sketchAt rfl (by decide) (by unfold js_kA; omega) (js_ct_A (by decide)) rfl rfl rfl (Nat.le_of_ble_eq_true rfl) dX4_together_14 ?_
  rintro _ _ ⟨rfl, rfl⟩
  show js_W X y 5 (js_Qi X y (fun r G' => jP (mq_together c x z, c) r G G')) G (14 + 3) [(0, .ref (js_ad y (190))), (1, .int (x)), (2, .int (z)), (3, .null)] [.null]
  refine js_astoreN (pc := 17) (lv2 := [(0, .ref (js_ad y (190))), (1, .int (x)), (2, .int (z)), (3, .null), (4, .null)]) F dX4_together_17 (by decide) [1, 2, 3, 4, 0] rfl ?_
  refine js_aload_nN (pc := 19) 3 F rfl dX4_together_19 ?_
  refine js_ifnullN (pc := 20) (tgt := 28) F dX4_together_20 (by decide) ?_
  refine js_iconst (pc := 28) (v := (-1)) F (by decide) dX4_together_28 ?_
  refine js_iret (pc := 29) F hr (rfl) ?_ dX4_together_29
  show jP (mq_together c x z, c) _ _ _
  rw [show mq_together c x z = -1 from if_pos (Or.inl hx)]
  exact ⟨rfl, hC, js_frX.rf⟩
set_option maxHeartbeats 4000000 in
set_option maxRecDepth 100000 in
theorem c_X4_together_1b (la : Launch) {y : js_L} (hy : js_Dy y) {G : js_G} {c : js_C} (hC : jr_C G c) {x : Int32} (hx : jb x 6) {i2 : Nat} (hi2 : i2 < 6)  : js_Ci la y yX4_together wsX4_together 6 122 [.ref (js_ad y (190)), .int (x), .int (nI (i2))] G (fun r G' => jP (mq_together c x (nI i2), c) r G G') := by
  refine js_ofi mf_X4_together (Nat.le_of_ble_eq_true rfl) hy (fun X F hr => ?_)
  replace F : js_F X y cX4_together 5 RX4 wsX4_together 6 122 := F
  show js_W X y 5 _ G 0 [(0, .ref (js_ad y (190))), (1, .int (x)), (2, .int (nI (i2)))] []
  refine js_aload_n (pc := 0) 0 F rfl dX4_together_0 ?_
  refine jg_X_now (pc := 1) F in_X4_together_4 (lk_X4_together_fieldLink_RX4_10_JoinedSketches_now_LJoinedSketches_State) dX4_together_1 ?_
  refine js_iload_n (pc := 4) 1 F rfl dX4_together_4 ?_
  refine js_callq (pc := 5) F (c_sk_bad _ hy (G := G) (x := x) hx) mf_X3_sketchAt gX4_together_X3_sketchAt rfl (by decide) (by unfold js_kA; omega) (js_ct_A (by decide)) rfl rfl rfl (Nat.le_of_ble_eq_true rfl) dX4_together_5 ?_
  rintro _ _ ⟨rfl, rfl⟩
  show js_W X y 5 (js_Qi X y (fun r G' => jP (mq_together c x (nI i2), c) r G G')) G (5 + 3) [(0, .ref (js_ad y (190))), (1, .int (x)), (2, .int (nI (i2)))] [.null]
  refine js_astore_nN (pc := 8) (lv2 := [(0, .ref (js_ad y (190))), (1, .int (x)), (2, .int (nI (i2))), (3, .null)]) F dX4_together_8 (by decide) [1, 2, 3, 0] rfl ?_
  refine js_aload_n (pc := 9) 0 F rfl dX4_together_9 ?_
  refine jg_X_now (pc := 10) F in_X4_together_4 (lk_X4_together_fieldLink_RX4_10_JoinedSketches_now_LJoinedSketches_State) dX4_together_10 ?_
  refine js_iload_n (pc := 13) 2 F rfl dX4_together_13 ?_
  refine js_callq (pc := 14) F (c_sk_ok _ hy (G := G) (i := i2) hi2) mf_X3_sketchAt gX4_together_X3_sketchAt rfl (by decide) (by unfold js_kA; omega) (js_ct_A (by decide)) rfl rfl rfl (Nat.le_of_ble_eq_true rfl) dX4_together_14 ?_
  rintro _ _ ⟨rfl, rfl⟩
  show js_W X y 5 (js_Qi X y (fun r G' => jP (mq_together c x (nI i2), c) r G G')) G (14 + 3) [(0, .ref (js_ad y (190))), (1, .int (x)), (2, .int (nI (i2))), (3, .null)] [.ref (js_ad y (js_kS i2))]
  refine js_astore (pc := 17) (lv2 := [(0, .ref (js_ad y (190))), (1, .int (x)), (2, .int (nI (i2))), (3, .null), (4, .ref (js_ad y (js_kS i2)))]) F dX4_together_17 (by decide) [1, 2, 3, 4, 0] rfl ?_
  refine js_aload_nN (pc := 19) 3 F rfl dX4_together_19 ?_
  refine js_ifnullN (pc := 20) (tgt := 28) F dX4_together_20 (by decide) ?_
  refine js_iconst (pc := 28) (v := (-1)) F (by decide) dX4_together_28 ?_
  refine js_iret (pc := 29) F hr (rfl) ?_ dX4_together_29
  show jP (mq_together c x (nI i2), c) _ _ _
  rw [show mq_together c x (nI i2) = -1 from if_pos (Or.inl hx)]
  exact ⟨rfl, hC, js_frX.rf⟩
set_option maxHeartbeats 4000000 in
set_option maxRecDepth 100000 in
theorem c_X4_together_1c (la : Launch) {y : js_L} (hy : js_Dy y) {G : js_G} {c : js_C} (hC : jr_C G c) {i : Nat} (hi : i < 6) {z : Int32} (hz : jb z 6)  : js_Ci la y yX4_together wsX4_together 6 122 [.ref (js_ad y (190)), .int (nI (i)), .int (z)] G (fun r G' => jP (mq_together c (nI i) z, c) r G G') := by
  refine js_ofi mf_X4_together (Nat.le_of_ble_eq_true rfl) hy (fun X F hr => ?_)
  replace F : js_F X y cX4_together 5 RX4 wsX4_together 6 122 := F
  show js_W X y 5 _ G 0 [(0, .ref (js_ad y (190))), (1, .int (nI (i))), (2, .int (z))] []
  refine js_aload_n (pc := 0) 0 F rfl dX4_together_0 ?_
  refine jg_X_now (pc := 1) F in_X4_together_4 (lk_X4_together_fieldLink_RX4_10_JoinedSketches_now_LJoinedSketches_State) dX4_together_1 ?_
  refine js_iload_n (pc := 4) 1 F rfl dX4_together_4 ?_
  refine js_callq (pc := 5) F (c_sk_ok _ hy (G := G) (i := i) hi) mf_X3_sketchAt gX4_together_X3_sketchAt rfl (by decide) (by unfold js_kA; omega) (js_ct_A (by decide)) rfl rfl rfl (Nat.le_of_ble_eq_true rfl) dX4_together_5 ?_
  rintro _ _ ⟨rfl, rfl⟩
  show js_W X y 5 (js_Qi X y (fun r G' => jP (mq_together c (nI i) z, c) r G G')) G (5 + 3) [(0, .ref (js_ad y (190))), (1, .int (nI (i))), (2, .int (z))] [.ref (js_ad y (js_kS i))]
  refine js_astore_n (pc := 8) (lv2 := [(0, .ref (js_ad y (190))), (1, .int (nI (i))), (2, .int (z)), (3, .ref (js_ad y (js_kS i)))]) F dX4_together_8 (by decide) [1, 2, 3, 0] rfl ?_
  refine js_aload_n (pc := 9) 0 F rfl dX4_together_9 ?_
  refine jg_X_now (pc := 10) F in_X4_together_4 (lk_X4_together_fieldLink_RX4_10_JoinedSketches_now_LJoinedSketches_State) dX4_together_10 ?_
  refine js_iload_n (pc := 13) 2 F rfl dX4_together_13 ?_
  refine js_callq (pc := 14) F (c_sk_bad _ hy (G := G) (x := z) hz) mf_X3_sketchAt gX4_together_X3_sketchAt rfl (by decide) (by unfold js_kA; omega) (js_ct_A (by decide)) rfl rfl rfl (Nat.le_of_ble_eq_true rfl) dX4_together_14 ?_
  rintro _ _ ⟨rfl, rfl⟩
  show js_W X y 5 (js_Qi X y (fun r G' => jP (mq_together c (nI i) z, c) r G G')) G (14 + 3) [(0, .ref (js_ad y (190))), (1, .int (nI (i))), (2, .int (z)), (3, .ref (js_ad y (js_kS i)))] [.null]
  refine js_astoreN (pc := 17) (lv2 := [(0, .ref (js_ad y (190))), (1, .int (nI (i))), (2, .int (z)), (3, .ref (js_ad y (js_kS i))), (4, .null)]) F dX4_together_17 (by decide) [1, 2, 3, 4, 0] rfl ?_
  refine js_aload_n (pc := 19) 3 F rfl dX4_together_19 ?_
  refine js_ifnull (pc := 20) F dX4_together_20 ?_
  refine js_aloadN (pc := 23) 4 F rfl dX4_together_23 ?_
  refine js_ifnonnullN (pc := 25) F dX4_together_25 ?_
  refine js_iconst (pc := 28) (v := (-1)) F (by decide) dX4_together_28 ?_
  refine js_iret (pc := 29) F hr (rfl) ?_ dX4_together_29
  show jP (mq_together c (nI i) z, c) _ _ _
  rw [show mq_together c (nI i) z = -1 from if_pos (Or.inr hz)]
  exact ⟨rfl, hC, js_frX.rf⟩
theorem in_X4_together_2 : ∀ w ∈ wsX20, w ∈ wsX4_together := by decide +kernel
set_option maxHeartbeats 4000000 in
set_option maxRecDepth 100000 in
theorem c_X4_together_2 (la : Launch) {y : js_L} (hy : js_Dy y) {G : js_G} {c : js_C} (hC : jr_C G c) {i : Nat} (hi : i < 6) {i2 : Nat} (hi2 : i2 < 6) (hn : ¬ (c.1.2 i).1 = (c.1.2 i2).1) : js_Ci la y yX4_together wsX4_together 6 122 [.ref (js_ad y (190)), .int (nI (i)), .int (nI (i2))] G (fun r G' => jP (mq_together c (nI i) (nI i2), c) r G G') := by
  have hS : jr_K G i (c.1.2 i) := hC.K hi
  have hp : 2 ^ (c.1.2 i).1 ≤ 64 := jm_p6 hS.2.1
  have hS2 : jr_K G i2 (c.1.2 i2) := hC.K hi2
  have hb62 := hS2.2.1
  have hb61 := hS.2.1
  refine js_ofi mf_X4_together (Nat.le_of_ble_eq_true rfl) hy (fun X F hr => ?_)
  replace F : js_F X y cX4_together 5 RX4 wsX4_together 6 122 := F
  show js_W X y 5 _ G 0 [(0, .ref (js_ad y (190))), (1, .int (nI (i))), (2, .int (nI (i2)))] []
  refine js_aload_n (pc := 0) 0 F rfl dX4_together_0 ?_
  refine jg_X_now (pc := 1) F in_X4_together_4 (lk_X4_together_fieldLink_RX4_10_JoinedSketches_now_LJoinedSketches_State) dX4_together_1 ?_
  refine js_iload_n (pc := 4) 1 F rfl dX4_together_4 ?_
  refine js_callq (pc := 5) F (c_sk_ok _ hy (G := G) (i := i) hi) mf_X3_sketchAt gX4_together_X3_sketchAt rfl (by decide) (by unfold js_kA; omega) (js_ct_A (by decide)) rfl rfl rfl (Nat.le_of_ble_eq_true rfl) dX4_together_5 ?_
  rintro _ _ ⟨rfl, rfl⟩
  show js_W X y 5 (js_Qi X y (fun r G' => jP (mq_together c (nI i) (nI i2), c) r G G')) G (5 + 3) [(0, .ref (js_ad y (190))), (1, .int (nI (i))), (2, .int (nI (i2)))] [.ref (js_ad y (js_kS i))]
  refine js_astore_n (pc := 8) (lv2 := [(0, .ref (js_ad y (190))), (1, .int (nI (i))), (2, .int (nI (i2))), (3, .ref (js_ad y (js_kS i)))]) F dX4_together_8 (by decide) [1, 2, 3, 0] rfl ?_
  refine js_aload_n (pc := 9) 0 F rfl dX4_together_9 ?_
  refine jg_X_now (pc := 10) F in_X4_together_4 (lk_X4_together_fieldLink_RX4_10_JoinedSketches_now_LJoinedSketches_State) dX4_together_10 ?_
  refine js_iload_n (pc := 13) 2 F rfl dX4_together_13 ?_
  refine js_callq (pc := 14) F (c_sk_ok _ hy (G := G) (i := i2) hi2) mf_X3_sketchAt gX4_together_X3_sketchAt rfl (by decide) (by unfold js_kA; omega) (js_ct_A (by decide)) rfl rfl rfl (Nat.le_of_ble_eq_true rfl) dX4_together_14 ?_
  rintro _ _ ⟨rfl, rfl⟩
  show js_W X y 5 (js_Qi X y (fun r G' => jP (mq_together c (nI i) (nI i2), c) r G G')) G (14 + 3) [(0, .ref (js_ad y (190))), (1, .int (nI (i))), (2, .int (nI (i2))), (3, .ref (js_ad y (js_kS i)))] [.ref (js_ad y (js_kS i2))]
  refine js_astore (pc := 17) (lv2 := [(0, .ref (js_ad y (190))), (1, .int (nI (i))), (2, .int (nI (i2))), (3, .ref (js_ad y (js_kS i))), (4, .ref (js_ad y (js_kS i2)))]) F dX4_together_17 (by decide) [1, 2, 3, 4, 0] rfl ?_
  refine js_aload_n (pc := 19) 3 F rfl dX4_together_19 ?_
  refine js_ifnull (pc := 20) F dX4_together_20 ?_
  refine js_aload (pc := 23) 4 F rfl dX4_together_23 ?_
  refine js_ifnonnull (pc := 25) (tgt := 30) F dX4_together_25 (by decide) ?_
  refine js_aload_n (pc := 30) 3 F rfl dX4_together_30 ?_
  refine jgN_4_62 (pc := 31) (v := nI ((c.1.2 i).1)) F in_X4_together_2 (by omega) (hS.2.2.1) dX4_together_31 ?_
  refine js_aload (pc := 34) 4 F rfl dX4_together_34 ?_
  refine jgN_4_62 (pc := 36) (v := nI ((c.1.2 i2).1)) F in_X4_together_2 (by omega) (hS2.2.2.1) dX4_together_36 ?_
  refine js_icmp_eqN (pc := 39) (a := (c.1.2 i).1) (b := (c.1.2 i2).1) (tgt := 45) F (by omega) (by omega) dX4_together_39 (by decide) (fun h39 => by exact absurd h39 hn) (fun h39 => ?_)
  refine js_bipush (pc := 42) (v := (-5)) F (by decide) dX4_together_42 ?_
  refine js_iret (pc := 44) F hr (rfl) ?_ dX4_together_44
  show jP (mq_together c (nI i) (nI i2), c) _ _ _
  rw [show mq_together c (nI i) (nI i2) = -5 from by unfold mq_together; rw [if_neg (fun q => q.elim (jb_no hi (by decide)) (jb_no hi2 (by decide))), jx (by omega), jx (by omega), if_pos hn]]
  exact ⟨rfl, hC, js_frX.rf⟩
theorem lk_X4_together_fieldLink_RX4_41_JoinedSketches_trial_LJoinedSketches_Sketch : Cond.fieldLink RX4 41 "JoinedSketches" "trial" "LJoinedSketches$Sketch;" ∈ wsX4_together := by decide +kernel
set_option maxHeartbeats 4000000 in
set_option maxRecDepth 100000 in
theorem c_X4_together_3 (la : Launch) {y : js_L} (hy : js_Dy y) {G : js_G} {c : js_C} (hC : jr_C G c) {i : Nat} (hi : i < 6) {i2 : Nat} (hi2 : i2 < 6) (hn : (c.1.2 i).1 = (c.1.2 i2).1) : js_Ci la y yX4_together wsX4_together 6 122 [.ref (js_ad y (190)), .int (nI (i)), .int (nI (i2))] G (fun r G' => jP (mq_together c (nI i) (nI i2), c) r G G') := by
  have hS : jr_K G i (c.1.2 i) := hC.K hi
  have hp : 2 ^ (c.1.2 i).1 ≤ 64 := jm_p6 hS.2.1
  have hS2 : jr_K G i2 (c.1.2 i2) := hC.K hi2
  have hb62 := hS2.2.1
  have hb61 := hS.2.1
  refine js_ofi mf_X4_together (Nat.le_of_ble_eq_true rfl) hy (fun X F hr => ?_)
  replace F : js_F X y cX4_together 5 RX4 wsX4_together 6 122 := F
  show js_W X y 5 _ G 0 [(0, .ref (js_ad y (190))), (1, .int (nI (i))), (2, .int (nI (i2)))] []
  refine js_aload_n (pc := 0) 0 F rfl dX4_together_0 ?_
  refine jg_X_now (pc := 1) F in_X4_together_4 (lk_X4_together_fieldLink_RX4_10_JoinedSketches_now_LJoinedSketches_State) dX4_together_1 ?_
  refine js_iload_n (pc := 4) 1 F rfl dX4_together_4 ?_
  refine js_callq (pc := 5) F (c_sk_ok _ hy (G := G) (i := i) hi) mf_X3_sketchAt gX4_together_X3_sketchAt rfl (by decide) (by unfold js_kA; omega) (js_ct_A (by decide)) rfl rfl rfl (Nat.le_of_ble_eq_true rfl) dX4_together_5 ?_
  rintro _ _ ⟨rfl, rfl⟩
  show js_W X y 5 (js_Qi X y (fun r G' => jP (mq_together c (nI i) (nI i2), c) r G G')) G (5 + 3) [(0, .ref (js_ad y (190))), (1, .int (nI (i))), (2, .int (nI (i2)))] [.ref (js_ad y (js_kS i))]
  refine js_astore_n (pc := 8) (lv2 := [(0, .ref (js_ad y (190))), (1, .int (nI (i))), (2, .int (nI (i2))), (3, .ref (js_ad y (js_kS i)))]) F dX4_together_8 (by decide) [1, 2, 3, 0] rfl ?_
  refine js_aload_n (pc := 9) 0 F rfl dX4_together_9 ?_
  refine jg_X_now (pc := 10) F in_X4_together_4 (lk_X4_together_fieldLink_RX4_10_JoinedSketches_now_LJoinedSketches_State) dX4_together_10 ?_
  refine js_iload_n (pc := 13) 2 F rfl dX4_together_13 ?_
  refine js_callq (pc := 14) F (c_sk_ok _ hy (G := G) (i := i2) hi2) mf_X3_sketchAt gX4_together_X3_sketchAt rfl (by decide) (by unfold js_kA; omega) (js_ct_A (by decide)) rfl rfl rfl (Nat.le_of_ble_eq_true rfl) dX4_together_14 ?_
  rintro _ _ ⟨rfl, rfl⟩
  show js_W X y 5 (js_Qi X y (fun r G' => jP (mq_together c (nI i) (nI i2), c) r G G')) G (14 + 3) [(0, .ref (js_ad y (190))), (1, .int (nI (i))), (2, .int (nI (i2))), (3, .ref (js_ad y (js_kS i)))] [.ref (js_ad y (js_kS i2))]
  refine js_astore (pc := 17) (lv2 := [(0, .ref (js_ad y (190))), (1, .int (nI (i))), (2, .int (nI (i2))), (3, .ref (js_ad y (js_kS i))), (4, .ref (js_ad y (js_kS i2)))]) F dX4_together_17 (by decide) [1, 2, 3, 4, 0] rfl ?_
  refine js_aload_n (pc := 19) 3 F rfl dX4_together_19 ?_
  refine js_ifnull (pc := 20) F dX4_together_20 ?_
  refine js_aload (pc := 23) 4 F rfl dX4_together_23 ?_
  refine js_ifnonnull (pc := 25) (tgt := 30) F dX4_together_25 (by decide) ?_
  refine js_aload_n (pc := 30) 3 F rfl dX4_together_30 ?_
  refine jgN_4_62 (pc := 31) (v := nI ((c.1.2 i).1)) F in_X4_together_2 (by omega) (hS.2.2.1) dX4_together_31 ?_
  refine js_aload (pc := 34) 4 F rfl dX4_together_34 ?_
  refine jgN_4_62 (pc := 36) (v := nI ((c.1.2 i2).1)) F in_X4_together_2 (by omega) (hS2.2.2.1) dX4_together_36 ?_
  refine js_icmp_eqN (pc := 39) (a := (c.1.2 i).1) (b := (c.1.2 i2).1) (tgt := 45) F (by omega) (by omega) dX4_together_39 (by decide) (fun h39 => ?_) (fun h39 => by exact absurd hn h39)
  refine js_aload_n (pc := 45) 0 F rfl dX4_together_45 ?_
  refine jg_X_trial (pc := 46) F in_X4_together_4 (lk_X4_together_fieldLink_RX4_41_JoinedSketches_trial_LJoinedSketches_Sketch) dX4_together_46 ?_
  refine js_aload_n (pc := 49) 3 F rfl dX4_together_49 ?_
  refine js_callv (pc := 50) F (c_X2_copyFrom _ hy (j := 54) (by decide) (j2 := i) (by omega) (by omega) (G := G) hS) mf_X2_copyFrom gX4_together_X2_copyFrom rfl (by decide) (by unfold js_kS; omega) (js_ct_S (by decide)) rfl rfl rfl (Nat.le_of_ble_eq_true rfl) dX4_together_50 ?_
  rintro G1 ⟨t1, t2⟩
  have hS2a : jr_S G1 i2 (c.1.2 i).1 (c.1.2 i2).2.1 (c.1.2 i2).2.2 := by rw [hn]; exact jr_S.fr hS2 t2 (by omega)
  refine js_aload_n (pc := 53) 0 F rfl dX4_together_53 ?_
  refine jg_X_trial (pc := 54) F in_X4_together_4 (lk_X4_together_fieldLink_RX4_41_JoinedSketches_trial_LJoinedSketches_Sketch) dX4_together_54 ?_
  refine js_aload (pc := 57) 4 F rfl dX4_together_57 ?_
  refine js_callv (pc := 59) F (c_X2_takeAll _ hy (j := 54) (by omega) (j2 := i2) (by omega) (by omega) (t1) (hS2a)) mf_X2_takeAll gX4_together_X2_takeAll rfl (by decide) (by unfold js_kS; omega) (js_ct_S (by decide)) rfl rfl rfl (Nat.le_of_ble_eq_true rfl) dX4_together_59 ?_
  rintro G2 ⟨p1, p2⟩
  refine js_aload_n (pc := 62) 0 F rfl dX4_together_62 ?_
  refine jg_X_trial (pc := 63) F in_X4_together_4 (lk_X4_together_fieldLink_RX4_41_JoinedSketches_trial_LJoinedSketches_Sketch) dX4_together_63 ?_
  refine js_calli (pc := 66) F (c_X2_estimate _ hy (by decide) (G := G2) (B := (c.1.2 i).1) (p1.2.2.1) (by first | exact hS.2.1 | exact hS2.2.1) (rk := jm_mx (c.1.2 i).2.1 (c.1.2 i2).2.1) (p1.2.2.2.1) (fun b hb => Nat.le_trans (p1.2.2.2.2.1 b hb) (by have := p1.1; omega))) mf_X2_estimate gX4_together_X2_estimate rfl (by decide) (by unfold js_kS; omega) (js_ct_S (by decide)) rfl rfl rfl (Nat.le_of_ble_eq_true rfl) dX4_together_66 ?_
  rintro _ _ ⟨rfl, rfl⟩
  refine js_iret (pc := 69) F hr (rfl) ?_ dX4_together_69
  show jP (mq_together c (nI i) (nI i2), c) _ _ _
  rw [show mq_together c (nI i) (nI i2) = nI (jm_est (jm_mx (c.1.2 i).2.1 (c.1.2 i2).2.1) (2 ^ (c.1.2 i).1)) from by unfold mq_together; rw [if_neg (fun q => q.elim (jb_no hi (by decide)) (jb_no hi2 (by decide))), jx (by omega), jx (by omega), if_neg (fun q => q hn)]]
  exact ⟨rfl, hC.tri (t2.tr p2), js_frX.of54 (t2.tr p2)⟩
theorem in_X4_alike_4 : ∀ w ∈ wsX40, w ∈ wsX4_alike := by decide +kernel
theorem lk_X4_alike_fieldLink_RX4_10_JoinedSketches_now_LJoinedSketches_State : Cond.fieldLink RX4 10 "JoinedSketches" "now" "LJoinedSketches$State;" ∈ wsX4_alike := by decide +kernel
theorem mf_X4_alike : js_M yX4_alike cX4_alike 5 (some .int) wsX4_alike 2 := ⟨⟨_, rfl⟩, by decide +kernel, by decide +kernel, by decide +kernel, by decide +kernel⟩
set_option maxHeartbeats 4000000 in
set_option maxRecDepth 100000 in
theorem c_X4_alike_1a (la : Launch) {y : js_L} (hy : js_Dy y) {G : js_G} {c : js_C} (hC : jr_C G c) {x z : Int32} (hx : jb x 6) (hz : jb z 6)  : js_Ci la y yX4_alike wsX4_alike 4 77 [.ref (js_ad y (190)), .int (x), .int (z)] G (fun r G' => jP (mq_alike c x z, c) r G G') := by
  refine js_ofi mf_X4_alike (Nat.le_of_ble_eq_true rfl) hy (fun X F hr => ?_)
  replace F : js_F X y cX4_alike 5 RX4 wsX4_alike 4 77 := F
  show js_W X y 5 _ G 0 [(0, .ref (js_ad y (190))), (1, .int (x)), (2, .int (z))] []
  refine js_aload_n (pc := 0) 0 F rfl dX4_alike_0 ?_
  refine jg_X_now (pc := 1) F in_X4_alike_4 (lk_X4_alike_fieldLink_RX4_10_JoinedSketches_now_LJoinedSketches_State) dX4_alike_1 ?_
  refine js_iload_n (pc := 4) 1 F rfl dX4_alike_4 ?_
  refine js_callq (pc := 5) F (c_sk_bad _ hy (G := G) (x := x) hx) mf_X3_sketchAt gX4_alike_X3_sketchAt rfl (by decide) (by unfold js_kA; omega) (js_ct_A (by decide)) rfl rfl rfl (Nat.le_of_ble_eq_true rfl) dX4_alike_5 ?_
  rintro _ _ ⟨rfl, rfl⟩
  show js_W X y 5 (js_Qi X y (fun r G' => jP (mq_alike c x z, c) r G G')) G (5 + 3) [(0, .ref (js_ad y (190))), (1, .int (x)), (2, .int (z))] [.null]
  refine js_astore_nN (pc := 8) (lv2 := [(0, .ref (js_ad y (190))), (1, .int (x)), (2, .int (z)), (3, .null)]) F dX4_alike_8 (by decide) [1, 2, 3, 0] rfl ?_
  refine js_aload_n (pc := 9) 0 F rfl dX4_alike_9 ?_
  refine jg_X_now (pc := 10) F in_X4_alike_4 (lk_X4_alike_fieldLink_RX4_10_JoinedSketches_now_LJoinedSketches_State) dX4_alike_10 ?_
  refine js_iload_n (pc := 13) 2 F rfl dX4_alike_13 ?_
  refine js_callq (pc := 14) F (c_sk_bad _ hy (G := G) (x := z) hz) mf_X3_sketchAt gX4_alike_X3_sketchAt rfl (by decide) (by unfold js_kA; omega) (js_ct_A (by decide)) rfl rfl rfl (Nat.le_of_ble_eq_true rfl) dX4_alike_14 ?_
  rintro _ _ ⟨rfl, rfl⟩
  show js_W X y 5 (js_Qi X y (fun r G' => jP (mq_alike c x z, c) r G G')) G (14 + 3) [(0, .ref (js_ad y (190))), (1, .int (x)), (2, .int (z)), (3, .null)] [.null]
  refine js_astoreN (pc := 17) (lv2 := [(0, .ref (js_ad y (190))), (1, .int (x)), (2, .int (z)), (3, .null), (4, .null)]) F dX4_alike_17 (by decide) [1, 2, 3, 4, 0] rfl ?_
  refine js_aload_nN (pc := 19) 3 F rfl dX4_alike_19 ?_
  refine js_ifnullN (pc := 20) (tgt := 28) F dX4_alike_20 (by decide) ?_
  refine js_iconst (pc := 28) (v := (-1)) F (by decide) dX4_alike_28 ?_
  refine js_iret (pc := 29) F hr (rfl) ?_ dX4_alike_29
  show jP (mq_alike c x z, c) _ _ _
  rw [show mq_alike c x z = -1 from if_pos (Or.inl hx)]
  exact ⟨rfl, hC, js_frX.rf⟩
set_option maxHeartbeats 4000000 in
set_option maxRecDepth 100000 in
theorem c_X4_alike_1b (la : Launch) {y : js_L} (hy : js_Dy y) {G : js_G} {c : js_C} (hC : jr_C G c) {x : Int32} (hx : jb x 6) {i2 : Nat} (hi2 : i2 < 6)  : js_Ci la y yX4_alike wsX4_alike 4 77 [.ref (js_ad y (190)), .int (x), .int (nI (i2))] G (fun r G' => jP (mq_alike c x (nI i2), c) r G G') := by
  refine js_ofi mf_X4_alike (Nat.le_of_ble_eq_true rfl) hy (fun X F hr => ?_)
  replace F : js_F X y cX4_alike 5 RX4 wsX4_alike 4 77 := F
  show js_W X y 5 _ G 0 [(0, .ref (js_ad y (190))), (1, .int (x)), (2, .int (nI (i2)))] []
  refine js_aload_n (pc := 0) 0 F rfl dX4_alike_0 ?_
  refine jg_X_now (pc := 1) F in_X4_alike_4 (lk_X4_alike_fieldLink_RX4_10_JoinedSketches_now_LJoinedSketches_State) dX4_alike_1 ?_
  refine js_iload_n (pc := 4) 1 F rfl dX4_alike_4 ?_
  refine js_callq (pc := 5) F (c_sk_bad _ hy (G := G) (x := x) hx) mf_X3_sketchAt gX4_alike_X3_sketchAt rfl (by decide) (by unfold js_kA; omega) (js_ct_A (by decide)) rfl rfl rfl (Nat.le_of_ble_eq_true rfl) dX4_alike_5 ?_
  rintro _ _ ⟨rfl, rfl⟩
  show js_W X y 5 (js_Qi X y (fun r G' => jP (mq_alike c x (nI i2), c) r G G')) G (5 + 3) [(0, .ref (js_ad y (190))), (1, .int (x)), (2, .int (nI (i2)))] [.null]
  refine js_astore_nN (pc := 8) (lv2 := [(0, .ref (js_ad y (190))), (1, .int (x)), (2, .int (nI (i2))), (3, .null)]) F dX4_alike_8 (by decide) [1, 2, 3, 0] rfl ?_
  refine js_aload_n (pc := 9) 0 F rfl dX4_alike_9 ?_
  refine jg_X_now (pc := 10) F in_X4_alike_4 (lk_X4_alike_fieldLink_RX4_10_JoinedSketches_now_LJoinedSketches_State) dX4_alike_10 ?_
  refine js_iload_n (pc := 13) 2 F rfl dX4_alike_13 ?_
  refine js_callq (pc := 14) F (c_sk_ok _ hy (G := G) (i := i2) hi2) mf_X3_sketchAt gX4_alike_X3_sketchAt rfl (by decide) (by unfold js_kA; omega) (js_ct_A (by decide)) rfl rfl rfl (Nat.le_of_ble_eq_true rfl) dX4_alike_14 ?_
  rintro _ _ ⟨rfl, rfl⟩
  show js_W X y 5 (js_Qi X y (fun r G' => jP (mq_alike c x (nI i2), c) r G G')) G (14 + 3) [(0, .ref (js_ad y (190))), (1, .int (x)), (2, .int (nI (i2))), (3, .null)] [.ref (js_ad y (js_kS i2))]
  refine js_astore (pc := 17) (lv2 := [(0, .ref (js_ad y (190))), (1, .int (x)), (2, .int (nI (i2))), (3, .null), (4, .ref (js_ad y (js_kS i2)))]) F dX4_alike_17 (by decide) [1, 2, 3, 4, 0] rfl ?_
  refine js_aload_nN (pc := 19) 3 F rfl dX4_alike_19 ?_
  refine js_ifnullN (pc := 20) (tgt := 28) F dX4_alike_20 (by decide) ?_
  refine js_iconst (pc := 28) (v := (-1)) F (by decide) dX4_alike_28 ?_
  refine js_iret (pc := 29) F hr (rfl) ?_ dX4_alike_29
  show jP (mq_alike c x (nI i2), c) _ _ _
  rw [show mq_alike c x (nI i2) = -1 from if_pos (Or.inl hx)]
  exact ⟨rfl, hC, js_frX.rf⟩
set_option maxHeartbeats 4000000 in
set_option maxRecDepth 100000 in
theorem c_X4_alike_1c (la : Launch) {y : js_L} (hy : js_Dy y) {G : js_G} {c : js_C} (hC : jr_C G c) {i : Nat} (hi : i < 6) {z : Int32} (hz : jb z 6)  : js_Ci la y yX4_alike wsX4_alike 4 77 [.ref (js_ad y (190)), .int (nI (i)), .int (z)] G (fun r G' => jP (mq_alike c (nI i) z, c) r G G') := by
  refine js_ofi mf_X4_alike (Nat.le_of_ble_eq_true rfl) hy (fun X F hr => ?_)
  replace F : js_F X y cX4_alike 5 RX4 wsX4_alike 4 77 := F
  show js_W X y 5 _ G 0 [(0, .ref (js_ad y (190))), (1, .int (nI (i))), (2, .int (z))] []
  refine js_aload_n (pc := 0) 0 F rfl dX4_alike_0 ?_
  refine jg_X_now (pc := 1) F in_X4_alike_4 (lk_X4_alike_fieldLink_RX4_10_JoinedSketches_now_LJoinedSketches_State) dX4_alike_1 ?_
  refine js_iload_n (pc := 4) 1 F rfl dX4_alike_4 ?_
  refine js_callq (pc := 5) F (c_sk_ok _ hy (G := G) (i := i) hi) mf_X3_sketchAt gX4_alike_X3_sketchAt rfl (by decide) (by unfold js_kA; omega) (js_ct_A (by decide)) rfl rfl rfl (Nat.le_of_ble_eq_true rfl) dX4_alike_5 ?_
  rintro _ _ ⟨rfl, rfl⟩
  show js_W X y 5 (js_Qi X y (fun r G' => jP (mq_alike c (nI i) z, c) r G G')) G (5 + 3) [(0, .ref (js_ad y (190))), (1, .int (nI (i))), (2, .int (z))] [.ref (js_ad y (js_kS i))]
  refine js_astore_n (pc := 8) (lv2 := [(0, .ref (js_ad y (190))), (1, .int (nI (i))), (2, .int (z)), (3, .ref (js_ad y (js_kS i)))]) F dX4_alike_8 (by decide) [1, 2, 3, 0] rfl ?_
  refine js_aload_n (pc := 9) 0 F rfl dX4_alike_9 ?_
  refine jg_X_now (pc := 10) F in_X4_alike_4 (lk_X4_alike_fieldLink_RX4_10_JoinedSketches_now_LJoinedSketches_State) dX4_alike_10 ?_
  refine js_iload_n (pc := 13) 2 F rfl dX4_alike_13 ?_
  refine js_callq (pc := 14) F (c_sk_bad _ hy (G := G) (x := z) hz) mf_X3_sketchAt gX4_alike_X3_sketchAt rfl (by decide) (by unfold js_kA; omega) (js_ct_A (by decide)) rfl rfl rfl (Nat.le_of_ble_eq_true rfl) dX4_alike_14 ?_
  rintro _ _ ⟨rfl, rfl⟩
  show js_W X y 5 (js_Qi X y (fun r G' => jP (mq_alike c (nI i) z, c) r G G')) G (14 + 3) [(0, .ref (js_ad y (190))), (1, .int (nI (i))), (2, .int (z)), (3, .ref (js_ad y (js_kS i)))] [.null]
  refine js_astoreN (pc := 17) (lv2 := [(0, .ref (js_ad y (190))), (1, .int (nI (i))), (2, .int (z)), (3, .ref (js_ad y (js_kS i))), (4, .null)]) F dX4_alike_17 (by decide) [1, 2, 3, 4, 0] rfl ?_
  refine js_aload_n (pc := 19) 3 F rfl dX4_alike_19 ?_
  refine js_ifnull (pc := 20) F dX4_alike_20 ?_
  refine js_aloadN (pc := 23) 4 F rfl dX4_alike_23 ?_
  refine js_ifnonnullN (pc := 25) F dX4_alike_25 ?_
  refine js_iconst (pc := 28) (v := (-1)) F (by decide) dX4_alike_28 ?_
  refine js_iret (pc := 29) F hr (rfl) ?_ dX4_alike_29
  show jP (mq_alike c (nI i) z, c) _ _ _
  rw [show mq_alike c (nI i) z = -1 from if_pos (Or.inr hz)]
  exact ⟨rfl, hC, js_frX.rf⟩
theorem in_X4_alike_2 : ∀ w ∈ wsX20, w ∈ wsX4_alike := by decide +kernel
set_option maxHeartbeats 4000000 in
set_option maxRecDepth 100000 in
theorem c_X4_alike_2 (la : Launch) {y : js_L} (hy : js_Dy y) {G : js_G} {c : js_C} (hC : jr_C G c) {i : Nat} (hi : i < 6) {i2 : Nat} (hi2 : i2 < 6) (hn : ¬ (c.1.2 i).1 = (c.1.2 i2).1) : js_Ci la y yX4_alike wsX4_alike 4 77 [.ref (js_ad y (190)), .int (nI (i)), .int (nI (i2))] G (fun r G' => jP (mq_alike c (nI i) (nI i2), c) r G G') := by
  have hS : jr_K G i (c.1.2 i) := hC.K hi
  have hp : 2 ^ (c.1.2 i).1 ≤ 64 := jm_p6 hS.2.1
  have hS2 : jr_K G i2 (c.1.2 i2) := hC.K hi2
  have hb62 := hS2.2.1
  have hb61 := hS.2.1
  refine js_ofi mf_X4_alike (Nat.le_of_ble_eq_true rfl) hy (fun X F hr => ?_)
  replace F : js_F X y cX4_alike 5 RX4 wsX4_alike 4 77 := F
  show js_W X y 5 _ G 0 [(0, .ref (js_ad y (190))), (1, .int (nI (i))), (2, .int (nI (i2)))] []
  refine js_aload_n (pc := 0) 0 F rfl dX4_alike_0 ?_
  refine jg_X_now (pc := 1) F in_X4_alike_4 (lk_X4_alike_fieldLink_RX4_10_JoinedSketches_now_LJoinedSketches_State) dX4_alike_1 ?_
  refine js_iload_n (pc := 4) 1 F rfl dX4_alike_4 ?_
  refine js_callq (pc := 5) F (c_sk_ok _ hy (G := G) (i := i) hi) mf_X3_sketchAt gX4_alike_X3_sketchAt rfl (by decide) (by unfold js_kA; omega) (js_ct_A (by decide)) rfl rfl rfl (Nat.le_of_ble_eq_true rfl) dX4_alike_5 ?_
  rintro _ _ ⟨rfl, rfl⟩
  show js_W X y 5 (js_Qi X y (fun r G' => jP (mq_alike c (nI i) (nI i2), c) r G G')) G (5 + 3) [(0, .ref (js_ad y (190))), (1, .int (nI (i))), (2, .int (nI (i2)))] [.ref (js_ad y (js_kS i))]
  refine js_astore_n (pc := 8) (lv2 := [(0, .ref (js_ad y (190))), (1, .int (nI (i))), (2, .int (nI (i2))), (3, .ref (js_ad y (js_kS i)))]) F dX4_alike_8 (by decide) [1, 2, 3, 0] rfl ?_
  refine js_aload_n (pc := 9) 0 F rfl dX4_alike_9 ?_
  refine jg_X_now (pc := 10) F in_X4_alike_4 (lk_X4_alike_fieldLink_RX4_10_JoinedSketches_now_LJoinedSketches_State) dX4_alike_10 ?_
  refine js_iload_n (pc := 13) 2 F rfl dX4_alike_13 ?_
  refine js_callq (pc := 14) F (c_sk_ok _ hy (G := G) (i := i2) hi2) mf_X3_sketchAt gX4_alike_X3_sketchAt rfl (by decide) (by unfold js_kA; omega) (js_ct_A (by decide)) rfl rfl rfl (Nat.le_of_ble_eq_true rfl) dX4_alike_14 ?_
  rintro _ _ ⟨rfl, rfl⟩
  show js_W X y 5 (js_Qi X y (fun r G' => jP (mq_alike c (nI i) (nI i2), c) r G G')) G (14 + 3) [(0, .ref (js_ad y (190))), (1, .int (nI (i))), (2, .int (nI (i2))), (3, .ref (js_ad y (js_kS i)))] [.ref (js_ad y (js_kS i2))]
  refine js_astore (pc := 17) (lv2 := [(0, .ref (js_ad y (190))), (1, .int (nI (i))), (2, .int (nI (i2))), (3, .ref (js_ad y (js_kS i))), (4, .ref (js_ad y (js_kS i2)))]) F dX4_alike_17 (by decide) [1, 2, 3, 4, 0] rfl ?_
  refine js_aload_n (pc := 19) 3 F rfl dX4_alike_19 ?_
  refine js_ifnull (pc := 20) F dX4_alike_20 ?_
  refine js_aload (pc := 23) 4 F rfl dX4_alike_23 ?_
  refine js_ifnonnull (pc := 25) (tgt := 30) F dX4_alike_25 (by decide) ?_
  refine js_aload_n (pc := 30) 3 F rfl dX4_alike_30 ?_
  refine jgN_4_62 (pc := 31) (v := nI ((c.1.2 i).1)) F in_X4_alike_2 (by omega) (hS.2.2.1) dX4_alike_31 ?_
  refine js_aload (pc := 34) 4 F rfl dX4_alike_34 ?_
  refine jgN_4_62 (pc := 36) (v := nI ((c.1.2 i2).1)) F in_X4_alike_2 (by omega) (hS2.2.2.1) dX4_alike_36 ?_
  refine js_icmp_eqN (pc := 39) (a := (c.1.2 i).1) (b := (c.1.2 i2).1) (tgt := 45) F (by omega) (by omega) dX4_alike_39 (by decide) (fun h39 => by exact absurd h39 hn) (fun h39 => ?_)
  refine js_bipush (pc := 42) (v := (-5)) F (by decide) dX4_alike_42 ?_
  refine js_iret (pc := 44) F hr (rfl) ?_ dX4_alike_44
  show jP (mq_alike c (nI i) (nI i2), c) _ _ _
  rw [show mq_alike c (nI i) (nI i2) = -5 from by unfold mq_alike; rw [if_neg (fun q => q.elim (jb_no hi (by decide)) (jb_no hi2 (by decide))), jx (by omega), jx (by omega), if_pos hn]]
  exact ⟨rfl, hC, js_frX.rf⟩
set_option maxHeartbeats 4000000 in
set_option maxRecDepth 100000 in
theorem c_X4_alike_3 (la : Launch) {y : js_L} (hy : js_Dy y) {G : js_G} {c : js_C} (hC : jr_C G c) {i : Nat} (hi : i < 6) {i2 : Nat} (hi2 : i2 < 6) (hn : (c.1.2 i).1 = (c.1.2 i2).1) : js_Ci la y yX4_alike wsX4_alike 4 77 [.ref (js_ad y (190)), .int (nI (i)), .int (nI (i2))] G (fun r G' => jP (mq_alike c (nI i) (nI i2), c) r G G') := by
  have hS : jr_K G i (c.1.2 i) := hC.K hi
  have hp : 2 ^ (c.1.2 i).1 ≤ 64 := jm_p6 hS.2.1
  have hS2 : jr_K G i2 (c.1.2 i2) := hC.K hi2
  have hb62 := hS2.2.1
  have hb61 := hS.2.1
  have hb21 := hS.1
  have hb22 := hS2.1
  refine js_ofi mf_X4_alike (Nat.le_of_ble_eq_true rfl) hy (fun X F hr => ?_)
  replace F : js_F X y cX4_alike 5 RX4 wsX4_alike 4 77 := F
  show js_W X y 5 _ G 0 [(0, .ref (js_ad y (190))), (1, .int (nI (i))), (2, .int (nI (i2)))] []
  refine js_aload_n (pc := 0) 0 F rfl dX4_alike_0 ?_
  refine jg_X_now (pc := 1) F in_X4_alike_4 (lk_X4_alike_fieldLink_RX4_10_JoinedSketches_now_LJoinedSketches_State) dX4_alike_1 ?_
  refine js_iload_n (pc := 4) 1 F rfl dX4_alike_4 ?_
  refine js_callq (pc := 5) F (c_sk_ok _ hy (G := G) (i := i) hi) mf_X3_sketchAt gX4_alike_X3_sketchAt rfl (by decide) (by unfold js_kA; omega) (js_ct_A (by decide)) rfl rfl rfl (Nat.le_of_ble_eq_true rfl) dX4_alike_5 ?_
  rintro _ _ ⟨rfl, rfl⟩
  show js_W X y 5 (js_Qi X y (fun r G' => jP (mq_alike c (nI i) (nI i2), c) r G G')) G (5 + 3) [(0, .ref (js_ad y (190))), (1, .int (nI (i))), (2, .int (nI (i2)))] [.ref (js_ad y (js_kS i))]
  refine js_astore_n (pc := 8) (lv2 := [(0, .ref (js_ad y (190))), (1, .int (nI (i))), (2, .int (nI (i2))), (3, .ref (js_ad y (js_kS i)))]) F dX4_alike_8 (by decide) [1, 2, 3, 0] rfl ?_
  refine js_aload_n (pc := 9) 0 F rfl dX4_alike_9 ?_
  refine jg_X_now (pc := 10) F in_X4_alike_4 (lk_X4_alike_fieldLink_RX4_10_JoinedSketches_now_LJoinedSketches_State) dX4_alike_10 ?_
  refine js_iload_n (pc := 13) 2 F rfl dX4_alike_13 ?_
  refine js_callq (pc := 14) F (c_sk_ok _ hy (G := G) (i := i2) hi2) mf_X3_sketchAt gX4_alike_X3_sketchAt rfl (by decide) (by unfold js_kA; omega) (js_ct_A (by decide)) rfl rfl rfl (Nat.le_of_ble_eq_true rfl) dX4_alike_14 ?_
  rintro _ _ ⟨rfl, rfl⟩
  show js_W X y 5 (js_Qi X y (fun r G' => jP (mq_alike c (nI i) (nI i2), c) r G G')) G (14 + 3) [(0, .ref (js_ad y (190))), (1, .int (nI (i))), (2, .int (nI (i2))), (3, .ref (js_ad y (js_kS i)))] [.ref (js_ad y (js_kS i2))]
  refine js_astore (pc := 17) (lv2 := [(0, .ref (js_ad y (190))), (1, .int (nI (i))), (2, .int (nI (i2))), (3, .ref (js_ad y (js_kS i))), (4, .ref (js_ad y (js_kS i2)))]) F dX4_alike_17 (by decide) [1, 2, 3, 4, 0] rfl ?_
  refine js_aload_n (pc := 19) 3 F rfl dX4_alike_19 ?_
  refine js_ifnull (pc := 20) F dX4_alike_20 ?_
  refine js_aload (pc := 23) 4 F rfl dX4_alike_23 ?_
  refine js_ifnonnull (pc := 25) (tgt := 30) F dX4_alike_25 (by decide) ?_
  refine js_aload_n (pc := 30) 3 F rfl dX4_alike_30 ?_
  refine jgN_4_62 (pc := 31) (v := nI ((c.1.2 i).1)) F in_X4_alike_2 (by omega) (hS.2.2.1) dX4_alike_31 ?_
  refine js_aload (pc := 34) 4 F rfl dX4_alike_34 ?_
  refine jgN_4_62 (pc := 36) (v := nI ((c.1.2 i2).1)) F in_X4_alike_2 (by omega) (hS2.2.2.1) dX4_alike_36 ?_
  refine js_icmp_eqN (pc := 39) (a := (c.1.2 i).1) (b := (c.1.2 i2).1) (tgt := 45) F (by omega) (by omega) dX4_alike_39 (by decide) (fun h39 => ?_) (fun h39 => by exact absurd hn h39)
  refine js_aload_n (pc := 45) 3 F rfl dX4_alike_45 ?_
  refine js_aload (pc := 46) 4 F rfl dX4_alike_46 ?_
  refine js_calli (pc := 48) F (c_X2_sameBuckets _ hy (j := i) (by omega) (G := G) hS.2.2.1 hS.2.1 hS.2.2.2.1 (fun b hb => Nat.le_trans (hS.2.2.2.2.1 b hb) (by omega)) (j2 := i2) (by omega) (by rw [hn]; exact hS2.2.2.1) (by rw [hn]; exact hS2.2.2.2.1) (fun b hb => Nat.le_trans (hS2.2.2.2.2.1 b (by rw [← hn]; exact hb)) (by omega))) mf_X2_sameBuckets gX4_alike_X2_sameBuckets rfl (by decide) (by unfold js_kS; omega) (js_ct_S (by omega)) rfl rfl rfl (Nat.le_of_ble_eq_true rfl) dX4_alike_48 ?_
  rintro _ _ ⟨rfl, rfl⟩
  have hsm := jm_same_le (c.1.2 i) (c.1.2 i2)
  refine js_aload_n (pc := 51) 3 F rfl dX4_alike_51 ?_
  refine jgN_4_62 (pc := 52) (v := nI ((c.1.2 i).1)) F in_X4_alike_2 (by omega) (hS.2.2.1) dX4_alike_52 ?_
  refine js_callsi (pc := 55) F (c_X4_bitsOfShare _ hy (m := jm_same (c.1.2 i) (c.1.2 i2)) (B := (c.1.2 i).1) (by omega) (by omega)) mf_X4_bitsOfShare gX4_alike_X4_bitsOfShare (by decide) rfl rfl (Nat.le_of_ble_eq_true rfl) dX4_alike_55 ?_
  rintro _ _ ⟨rfl, rfl⟩
  refine js_iret (pc := 58) F hr (rfl) ?_ dX4_alike_58
  show jP (mq_alike c (nI i) (nI i2), c) _ _ _
  rw [show mq_alike c (nI i) (nI i2) = jm_share (jm_same (c.1.2 i) (c.1.2 i2)) (c.1.2 i).1 from by unfold mq_alike; rw [if_neg (fun q => q.elim (jb_no hi (by decide)) (jb_no hi2 (by decide))), jx (by omega), jx (by omega), if_neg (fun q => q hn)]]
  exact ⟨rfl, hC, js_frX.rf⟩
theorem in_X4_off_4 : ∀ w ∈ wsX40, w ∈ wsX4_off := by decide +kernel
theorem lk_X4_off_fieldLink_RX4_10_JoinedSketches_now_LJoinedSketches_State : Cond.fieldLink RX4 10 "JoinedSketches" "now" "LJoinedSketches$State;" ∈ wsX4_off := by decide +kernel
theorem mf_X4_off : js_M yX4_off cX4_off 3 (some .int) wsX4_off 1 := ⟨⟨_, rfl⟩, by decide +kernel, by decide +kernel, by decide +kernel, by decide +kernel⟩
set_option maxHeartbeats 4000000 in
set_option maxRecDepth 100000 in
theorem c_X4_off_1 (la : Launch) {y : js_L} (hy : js_Dy y) {G : js_G} {c : js_C} (hC : jr_C G c) {x : Int32} (hx : jb x 6) : js_Ci la y yX4_off wsX4_off 6 122 [.ref (js_ad y (190)), .int (x)] G (fun r G' => jP (mq_off c x, c) r G G') := by
  refine js_ofi mf_X4_off (Nat.le_of_ble_eq_true rfl) hy (fun X F hr => ?_)
  replace F : js_F X y cX4_off 3 RX4 wsX4_off 6 122 := F
  show js_W X y 3 _ G 0 [(0, .ref (js_ad y (190))), (1, .int (x))] []
  refine js_aload_n (pc := 0) 0 F rfl dX4_off_0 ?_
  refine jg_X_now (pc := 1) F in_X4_off_4 (lk_X4_off_fieldLink_RX4_10_JoinedSketches_now_LJoinedSketches_State) dX4_off_1 ?_
  refine js_iload_n (pc := 4) 1 F rfl dX4_off_4 ?_
  refine js_callq (pc := 5) F (c_sk_bad _ hy (G := G) (x := x) hx) mf_X3_sketchAt gX4_off_X3_sketchAt rfl (by decide) (by unfold js_kA; omega) (js_ct_A (by decide)) rfl rfl rfl (Nat.le_of_ble_eq_true rfl) dX4_off_5 ?_
  rintro _ _ ⟨rfl, rfl⟩
  show js_W X y 3 (js_Qi X y (fun r G' => jP (mq_off c x, c) r G G')) G (5 + 3) [(0, .ref (js_ad y (190))), (1, .int (x))] [.null]
  refine js_astore_nN (pc := 8) (lv2 := [(0, .ref (js_ad y (190))), (1, .int (x)), (2, .null)]) F dX4_off_8 (by decide) [1, 2, 0] rfl ?_
  refine js_aload_nN (pc := 9) 2 F rfl dX4_off_9 ?_
  refine js_ifnonnullN (pc := 10) F dX4_off_10 ?_
  refine js_iconst (pc := 13) (v := (-1)) F (by decide) dX4_off_13 ?_
  refine js_iret (pc := 14) F hr (rfl) ?_ dX4_off_14
  show jP (mq_off c x, c) _ _ _
  rw [show mq_off c x = -1 from if_pos hx]
  exact ⟨rfl, hC, js_frX.rf⟩
theorem in_X4_off_2 : ∀ w ∈ wsX20, w ∈ wsX4_off := by decide +kernel
set_option maxHeartbeats 4000000 in
set_option maxRecDepth 100000 in
theorem c_X4_off_2 (la : Launch) {y : js_L} (hy : js_Dy y) {G : js_G} {c : js_C} (hC : jr_C G c) {i : Nat} (hi : i < 6) (hq : (c.1.2 i).2.2 = none)  : js_Ci la y yX4_off wsX4_off 6 122 [.ref (js_ad y (190)), .int (nI (i))] G (fun r G' => jP (mq_off c (nI i), c) r G G') := by
  have hS : jr_K G i (c.1.2 i) := hC.K hi
  have hp : 2 ^ (c.1.2 i).1 ≤ 64 := jm_p6 hS.2.1
  have hL : jr_L G i none := hq ▸ hS.2.2.2.2.2
  refine js_ofi mf_X4_off (Nat.le_of_ble_eq_true rfl) hy (fun X F hr => ?_)
  replace F : js_F X y cX4_off 3 RX4 wsX4_off 6 122 := F
  show js_W X y 3 _ G 0 [(0, .ref (js_ad y (190))), (1, .int (nI (i)))] []
  refine js_aload_n (pc := 0) 0 F rfl dX4_off_0 ?_
  refine jg_X_now (pc := 1) F in_X4_off_4 (lk_X4_off_fieldLink_RX4_10_JoinedSketches_now_LJoinedSketches_State) dX4_off_1 ?_
  refine js_iload_n (pc := 4) 1 F rfl dX4_off_4 ?_
  refine js_callq (pc := 5) F (c_sk_ok _ hy (G := G) (i := i) hi) mf_X3_sketchAt gX4_off_X3_sketchAt rfl (by decide) (by unfold js_kA; omega) (js_ct_A (by decide)) rfl rfl rfl (Nat.le_of_ble_eq_true rfl) dX4_off_5 ?_
  rintro _ _ ⟨rfl, rfl⟩
  show js_W X y 3 (js_Qi X y (fun r G' => jP (mq_off c (nI i), c) r G G')) G (5 + 3) [(0, .ref (js_ad y (190))), (1, .int (nI (i)))] [.ref (js_ad y (js_kS i))]
  refine js_astore_n (pc := 8) (lv2 := [(0, .ref (js_ad y (190))), (1, .int (nI (i))), (2, .ref (js_ad y (js_kS i)))]) F dX4_off_8 (by decide) [1, 2, 0] rfl ?_
  refine js_aload_n (pc := 9) 2 F rfl dX4_off_9 ?_
  refine js_ifnonnull (pc := 10) (tgt := 15) F dX4_off_10 (by decide) ?_
  refine js_aload_n (pc := 15) 2 F rfl dX4_off_15 ?_
  refine jgN_4_140 (pc := 16) (v := nI (1)) F in_X4_off_2 (by omega) (hL.2) dX4_off_16 ?_
  refine js_if_eqN (pc := 19) (a := 1) (tgt := 25) F (by decide) dX4_off_19 (by decide) (fun h19 => by exact absurd h19 (by decide)) (fun h19 => ?_)
  refine js_bipush (pc := 22) (v := (-5)) F (by decide) dX4_off_22 ?_
  refine js_iret (pc := 24) F hr (rfl) ?_ dX4_off_24
  show jP (mq_off c (nI i), c) _ _ _
  rw [show mq_off c (nI i) = -5 from by unfold mq_off; rw [if_neg (jb_no hi (by decide)), jx (by omega)]; unfold jm_ofL; rw [hq]]
  exact ⟨rfl, hC, js_frX.rf⟩
theorem lk_X4_off_constant_RX4_184_100000 : Cond.constant RX4 184 (100000) ∈ wsX4_off := by decide +kernel
set_option maxHeartbeats 4000000 in
set_option maxRecDepth 100000 in
theorem c_X4_off_3 (la : Launch) {y : js_L} (hy : js_Dy y) {G : js_G} {c : js_C} (hC : jr_C G c) {i : Nat} (hi : i < 6) {l : List Nat} (hq : (c.1.2 i).2.2 = some l) : js_Ci la y yX4_off wsX4_off 6 122 [.ref (js_ad y (190)), .int (nI (i))] G (fun r G' => jP (mq_off c (nI i), c) r G G') := by
  have hS : jr_K G i (c.1.2 i) := hC.K hi
  have hp : 2 ^ (c.1.2 i).1 ≤ 64 := jm_p6 hS.2.1
  have hL : jr_L G i (some l) := hq ▸ hS.2.2.2.2.2
  have hlen := hL.2.2.1
  refine js_ofi mf_X4_off (Nat.le_of_ble_eq_true rfl) hy (fun X F hr => ?_)
  replace F : js_F X y cX4_off 3 RX4 wsX4_off 6 122 := F
  show js_W X y 3 _ G 0 [(0, .ref (js_ad y (190))), (1, .int (nI (i)))] []
  refine js_aload_n (pc := 0) 0 F rfl dX4_off_0 ?_
  refine jg_X_now (pc := 1) F in_X4_off_4 (lk_X4_off_fieldLink_RX4_10_JoinedSketches_now_LJoinedSketches_State) dX4_off_1 ?_
  refine js_iload_n (pc := 4) 1 F rfl dX4_off_4 ?_
  refine js_callq (pc := 5) F (c_sk_ok _ hy (G := G) (i := i) hi) mf_X3_sketchAt gX4_off_X3_sketchAt rfl (by decide) (by unfold js_kA; omega) (js_ct_A (by decide)) rfl rfl rfl (Nat.le_of_ble_eq_true rfl) dX4_off_5 ?_
  rintro _ _ ⟨rfl, rfl⟩
  show js_W X y 3 (js_Qi X y (fun r G' => jP (mq_off c (nI i), c) r G G')) G (5 + 3) [(0, .ref (js_ad y (190))), (1, .int (nI (i)))] [.ref (js_ad y (js_kS i))]
  refine js_astore_n (pc := 8) (lv2 := [(0, .ref (js_ad y (190))), (1, .int (nI (i))), (2, .ref (js_ad y (js_kS i)))]) F dX4_off_8 (by decide) [1, 2, 0] rfl ?_
  refine js_aload_n (pc := 9) 2 F rfl dX4_off_9 ?_
  refine js_ifnonnull (pc := 10) (tgt := 15) F dX4_off_10 (by decide) ?_
  refine js_aload_n (pc := 15) 2 F rfl dX4_off_15 ?_
  refine jgN_4_140 (pc := 16) (v := nI (0)) F in_X4_off_2 (by omega) (hL.2.1) dX4_off_16 ?_
  refine js_if_eqN (pc := 19) (a := 0) (tgt := 25) F (by decide) dX4_off_19 (by decide) (fun h19 => ?_) (fun h19 => by exact absurd rfl h19)
  refine js_aload_n (pc := 25) 2 F rfl dX4_off_25 ?_
  refine js_calli (pc := 26) F (c_X2_estimate _ hy (by omega) (G := G) (B := (c.1.2 i).1) (hS.2.2.1) (by first | exact hS.2.1 | exact hS2.2.1) (rk := (c.1.2 i).2.1) (hS.2.2.2.1) (fun b hb => Nat.le_trans (hS.2.2.2.2.1 b hb) (by have := hS.1; omega))) mf_X2_estimate gX4_off_X2_estimate rfl (by decide) (by unfold js_kS; omega) (js_ct_S (by omega)) rfl rfl rfl (Nat.le_of_ble_eq_true rfl) dX4_off_26 ?_
  rintro _ _ ⟨rfl, rfl⟩
  refine js_aload_n (pc := 29) 2 F rfl dX4_off_29 ?_
  refine jgN_4_144 (pc := 30) (v := nI (l.length)) F in_X4_off_2 (by omega) (hL.1) dX4_off_30 ?_
  refine js_isub (pc := 33) F dX4_off_33 ?_
  refine js_ldc (pc := 34) (v := nI (100000)) F (lk_X4_off_constant_RX4_184_100000) dX4_off_34 ?_
  refine js_iadd (pc := 36) F dX4_off_36 ?_
  refine js_val (v := nI (jm_esK (c.1.2 i) + 100000 - l.length)) (jn_off (by omega)) ?_
  refine js_iret (pc := 37) F hr (rfl) ?_ dX4_off_37
  show jP (mq_off c (nI i), c) _ _ _
  rw [show mq_off c (nI i) = nI (jm_esK (c.1.2 i) + 100000 - l.length) from by unfold mq_off; rw [if_neg (jb_no hi (by decide)), jx (by omega)]; unfold jm_ofL; rw [hq]]
  exact ⟨rfl, hC, js_frX.rf⟩
theorem in_X4_nextNew_4 : ∀ w ∈ wsX40, w ∈ wsX4_nextNew := by decide +kernel
theorem lk_X4_nextNew_fieldLink_RX4_10_JoinedSketches_now_LJoinedSketches_State : Cond.fieldLink RX4 10 "JoinedSketches" "now" "LJoinedSketches$State;" ∈ wsX4_nextNew := by decide +kernel
theorem mf_X4_nextNew : js_M yX4_nextNew cX4_nextNew 5 (some .int) wsX4_nextNew 2 := ⟨⟨_, rfl⟩, by decide +kernel, by decide +kernel, by decide +kernel, by decide +kernel⟩
set_option maxHeartbeats 4000000 in
set_option maxRecDepth 100000 in
theorem c_X4_nextNew_1 (la : Launch) {y : js_L} (hy : js_Dy y) {G : js_G} {c : js_C} (hC : jr_C G c) {x : Int32} {a : Int32} (hx : jb x 6) : js_Ci la y yX4_nextNew wsX4_nextNew 4 76 [.ref (js_ad y (190)), .int (x), .int (a)] G (fun r G' => jP (mq_nextNew c x a, c) r G G') := by
  refine js_ofi mf_X4_nextNew (Nat.le_of_ble_eq_true rfl) hy (fun X F hr => ?_)
  replace F : js_F X y cX4_nextNew 5 RX4 wsX4_nextNew 4 76 := F
  show js_W X y 5 _ G 0 [(0, .ref (js_ad y (190))), (1, .int (x)), (2, .int (a))] []
  refine js_aload_n (pc := 0) 0 F rfl dX4_nextNew_0 ?_
  refine jg_X_now (pc := 1) F in_X4_nextNew_4 (lk_X4_nextNew_fieldLink_RX4_10_JoinedSketches_now_LJoinedSketches_State) dX4_nextNew_1 ?_
  refine js_iload_n (pc := 4) 1 F rfl dX4_nextNew_4 ?_
  refine js_callq (pc := 5) F (c_sk_bad _ hy (G := G) (x := x) hx) mf_X3_sketchAt gX4_nextNew_X3_sketchAt rfl (by decide) (by unfold js_kA; omega) (js_ct_A (by decide)) rfl rfl rfl (Nat.le_of_ble_eq_true rfl) dX4_nextNew_5 ?_
  rintro _ _ ⟨rfl, rfl⟩
  show js_W X y 5 (js_Qi X y (fun r G' => jP (mq_nextNew c x a, c) r G G')) G (5 + 3) [(0, .ref (js_ad y (190))), (1, .int (x)), (2, .int (a))] [.null]
  refine js_astore_nN (pc := 8) (lv2 := [(0, .ref (js_ad y (190))), (1, .int (x)), (2, .int (a)), (3, .null)]) F dX4_nextNew_8 (by decide) [1, 2, 3, 0] rfl ?_
  refine js_aload_nN (pc := 9) 3 F rfl dX4_nextNew_9 ?_
  refine js_ifnonnullN (pc := 10) F dX4_nextNew_10 ?_
  refine js_iconst (pc := 13) (v := (-1)) F (by decide) dX4_nextNew_13 ?_
  refine js_iret (pc := 14) F hr (rfl) ?_ dX4_nextNew_14
  show jP (mq_nextNew c x a, c) _ _ _
  rw [show mq_nextNew c x a = -1 from if_pos hx]
  exact ⟨rfl, hC, js_frX.rf⟩
set_option maxHeartbeats 4000000 in
set_option maxRecDepth 100000 in
theorem c_X4_nextNew_2 (la : Launch) {y : js_L} (hy : js_Dy y) {G : js_G} {c : js_C} (hC : jr_C G c) {i : Nat} (hi : i < 6) {a : Int32} (ha : jb a 100000) : js_Ci la y yX4_nextNew wsX4_nextNew 4 76 [.ref (js_ad y (190)), .int (nI (i)), .int (a)] G (fun r G' => jP (mq_nextNew c (nI i) a, c) r G G') := by
  refine js_ofi mf_X4_nextNew (Nat.le_of_ble_eq_true rfl) hy (fun X F hr => ?_)
  replace F : js_F X y cX4_nextNew 5 RX4 wsX4_nextNew 4 76 := F
  show js_W X y 5 _ G 0 [(0, .ref (js_ad y (190))), (1, .int (nI (i))), (2, .int (a))] []
  refine js_aload_n (pc := 0) 0 F rfl dX4_nextNew_0 ?_
  refine jg_X_now (pc := 1) F in_X4_nextNew_4 (lk_X4_nextNew_fieldLink_RX4_10_JoinedSketches_now_LJoinedSketches_State) dX4_nextNew_1 ?_
  refine js_iload_n (pc := 4) 1 F rfl dX4_nextNew_4 ?_
  refine js_callq (pc := 5) F (c_sk_ok _ hy (G := G) (i := i) hi) mf_X3_sketchAt gX4_nextNew_X3_sketchAt rfl (by decide) (by unfold js_kA; omega) (js_ct_A (by decide)) rfl rfl rfl (Nat.le_of_ble_eq_true rfl) dX4_nextNew_5 ?_
  rintro _ _ ⟨rfl, rfl⟩
  show js_W X y 5 (js_Qi X y (fun r G' => jP (mq_nextNew c (nI i) a, c) r G G')) G (5 + 3) [(0, .ref (js_ad y (190))), (1, .int (nI (i))), (2, .int (a))] [.ref (js_ad y (js_kS i))]
  refine js_astore_n (pc := 8) (lv2 := [(0, .ref (js_ad y (190))), (1, .int (nI (i))), (2, .int (a)), (3, .ref (js_ad y (js_kS i)))]) F dX4_nextNew_8 (by decide) [1, 2, 3, 0] rfl ?_
  refine js_aload_n (pc := 9) 3 F rfl dX4_nextNew_9 ?_
  refine js_ifnonnull (pc := 10) (tgt := 15) F dX4_nextNew_10 (by decide) ?_
  refine js_iload_n (pc := 15) 2 F rfl dX4_nextNew_15 ?_
  refine js_callsi (pc := 16) F (c_X4_isThing _ hy (x := a)) mf_X4_isThing gX4_nextNew_X4_isThing (by decide) rfl rfl (Nat.le_of_ble_eq_true rfl) dX4_nextNew_16 ?_
  rintro _ _ ⟨rfl, rfl⟩
  rw [show (if jb (a) 100000 then 0 else 1) = (if ¬ jb (a) 100000 then 1 else 0) from by split <;> simp_all]
  refine js_if_neB (pc := 19) (tgt := 25) F dX4_nextNew_19 (by decide) (fun h19 => by exact absurd ha h19) (fun h19 => ?_)
  refine js_bipush (pc := 22) (v := (-2)) F (by decide) dX4_nextNew_22 ?_
  refine js_iret (pc := 24) F hr (rfl) ?_ dX4_nextNew_24
  show jP (mq_nextNew c (nI i) a, c) _ _ _
  rw [show mq_nextNew c (nI i) a = -2 from by unfold mq_nextNew; rw [if_neg (jb_no hi (by decide)), if_pos ha]]
  exact ⟨rfl, hC, js_frX.rf⟩
theorem in_X4_nextNew_3 : ∀ w ∈ wsX30, w ∈ wsX4_nextNew := by decide +kernel
theorem lk_X4_nextNew_constant_RX4_184_100000 : Cond.constant RX4 184 (100000) ∈ wsX4_nextNew := by decide +kernel
set_option maxHeartbeats 4000000 in
set_option maxRecDepth 100000 in
theorem c_X4_nextNew_3 (la : Launch) {y : js_L} (hy : js_Dy y) {G : js_G} {c : js_C} (hC : jr_C G c) {i : Nat} (hi : i < 6) {a : Nat} (ha : a < 100000) : js_Ci la y yX4_nextNew wsX4_nextNew 4 76 [.ref (js_ad y (190)), .int (nI (i)), .int (nI (a))] G (fun r G' => jP (mq_nextNew c (nI i) (nI a), c) r G G') := by
  have hS : jr_K G i (c.1.2 i) := hC.K hi
  have hp : 2 ^ (c.1.2 i).1 ≤ 64 := jm_p6 hS.2.1
  refine js_ofi mf_X4_nextNew (Nat.le_of_ble_eq_true rfl) hy (fun X F hr => ?_)
  replace F : js_F X y cX4_nextNew 5 RX4 wsX4_nextNew 4 76 := F
  show js_W X y 5 _ G 0 [(0, .ref (js_ad y (190))), (1, .int (nI (i))), (2, .int (nI (a)))] []
  refine js_aload_n (pc := 0) 0 F rfl dX4_nextNew_0 ?_
  refine jg_X_now (pc := 1) F in_X4_nextNew_4 (lk_X4_nextNew_fieldLink_RX4_10_JoinedSketches_now_LJoinedSketches_State) dX4_nextNew_1 ?_
  refine js_iload_n (pc := 4) 1 F rfl dX4_nextNew_4 ?_
  refine js_callq (pc := 5) F (c_sk_ok _ hy (G := G) (i := i) hi) mf_X3_sketchAt gX4_nextNew_X3_sketchAt rfl (by decide) (by unfold js_kA; omega) (js_ct_A (by decide)) rfl rfl rfl (Nat.le_of_ble_eq_true rfl) dX4_nextNew_5 ?_
  rintro _ _ ⟨rfl, rfl⟩
  show js_W X y 5 (js_Qi X y (fun r G' => jP (mq_nextNew c (nI i) (nI a), c) r G G')) G (5 + 3) [(0, .ref (js_ad y (190))), (1, .int (nI (i))), (2, .int (nI (a)))] [.ref (js_ad y (js_kS i))]
  refine js_astore_n (pc := 8) (lv2 := [(0, .ref (js_ad y (190))), (1, .int (nI (i))), (2, .int (nI (a))), (3, .ref (js_ad y (js_kS i)))]) F dX4_nextNew_8 (by decide) [1, 2, 3, 0] rfl ?_
  refine js_aload_n (pc := 9) 3 F rfl dX4_nextNew_9 ?_
  refine js_ifnonnull (pc := 10) (tgt := 15) F dX4_nextNew_10 (by decide) ?_
  refine js_iload_n (pc := 15) 2 F rfl dX4_nextNew_15 ?_
  refine js_callsi (pc := 16) F (c_X4_isThing _ hy (x := nI (a))) mf_X4_isThing gX4_nextNew_X4_isThing (by decide) rfl rfl (Nat.le_of_ble_eq_true rfl) dX4_nextNew_16 ?_
  rintro _ _ ⟨rfl, rfl⟩
  rw [show (if jb (nI (a)) 100000 then 0 else 1) = (if ¬ jb (nI (a)) 100000 then 1 else 0) from by split <;> simp_all]
  refine js_if_neB (pc := 19) (tgt := 25) F dX4_nextNew_19 (by decide) (fun h19 => ?_) (fun h19 => by exact absurd (jb_no ha (by decide)) h19)
  refine js_iload_n (pc := 25) 2 F rfl dX4_nextNew_25 ?_
  refine js_istore (pc := 26) (lv2 := [(0, .ref (js_ad y (190))), (1, .int (nI (i))), (2, .int (nI (a))), (3, .ref (js_ad y (js_kS i))), (4, .int (nI (a)))]) F dX4_nextNew_26 (by decide) [1, 2, 3, 4, 0] rfl ?_
  have L28 : ∀ (fu28 : Nat) (t : Nat) (ht : t ≤ 100000) (hv : jm_nx (jm_wo c.1.1 (c.1.2 i)) (100000 - a) a = jm_nx (jm_wo c.1.1 (c.1.2 i)) (100000 - t) t) (hfu28 : 100000 - t < fu28), js_W X y 5 (js_Qi X y (fun r G' => jP (mq_nextNew c (nI i) (nI a), c) r G G')) G 28 [(0, .ref (js_ad y (190))), (1, .int (nI (i))), (2, .int (nI (a))), (3, .ref (js_ad y (js_kS i))), (4, .int (nI (t)))] [] := by
    intro fu28
    induction fu28 with
    | zero => intro t ht hv hfu28; exact absurd hfu28 (Nat.not_lt_zero _)
    | succ fu28 ih28 =>
      intro t ht hv hfu28
      refine js_iload (pc := 28) 4 F rfl dX4_nextNew_28 ?_
      refine js_ldc (pc := 30) (v := nI (100000)) F (lk_X4_nextNew_constant_RX4_184_100000) dX4_nextNew_30 ?_
      refine js_icmp_geN (pc := 32) (a := t) (b := 100000) (tgt := 63) F (by omega) (by decide) dX4_nextNew_32 (by decide) (fun h32 => ?_) (fun h32 => ?_)
      · skip
        refine js_bipush (pc := 63) (v := (-6)) F (by decide) dX4_nextNew_63 ?_
        refine js_iret (pc := 65) F hr (rfl) ?_ dX4_nextNew_65
        show jP (mq_nextNew c (nI i) (nI a), c) _ _ _
        rw [show mq_nextNew c (nI i) (nI a) = jm_nx (jm_wo c.1.1 (c.1.2 i)) (100000 - a) a from by unfold mq_nextNew; rw [if_neg (jb_no hi (by decide)), if_neg (jb_no ha (by decide)), jx (by omega), jx (by omega)]]
        exact ⟨by rw [hv, show t = 100000 by omega]; rfl, hC, js_frX.rf⟩
      · skip
        refine js_aload_n (pc := 35) 3 F rfl dX4_nextNew_35 ?_
        refine js_iload (pc := 36) 4 F rfl dX4_nextNew_36 ?_
        refine js_aload_n (pc := 38) 0 F rfl dX4_nextNew_38 ?_
        refine jg_X_now (pc := 39) F in_X4_nextNew_4 (lk_X4_nextNew_fieldLink_RX4_10_JoinedSketches_now_LJoinedSketches_State) dX4_nextNew_39 ?_
        refine jgN_4_50 (pc := 42) (v := nI (c.1.1)) F in_X4_nextNew_3 (by decide) (hC.1.1) dX4_nextNew_42 ?_
        refine js_callsi (pc := 45) F (c_X4_hashOf _ hy (t := t) (s := c.1.1)) mf_X4_hashOf gX4_nextNew_X4_hashOf (by decide) rfl rfl (Nat.le_of_ble_eq_true rfl) dX4_nextNew_45 ?_
        rintro _ _ ⟨rfl, rfl⟩
        refine js_calli (pc := 48) F (c_X2_wouldChangeBy _ hy (by omega) (G := G) (B := (c.1.2 i).1) (hS.2.2.1) (by first | exact hS.2.1 | exact hS2.2.1) (rk := (c.1.2 i).2.1) (hS.2.2.2.1) (fun b hb => Nat.le_trans (hS.2.2.2.2.1 b hb) (by have := hS.1; omega)) (h := jm_hash t c.1.1) (jm_hash_lt _ _)) mf_X2_wouldChangeBy gX4_nextNew_X2_wouldChangeBy rfl (by decide) (by unfold js_kS; omega) (js_ct_S (by omega)) rfl rfl rfl (Nat.le_of_ble_eq_true rfl) dX4_nextNew_48 ?_
        rintro _ _ ⟨rfl, rfl⟩
        refine js_if_eqB (pc := 51) (tgt := 57) F dX4_nextNew_51 (by decide) (fun h51 => ?_) (fun h51 => ?_)
        · skip
          refine js_iinc (pc := 57) (v := nI (t + 1)) (lv2 := [(0, .ref (js_ad y (190))), (1, .int (nI (i))), (2, .int (nI (a))), (3, .ref (js_ad y (js_kS i))), (4, .int (nI (t + 1)))]) F dX4_nextNew_57 4 rfl (nI_add _ _) (by decide) [1, 2, 3, 4, 0] rfl ?_
          refine js_goto (pc := 60) (tgt := 28) F dX4_nextNew_60 (by decide) ?_
          exact ih28 (t + 1) (by omega) (by rw [hv, jm_nx_s (by omega), if_neg (by unfold jm_wo; simpa using h51)]) (by omega)
        · skip
          refine js_iload (pc := 54) 4 F rfl dX4_nextNew_54 ?_
          refine js_iret (pc := 56) F hr (rfl) ?_ dX4_nextNew_56
          show jP (mq_nextNew c (nI i) (nI a), c) _ _ _
          rw [show mq_nextNew c (nI i) (nI a) = jm_nx (jm_wo c.1.1 (c.1.2 i)) (100000 - a) a from by unfold mq_nextNew; rw [if_neg (jb_no hi (by decide)), if_neg (jb_no ha (by decide)), jx (by omega), jx (by omega)]]
          exact ⟨by rw [hv, jm_nx_s (by omega), if_pos (by unfold jm_wo; simpa using h51)], hC, js_frX.rf⟩
  exact L28 (_ + 1) a (by omega) (rfl) (Nat.lt_succ_self _)
theorem in_X4_bestSalt_4 : ∀ w ∈ wsX40, w ∈ wsX4_bestSalt := by decide +kernel
theorem lk_X4_bestSalt_fieldLink_RX4_10_JoinedSketches_now_LJoinedSketches_State : Cond.fieldLink RX4 10 "JoinedSketches" "now" "LJoinedSketches$State;" ∈ wsX4_bestSalt := by decide +kernel
theorem mf_X4_bestSalt : js_M yX4_bestSalt cX4_bestSalt 7 (some .int) wsX4_bestSalt 1 := ⟨⟨_, rfl⟩, by decide +kernel, by decide +kernel, by decide +kernel, by decide +kernel⟩
set_option maxHeartbeats 4000000 in
set_option maxRecDepth 100000 in
theorem c_X4_bestSalt_1 (la : Launch) {y : js_L} (hy : js_Dy y) {G : js_G} {c : js_C} (hC : jr_C G c) {x : Int32} (hx : jb x 6) : js_Ci la y yX4_bestSalt wsX4_bestSalt 7 145 [.ref (js_ad y (190)), .int (x)] G (fun r G' => jP (mq_bestSalt c x, c) r G G') := by
  refine js_ofi mf_X4_bestSalt (Nat.le_of_ble_eq_true rfl) hy (fun X F hr => ?_)
  replace F : js_F X y cX4_bestSalt 7 RX4 wsX4_bestSalt 7 145 := F
  show js_W X y 7 _ G 0 [(0, .ref (js_ad y (190))), (1, .int (x))] []
  refine js_aload_n (pc := 0) 0 F rfl dX4_bestSalt_0 ?_
  refine jg_X_now (pc := 1) F in_X4_bestSalt_4 (lk_X4_bestSalt_fieldLink_RX4_10_JoinedSketches_now_LJoinedSketches_State) dX4_bestSalt_1 ?_
  refine js_iload_n (pc := 4) 1 F rfl dX4_bestSalt_4 ?_
  refine js_callq (pc := 5) F (c_sk_bad _ hy (G := G) (x := x) hx) mf_X3_sketchAt gX4_bestSalt_X3_sketchAt rfl (by decide) (by unfold js_kA; omega) (js_ct_A (by decide)) rfl rfl rfl (Nat.le_of_ble_eq_true rfl) dX4_bestSalt_5 ?_
  rintro _ _ ⟨rfl, rfl⟩
  show js_W X y 7 (js_Qi X y (fun r G' => jP (mq_bestSalt c x, c) r G G')) G (5 + 3) [(0, .ref (js_ad y (190))), (1, .int (x))] [.null]
  refine js_astore_nN (pc := 8) (lv2 := [(0, .ref (js_ad y (190))), (1, .int (x)), (2, .null)]) F dX4_bestSalt_8 (by decide) [1, 2, 0] rfl ?_
  refine js_aload_nN (pc := 9) 2 F rfl dX4_bestSalt_9 ?_
  refine js_ifnonnullN (pc := 10) F dX4_bestSalt_10 ?_
  refine js_iconst (pc := 13) (v := (-1)) F (by decide) dX4_bestSalt_13 ?_
  refine js_iret (pc := 14) F hr (rfl) ?_ dX4_bestSalt_14
  show jP (mq_bestSalt c x, c) _ _ _
  rw [show mq_bestSalt c x = -1 from if_pos hx]
  exact ⟨rfl, hC, js_frX.rf⟩
theorem in_X4_bestSalt_2 : ∀ w ∈ wsX20, w ∈ wsX4_bestSalt := by decide +kernel
set_option maxHeartbeats 4000000 in
set_option maxRecDepth 100000 in
theorem c_X4_bestSalt_2 (la : Launch) {y : js_L} (hy : js_Dy y) {G : js_G} {c : js_C} (hC : jr_C G c) {i : Nat} (hi : i < 6) (hq : (c.1.2 i).2.2 = none)  : js_Ci la y yX4_bestSalt wsX4_bestSalt 7 145 [.ref (js_ad y (190)), .int (nI (i))] G (fun r G' => jP (mq_bestSalt c (nI i), c) r G G') := by
  have hS : jr_K G i (c.1.2 i) := hC.K hi
  have hp : 2 ^ (c.1.2 i).1 ≤ 64 := jm_p6 hS.2.1
  have hL : jr_L G i none := hq ▸ hS.2.2.2.2.2
  refine js_ofi mf_X4_bestSalt (Nat.le_of_ble_eq_true rfl) hy (fun X F hr => ?_)
  replace F : js_F X y cX4_bestSalt 7 RX4 wsX4_bestSalt 7 145 := F
  show js_W X y 7 _ G 0 [(0, .ref (js_ad y (190))), (1, .int (nI (i)))] []
  refine js_aload_n (pc := 0) 0 F rfl dX4_bestSalt_0 ?_
  refine jg_X_now (pc := 1) F in_X4_bestSalt_4 (lk_X4_bestSalt_fieldLink_RX4_10_JoinedSketches_now_LJoinedSketches_State) dX4_bestSalt_1 ?_
  refine js_iload_n (pc := 4) 1 F rfl dX4_bestSalt_4 ?_
  refine js_callq (pc := 5) F (c_sk_ok _ hy (G := G) (i := i) hi) mf_X3_sketchAt gX4_bestSalt_X3_sketchAt rfl (by decide) (by unfold js_kA; omega) (js_ct_A (by decide)) rfl rfl rfl (Nat.le_of_ble_eq_true rfl) dX4_bestSalt_5 ?_
  rintro _ _ ⟨rfl, rfl⟩
  show js_W X y 7 (js_Qi X y (fun r G' => jP (mq_bestSalt c (nI i), c) r G G')) G (5 + 3) [(0, .ref (js_ad y (190))), (1, .int (nI (i)))] [.ref (js_ad y (js_kS i))]
  refine js_astore_n (pc := 8) (lv2 := [(0, .ref (js_ad y (190))), (1, .int (nI (i))), (2, .ref (js_ad y (js_kS i)))]) F dX4_bestSalt_8 (by decide) [1, 2, 0] rfl ?_
  refine js_aload_n (pc := 9) 2 F rfl dX4_bestSalt_9 ?_
  refine js_ifnonnull (pc := 10) (tgt := 15) F dX4_bestSalt_10 (by decide) ?_
  refine js_aload_n (pc := 15) 2 F rfl dX4_bestSalt_15 ?_
  refine jgN_4_140 (pc := 16) (v := nI (1)) F in_X4_bestSalt_2 (by omega) (hL.2) dX4_bestSalt_16 ?_
  refine js_if_eqN (pc := 19) (a := 1) (tgt := 25) F (by decide) dX4_bestSalt_19 (by decide) (fun h19 => by exact absurd h19 (by decide)) (fun h19 => ?_)
  refine js_bipush (pc := 22) (v := (-5)) F (by decide) dX4_bestSalt_22 ?_
  refine js_iret (pc := 24) F hr (rfl) ?_ dX4_bestSalt_24
  show jP (mq_bestSalt c (nI i), c) _ _ _
  rw [show mq_bestSalt c (nI i) = -5 from by unfold mq_bestSalt; rw [if_neg (jb_no hi (by decide)), jx (by omega)]; unfold jm_bsK; rw [hq]]
  exact ⟨rfl, hC, js_frX.rf⟩
set_option maxHeartbeats 4000000 in
set_option maxRecDepth 100000 in
theorem c_X4_bestSalt_3 (la : Launch) {y : js_L} (hy : js_Dy y) {G : js_G} {c : js_C} (hC : jr_C G c) {i : Nat} (hi : i < 6) {l : List Nat} (hq : (c.1.2 i).2.2 = some l) : js_Ci la y yX4_bestSalt wsX4_bestSalt 7 145 [.ref (js_ad y (190)), .int (nI (i))] G (fun r G' => jP (mq_bestSalt c (nI i), c) r G G') := by
  have hS : jr_K G i (c.1.2 i) := hC.K hi
  have hp : 2 ^ (c.1.2 i).1 ≤ 64 := jm_p6 hS.2.1
  have hL : jr_L G i (some l) := hq ▸ hS.2.2.2.2.2
  have hlen := hL.2.2.1
  have hS0 : jr_S G i (c.1.2 i).1 (c.1.2 i).2.1 (some l) := hq ▸ hS
  refine js_ofi mf_X4_bestSalt (Nat.le_of_ble_eq_true rfl) hy (fun X F hr => ?_)
  replace F : js_F X y cX4_bestSalt 7 RX4 wsX4_bestSalt 7 145 := F
  show js_W X y 7 _ G 0 [(0, .ref (js_ad y (190))), (1, .int (nI (i)))] []
  refine js_aload_n (pc := 0) 0 F rfl dX4_bestSalt_0 ?_
  refine jg_X_now (pc := 1) F in_X4_bestSalt_4 (lk_X4_bestSalt_fieldLink_RX4_10_JoinedSketches_now_LJoinedSketches_State) dX4_bestSalt_1 ?_
  refine js_iload_n (pc := 4) 1 F rfl dX4_bestSalt_4 ?_
  refine js_callq (pc := 5) F (c_sk_ok _ hy (G := G) (i := i) hi) mf_X3_sketchAt gX4_bestSalt_X3_sketchAt rfl (by decide) (by unfold js_kA; omega) (js_ct_A (by decide)) rfl rfl rfl (Nat.le_of_ble_eq_true rfl) dX4_bestSalt_5 ?_
  rintro _ _ ⟨rfl, rfl⟩
  show js_W X y 7 (js_Qi X y (fun r G' => jP (mq_bestSalt c (nI i), c) r G G')) G (5 + 3) [(0, .ref (js_ad y (190))), (1, .int (nI (i)))] [.ref (js_ad y (js_kS i))]
  refine js_astore_n (pc := 8) (lv2 := [(0, .ref (js_ad y (190))), (1, .int (nI (i))), (2, .ref (js_ad y (js_kS i)))]) F dX4_bestSalt_8 (by decide) [1, 2, 0] rfl ?_
  refine js_aload_n (pc := 9) 2 F rfl dX4_bestSalt_9 ?_
  refine js_ifnonnull (pc := 10) (tgt := 15) F dX4_bestSalt_10 (by decide) ?_
  refine js_aload_n (pc := 15) 2 F rfl dX4_bestSalt_15 ?_
  refine jgN_4_140 (pc := 16) (v := nI (0)) F in_X4_bestSalt_2 (by omega) (hL.2.1) dX4_bestSalt_16 ?_
  refine js_if_eqN (pc := 19) (a := 0) (tgt := 25) F (by decide) dX4_bestSalt_19 (by decide) (fun h19 => ?_) (fun h19 => by exact absurd rfl h19)
  refine js_iconst (pc := 25) (v := nI (0)) F (by decide) dX4_bestSalt_25 ?_
  refine js_istore_n (pc := 26) (lv2 := [(0, .ref (js_ad y (190))), (1, .int (nI (i))), (2, .ref (js_ad y (js_kS i))), (3, .int (nI (0)))]) F dX4_bestSalt_26 (by decide) [1, 2, 3, 0] rfl ?_
  refine js_aload_n (pc := 27) 0 F rfl dX4_bestSalt_27 ?_
  refine js_aload_n (pc := 28) 2 F rfl dX4_bestSalt_28 ?_
  refine js_iconst (pc := 29) (v := nI (0)) F (by decide) dX4_bestSalt_29 ?_
  refine js_calli (pc := 30) F (c_X4_distanceBySalt _ hy (j := i) (by omega) (G := G) (s := 0) (B := (c.1.2 i).1) (rk := (c.1.2 i).2.1) (hS0)) mf_X4_distanceBySalt gX4_bestSalt_X4_distanceBySalt rfl (by decide) (by decide) (js_ct_X) rfl rfl rfl (Nat.le_of_ble_eq_true rfl) dX4_bestSalt_30 ?_
  rintro _ G2 ⟨rfl, p1⟩
  refine js_istore (pc := 33) (lv2 := [(0, .ref (js_ad y (190))), (1, .int (nI (i))), (2, .ref (js_ad y (js_kS i))), (3, .int (nI (0))), (4, .int (nI (jm_dist (0) (c.1.2 i).1 l)))]) F dX4_bestSalt_33 (by decide) [1, 2, 3, 4, 0] rfl ?_
  refine js_iconst (pc := 35) (v := nI (1)) F (by decide) dX4_bestSalt_35 ?_
  refine js_istore (pc := 36) (lv2 := [(0, .ref (js_ad y (190))), (1, .int (nI (i))), (2, .ref (js_ad y (js_kS i))), (3, .int (nI (0))), (4, .int (nI (jm_dist (0) (c.1.2 i).1 l))), (5, .int (nI (1)))]) F dX4_bestSalt_36 (by decide) [1, 2, 3, 4, 5, 0] rfl ?_
  have L38 : ∀ (fu38 : Nat) (k : Nat) (b : Nat) (m : Nat) (G1 : js_G) (hk : k ≤ 255) (hb : b = jm_bs (fun s => jm_dist s (c.1.2 i).1 l) k) (hm : m = jm_dist b (c.1.2 i).1 l) (hf : js_fr 54 G G1) (hfu38 : 255 - k < fu38), js_W X y 7 (js_Qi X y (fun r G' => jP (mq_bestSalt c (nI i), c) r G G')) G1 38 [(0, .ref (js_ad y (190))), (1, .int (nI (i))), (2, .ref (js_ad y (js_kS i))), (3, .int (nI (b))), (4, .int (nI (m))), (5, .int (nI (k + 1)))] [] := by
    intro fu38
    induction fu38 with
    | zero => intro k b m G1 hk hb hm hf hfu38; exact absurd hfu38 (Nat.not_lt_zero _)
    | succ fu38 ih38 =>
      intro k b m G1 hk hb hm hf hfu38
      refine js_iload (pc := 38) 5 F rfl dX4_bestSalt_38 ?_
      refine js_sipush (pc := 40) (v := nI (256)) F (by decide) dX4_bestSalt_40 ?_
      refine js_icmp_geN (pc := 43) (a := k + 1) (b := 256) (tgt := 75) F (by omega) (by decide) dX4_bestSalt_43 (by decide) (fun h43 => ?_) (fun h43 => ?_)
      · skip
        refine js_iload_n (pc := 75) 3 F rfl dX4_bestSalt_75 ?_
        refine js_iret (pc := 76) F hr (rfl) ?_ dX4_bestSalt_76
        show jP (mq_bestSalt c (nI i), c) _ _ _
        rw [show mq_bestSalt c (nI i) = nI (jm_bs (fun s => jm_dist s (c.1.2 i).1 l) 255) from by unfold mq_bestSalt; rw [if_neg (jb_no hi (by decide)), jx (by omega)]; unfold jm_bsK; rw [hq]]
        exact ⟨by rw [hb, show k = 255 by omega], hC.tri hf, js_frX.of54 hf⟩
      · skip
        refine js_aload_n (pc := 46) 0 F rfl dX4_bestSalt_46 ?_
        refine js_aload_n (pc := 47) 2 F rfl dX4_bestSalt_47 ?_
        refine js_iload (pc := 48) 5 F rfl dX4_bestSalt_48 ?_
        refine js_calli (pc := 50) F (c_X4_distanceBySalt _ hy (j := i) (by omega) (G := G1) (s := k + 1) (B := (c.1.2 i).1) (rk := (c.1.2 i).2.1) (hS0.fr hf (by omega))) mf_X4_distanceBySalt gX4_bestSalt_X4_distanceBySalt rfl (by decide) (by decide) (js_ct_X) rfl rfl rfl (Nat.le_of_ble_eq_true rfl) dX4_bestSalt_50 ?_
        rintro _ G2 ⟨rfl, p1⟩
        refine js_istore (pc := 53) (lv2 := [(0, .ref (js_ad y (190))), (1, .int (nI (i))), (2, .ref (js_ad y (js_kS i))), (3, .int (nI (b))), (4, .int (nI (m))), (5, .int (nI (k + 1))), (6, .int (nI (jm_dist (k + 1) (c.1.2 i).1 l)))]) F dX4_bestSalt_53 (by decide) [1, 2, 3, 4, 5, 6, 0] rfl ?_
        refine js_iload (pc := 55) 6 F rfl dX4_bestSalt_55 ?_
        refine js_iload (pc := 57) 4 F rfl dX4_bestSalt_57 ?_
        have hd1 := jm_dist_lt (s := k + 1) hS.1 hS.2.1 hlen
        have hd2 := jm_dist_lt (s := b) hS.1 hS.2.1 hlen
        refine js_icmp_geN (pc := 59) (a := jm_dist (k + 1) (c.1.2 i).1 l) (b := m) (tgt := 69) F (by omega) (by omega) dX4_bestSalt_59 (by decide) (fun h59 => ?_) (fun h59 => ?_)
        · skip
          refine js_iinc (pc := 69) (v := nI ((k + 1) + 1)) (lv2 := [(0, .ref (js_ad y (190))), (1, .int (nI (i))), (2, .ref (js_ad y (js_kS i))), (3, .int (nI (b))), (4, .int (nI (m))), (5, .int (nI ((k + 1) + 1))), (6, .int (nI (jm_dist (k + 1) (c.1.2 i).1 l)))]) F dX4_bestSalt_69 5 rfl (nI_add _ _) (by decide) [1, 2, 3, 4, 5, 0, 6] rfl ?_
          refine js_goto (pc := 72) (tgt := 38) F dX4_bestSalt_72 (by decide) ?_
          refine js_sub (lv2 := [(0, .ref (js_ad y (190))), (1, .int (nI (i))), (2, .ref (js_ad y (js_kS i))), (3, .int (nI (b))), (4, .int (nI (m))), (5, .int (nI ((k + 1) + 1)))]) [0, 1, 2, 3, 4, 5] rfl ?_
          exact ih38 (k + 1) b m G2 (by omega) (by simp only [jm_bs]; rw [← hb]; show _ = (if jm_dist (k + 1) (c.1.2 i).1 l < jm_dist b (c.1.2 i).1 l then _ else _); rw [← hm]; first | rw [if_pos h59] | rw [if_neg (by omega)]) (by first | rfl | exact hm) (hf.tr p1) (by omega)
        · skip
          refine js_iload (pc := 62) 6 F rfl dX4_bestSalt_62 ?_
          refine js_istore (pc := 64) (lv2 := [(0, .ref (js_ad y (190))), (1, .int (nI (i))), (2, .ref (js_ad y (js_kS i))), (3, .int (nI (b))), (4, .int (nI (jm_dist (k + 1) (c.1.2 i).1 l))), (5, .int (nI (k + 1))), (6, .int (nI (jm_dist (k + 1) (c.1.2 i).1 l)))]) F dX4_bestSalt_64 (by decide) [1, 2, 3, 4, 0, 5, 6] rfl ?_
          refine js_iload (pc := 66) 5 F rfl dX4_bestSalt_66 ?_
          refine js_istore_n (pc := 68) (lv2 := [(0, .ref (js_ad y (190))), (1, .int (nI (i))), (2, .ref (js_ad y (js_kS i))), (3, .int (nI (k + 1))), (4, .int (nI (jm_dist (k + 1) (c.1.2 i).1 l))), (5, .int (nI (k + 1))), (6, .int (nI (jm_dist (k + 1) (c.1.2 i).1 l)))]) F dX4_bestSalt_68 (by decide) [1, 2, 3, 0, 4, 5, 6] rfl ?_
          refine js_iinc (pc := 69) (v := nI ((k + 1) + 1)) (lv2 := [(0, .ref (js_ad y (190))), (1, .int (nI (i))), (2, .ref (js_ad y (js_kS i))), (3, .int (nI (k + 1))), (4, .int (nI (jm_dist (k + 1) (c.1.2 i).1 l))), (5, .int (nI ((k + 1) + 1))), (6, .int (nI (jm_dist (k + 1) (c.1.2 i).1 l)))]) F dX4_bestSalt_69 5 rfl (nI_add _ _) (by decide) [1, 2, 3, 4, 5, 0, 6] rfl ?_
          refine js_goto (pc := 72) (tgt := 38) F dX4_bestSalt_72 (by decide) ?_
          refine js_sub (lv2 := [(0, .ref (js_ad y (190))), (1, .int (nI (i))), (2, .ref (js_ad y (js_kS i))), (3, .int (nI (k + 1))), (4, .int (nI (jm_dist (k + 1) (c.1.2 i).1 l))), (5, .int (nI ((k + 1) + 1)))]) [0, 1, 2, 3, 4, 5] rfl ?_
          exact ih38 (k + 1) (k + 1) (jm_dist (k + 1) (c.1.2 i).1 l) G2 (by omega) (by simp only [jm_bs]; rw [← hb]; show _ = (if jm_dist (k + 1) (c.1.2 i).1 l < jm_dist b (c.1.2 i).1 l then _ else _); rw [← hm]; first | rw [if_pos h59] | rw [if_neg (by omega)]) (by first | rfl | exact hm) (hf.tr p1) (by omega)
  exact L38 (_ + 1) 0 0 (jm_dist (0) (c.1.2 i).1 l) G2 (Nat.zero_le _) (rfl) (rfl) (p1) (Nat.lt_succ_self _)
theorem in_X4_undo_0 : ∀ w ∈ wsX00, w ∈ wsX4_undo := by decide +kernel
theorem in_X4_undo_4 : ∀ w ∈ wsX40, w ∈ wsX4_undo := by decide +kernel
theorem lk_X4_undo_fieldLink_RX4_19_JoinedSketches_history_LJoinedSketches_History : Cond.fieldLink RX4 19 "JoinedSketches" "history" "LJoinedSketches$History;" ∈ wsX4_undo := by decide +kernel
theorem mf_X4_undo : js_M yX4_undo cX4_undo 1 (some .int) wsX4_undo 0 := ⟨⟨_, rfl⟩, by decide +kernel, by decide +kernel, by decide +kernel, by decide +kernel⟩
set_option maxHeartbeats 4000000 in
set_option maxRecDepth 100000 in
theorem c_X4_undo_1 (la : Launch) {y : js_L} (hy : js_Dy y) {G : js_G} {s0 : js_T} {vp : (Nat → Option js_T) × List Nat} (hC : jr_C G (s0, [], vp)) : js_Ci la y yX4_undo wsX4_undo 5 122 [.ref (js_ad y (190))] G (fun r G' => jP (ms_undo (s0, [], vp)) r G G') := by
  have hlh : G 183 2 = nI 0 := by obtain ⟨o, _, _, e, _⟩ := hC.2.1; exact e
  refine js_ofi mf_X4_undo (Nat.le_of_ble_eq_true rfl) hy (fun X F hr => ?_)
  replace F : js_F X y cX4_undo 1 RX4 wsX4_undo 5 122 := F
  show js_W X y 1 _ G 0 [(0, .ref (js_ad y (190)))] []
  refine js_aload_n (pc := 0) 0 F rfl dX4_undo_0 ?_
  refine jg_X_history (pc := 1) F in_X4_undo_4 (lk_X4_undo_fieldLink_RX4_19_JoinedSketches_history_LJoinedSketches_History) dX4_undo_1 ?_
  refine jgN_4_171 (pc := 4) (v := nI (0)) F in_X4_undo_0 (hlh) dX4_undo_4 ?_
  refine js_if_neN (pc := 7) (a := 0) (tgt := 13) F (by decide) dX4_undo_7 (by decide) (fun h7 => by exact absurd rfl h7) (fun h7 => ?_)
  refine js_bipush (pc := 10) (v := (-5)) F (by decide) dX4_undo_10 ?_
  refine js_iret (pc := 12) F hr (rfl) ?_ dX4_undo_12
  exact ⟨rfl, hC, js_frX.rf⟩
theorem lk_X4_undo_fieldLink_RX4_10_JoinedSketches_now_LJoinedSketches_State : Cond.fieldLink RX4 10 "JoinedSketches" "now" "LJoinedSketches$State;" ∈ wsX4_undo := by decide +kernel
set_option maxHeartbeats 4000000 in
set_option maxRecDepth 100000 in
theorem c_X4_undo_2 (la : Launch) {y : js_L} (hy : js_Dy y) {G : js_G} {s0 : js_T} {vp : (Nat → Option js_T) × List Nat} {h : List js_T} {s : js_T} (hC : jr_C G (s0, h ++ [s], vp)) : js_Ci la y yX4_undo wsX4_undo 5 122 [.ref (js_ad y (190))] G (fun r G' => jP (ms_undo (s0, h ++ [s], vp)) r G G') := by
  have hlh : G 183 2 = nI (h.length + 1) := by obtain ⟨o, _, _, e, _⟩ := hC.2.1; rw [e]; simp
  have hl6 : h.length + 1 ≤ 6 := by obtain ⟨o, _, _, _, e, _⟩ := hC.2.1; simpa using e
  refine js_ofi mf_X4_undo (Nat.le_of_ble_eq_true rfl) hy (fun X F hr => ?_)
  replace F : js_F X y cX4_undo 1 RX4 wsX4_undo 5 122 := F
  show js_W X y 1 _ G 0 [(0, .ref (js_ad y (190)))] []
  refine js_aload_n (pc := 0) 0 F rfl dX4_undo_0 ?_
  refine jg_X_history (pc := 1) F in_X4_undo_4 (lk_X4_undo_fieldLink_RX4_19_JoinedSketches_history_LJoinedSketches_History) dX4_undo_1 ?_
  refine jgN_4_171 (pc := 4) (v := nI (h.length + 1)) F in_X4_undo_0 (hlh) dX4_undo_4 ?_
  refine js_if_neN (pc := 7) (a := h.length + 1) (tgt := 13) F (by omega) dX4_undo_7 (by decide) (fun h7 => ?_) (fun h7 => by exact absurd h7 (by omega))
  refine js_aload_n (pc := 13) 0 F rfl dX4_undo_13 ?_
  refine jg_X_history (pc := 14) F in_X4_undo_4 (lk_X4_undo_fieldLink_RX4_19_JoinedSketches_history_LJoinedSketches_History) dX4_undo_14 ?_
  refine js_aload_n (pc := 17) 0 F rfl dX4_undo_17 ?_
  refine jg_X_now (pc := 18) F in_X4_undo_4 (lk_X4_undo_fieldLink_RX4_10_JoinedSketches_now_LJoinedSketches_State) dX4_undo_18 ?_
  refine js_callv (pc := 21) F (c_X0_takeBack _ hy (G := G) (h := h) (s0 := s) hC.2.1) mf_X0_takeBack gX4_undo_X0_takeBack rfl (by decide) (by decide) (js_ct_H) rfl rfl rfl (Nat.le_of_ble_eq_true rfl) dX4_undo_21 ?_
  rintro G2 ⟨p1, p2, p3⟩
  have hlh2 : G2 183 2 = nI h.length := by obtain ⟨o, _, _, e, _⟩ := p2; exact e
  refine js_aload_n (pc := 24) 0 F rfl dX4_undo_24 ?_
  refine jg_X_history (pc := 25) F in_X4_undo_4 (lk_X4_undo_fieldLink_RX4_19_JoinedSketches_history_LJoinedSketches_History) dX4_undo_25 ?_
  refine jgN_4_171 (pc := 28) (v := nI (h.length)) F in_X4_undo_0 (hlh2) dX4_undo_28 ?_
  refine js_iret (pc := 31) F hr (rfl) ?_ dX4_undo_31
  show jP (ms_undo (s0, h ++ [s], vp)) _ _ _
  rw [show ms_undo (s0, h ++ [s], vp) = (nI h.length, (s, h, vp)) from by simp [ms_undo]]
  have hT : ∀ u s, 1 ≤ u → u < 3 → jr_T G u s → jr_T G2 u s := fun u s h1 h2 ⟨a, b, d⟩ => ⟨by rw [p3 _ (by unfold js_kA; omega) (by unfold js_kA; omega) (by unfold js_kA; omega)]; exact a, b, fun i hi => (d i hi).co (p3 _ (by unfold js_kS; omega) (by unfold js_kS js_kA; omega) (by unfold js_kS; omega)) (p3 _ (by unfold js_kR; omega) (by unfold js_kR js_kA; omega) (by unfold js_kR; omega)) (p3 _ (by unfold js_kT; omega) (by unfold js_kT js_kA; omega) (by unfold js_kT; omega))⟩
  exact ⟨rfl, ⟨p1, p2, fun i hi => ⟨by rw [p3 186 (by decide) (by decide) (by decide)]; exact (hC.2.2.1 i hi).1, fun z hz => hT _ _ (by omega) (by omega) ((hC.2.2.1 i hi).2 z hz)⟩, hC.2.2.2.co (by rw [p3 187 (by decide) (by decide) (by decide)]) (p3 188 (by decide) (by decide) (by decide))⟩, fun a ha => p3 a (by omega) (by unfold js_kA; omega) (by omega)⟩
theorem mf_X4_save : js_M yX4_save cX4_save 2 (some .int) wsX4_save 1 := ⟨⟨_, rfl⟩, by decide +kernel, by decide +kernel, by decide +kernel, by decide +kernel⟩
set_option maxHeartbeats 4000000 in
set_option maxRecDepth 100000 in
theorem c_X4_save_1 (la : Launch) {y : js_L} (hy : js_Dy y) {G : js_G} {c : js_C} (hC : jr_C G c) {x : Int32} (hx : jb x 2) : js_Ci la y yX4_save wsX4_save 5 101 [.ref (js_ad y (190)), .int (x)] G (fun r G' => jP (ms_save c x) r G G') := by
  refine js_ofi mf_X4_save (Nat.le_of_ble_eq_true rfl) hy (fun X F hr => ?_)
  replace F : js_F X y cX4_save 2 RX4 wsX4_save 5 101 := F
  show js_W X y 2 _ G 0 [(0, .ref (js_ad y (190))), (1, .int (x))] []
  refine js_iload_n (pc := 0) 1 F rfl dX4_save_0 ?_
  refine js_if_lt (pc := 1) (tgt := 9) F dX4_save_1 (by decide) (fun h1 => ?_) (fun h1 => ?_)
  · skip
    refine js_bipush (pc := 9) (v := (-2)) F (by decide) dX4_save_9 ?_
    refine js_iret (pc := 11) F hr (rfl) ?_ dX4_save_11
    show jP (ms_save c x) _ _ _
    rw [show ms_save c x = (-2, c) from if_pos hx]
    exact ⟨rfl, hC, js_frX.rf⟩
  · skip
    refine js_iload_n (pc := 4) 1 F rfl dX4_save_4 ?_
    refine js_iconst (pc := 5) (v := nI (2)) F (by decide) dX4_save_5 ?_
    refine js_icmp_lt (pc := 6) (tgt := 12) F dX4_save_6 (by decide) (fun h6 => by exact absurd h6 (fun q => by have a := jb_sw (n := 2) (by decide) hx; have d := Int32.lt_iff_toInt_lt.mp q; have e : ¬ x.toInt < 0 := fun z => h1 (Int32.lt_iff_toInt_lt.mpr z); have g : (nI 2).toInt = 2 := rfl; omega)) (fun h6 => ?_)
    refine js_bipush (pc := 9) (v := (-2)) F (by decide) dX4_save_9 ?_
    refine js_iret (pc := 11) F hr (rfl) ?_ dX4_save_11
    show jP (ms_save c x) _ _ _
    rw [show ms_save c x = (-2, c) from if_pos hx]
    exact ⟨rfl, hC, js_frX.rf⟩
theorem in_X4_save_4 : ∀ w ∈ wsX40, w ∈ wsX4_save := by decide +kernel
theorem lk_X4_save_fieldLink_RX4_10_JoinedSketches_now_LJoinedSketches_State : Cond.fieldLink RX4 10 "JoinedSketches" "now" "LJoinedSketches$State;" ∈ wsX4_save := by decide +kernel
theorem lk_X4_save_fieldLink_RX4_23_JoinedSketches_slots_LJoinedSketches_State : Cond.fieldLink RX4 23 "JoinedSketches" "slots" "[LJoinedSketches$State;" ∈ wsX4_save := by decide +kernel
theorem lk_X4_save_fieldLink_RX4_27_JoinedSketches_saved_Z : Cond.fieldLink RX4 27 "JoinedSketches" "saved" "[Z" ∈ wsX4_save := by decide +kernel
set_option maxHeartbeats 4000000 in
set_option maxRecDepth 100000 in
theorem c_X4_save_2 (la : Launch) {y : js_L} (hy : js_Dy y) {G : js_G} {c : js_C} (hC : jr_C G c) {i : Nat} (hi : i < 2) : js_Ci la y yX4_save wsX4_save 5 101 [.ref (js_ad y (190)), .int (nI (i))] G (fun r G' => jP (ms_save c (nI i)) r G G') := by
  refine js_ofi mf_X4_save (Nat.le_of_ble_eq_true rfl) hy (fun X F hr => ?_)
  replace F : js_F X y cX4_save 2 RX4 wsX4_save 5 101 := F
  show js_W X y 2 _ G 0 [(0, .ref (js_ad y (190))), (1, .int (nI (i)))] []
  refine js_iload_n (pc := 0) 1 F rfl dX4_save_0 ?_
  refine js_if_ltN (pc := 1) (a := i) (tgt := 9) F (by omega) dX4_save_1 (by decide) (fun h1 => by exact absurd h1 (Nat.not_lt_zero _)) (fun h1 => ?_)
  refine js_iload_n (pc := 4) 1 F rfl dX4_save_4 ?_
  refine js_iconst (pc := 5) (v := nI (2)) F (by decide) dX4_save_5 ?_
  refine js_icmp_ltN (pc := 6) (a := i) (b := 2) (tgt := 12) F (by omega) (by decide) dX4_save_6 (by decide) (fun h6 => ?_) (fun h6 => by exfalso; omega)
  refine js_aload_n (pc := 12) 0 F rfl dX4_save_12 ?_
  refine jg_X_slots (pc := 13) F in_X4_save_4 (lk_X4_save_fieldLink_RX4_23_JoinedSketches_slots_LJoinedSketches_State) dX4_save_13 ?_
  refine js_iload_n (pc := 16) 1 F rfl dX4_save_16 ?_
  refine js_aldq (pc := 17) (j := i) (t0 := 4) F (by decide) (js_ct_Sl) rfl rfl (by omega) (by decide) dX4_save_17 ?_
  refine js_aload_n (pc := 18) 0 F rfl dX4_save_18 ?_
  refine jg_X_now (pc := 19) F in_X4_save_4 (lk_X4_save_fieldLink_RX4_10_JoinedSketches_now_LJoinedSketches_State) dX4_save_19 ?_
  refine js_callv (pc := 22) F (c_X3_copyFrom _ hy (t := 1 + i) (by omega) (G := G) (u := 0) (by decide) (by omega) hC.1) mf_X3_copyFrom gX4_save_X3_copyFrom rfl (by decide) (by unfold js_kA; omega) (js_ct_A (by omega)) rfl rfl rfl (Nat.le_of_ble_eq_true rfl) dX4_save_22 ?_
  rintro G1 ⟨p1, p2⟩
  refine js_aload_n (pc := 25) 0 F rfl dX4_save_25 ?_
  refine jg_X_saved (pc := 26) F in_X4_save_4 (lk_X4_save_fieldLink_RX4_27_JoinedSketches_saved_Z) dX4_save_26 ?_
  refine js_iload_n (pc := 29) 1 F rfl dX4_save_29 ?_
  refine js_iconst (pc := 30) (v := nI (1)) F (by decide) dX4_save_30 ?_
  refine js_zast (pc := 31) (j := i) F (by decide) (fun _ => js_ct_Sv) rfl (by omega) (by decide) (rfl) dX4_save_31 ?_
  obtain ⟨G2, hG2⟩ : ∃ G2, G2 = js_st G1 (186) (i) (nI (1)) := ⟨_, rfl⟩
  rw [← hG2]
  have hC2 : jr_C G2 (c.1, c.2.1, (fun k => if k = i then some c.1 else c.2.2.1 k), c.2.2.2) := by
    rw [hG2]; exact jr_C.save hC hi p1 p2
  have hX2 : js_frX G G2 := (js_frX.ofT p2 (by omega)).tr (by rw [hG2]; exact js_frX.st (by decide))
  refine js_aload_n (pc := 32) 0 F rfl dX4_save_32 ?_
  refine jg_X_now (pc := 33) F in_X4_save_4 (lk_X4_save_fieldLink_RX4_10_JoinedSketches_now_LJoinedSketches_State) dX4_save_33 ?_
  refine js_calli (pc := 36) F (c_X3_filledBuckets _ hy (t := 0) (by decide) (G := G2) (hC2.1)) mf_X3_filledBuckets gX4_save_X3_filledBuckets rfl (by decide) (by unfold js_kA; omega) (js_ct_A (by decide)) rfl rfl rfl (Nat.le_of_ble_eq_true rfl) dX4_save_36 ?_
  rintro _ _ ⟨rfl, rfl⟩
  refine js_iret (pc := 39) F hr (rfl) ?_ dX4_save_39
  show jP (ms_save c (nI i)) _ _ _
  rw [show ms_save c (nI i) = (nI (jm_aF c.1), (c.1, c.2.1, (fun k => if k = i then some c.1 else c.2.2.1 k), c.2.2.2)) from by unfold ms_save; rw [if_neg (jb_no hi (by decide)), jx (by omega)]]
  exact ⟨rfl, hC2, hX2⟩
theorem mf_X4_restore : js_M yX4_restore cX4_restore 2 (some .int) wsX4_restore 1 := ⟨⟨_, rfl⟩, by decide +kernel, by decide +kernel, by decide +kernel, by decide +kernel⟩
set_option maxHeartbeats 4000000 in
set_option maxRecDepth 100000 in
theorem c_X4_restore_1 (la : Launch) {y : js_L} (hy : js_Dy y) {G : js_G} {c : js_C} (hC : jr_C G c) {x : Int32} (hx : jb x 2) : js_Ci la y yX4_restore wsX4_restore 5 122 [.ref (js_ad y (190)), .int (x)] G (fun r G' => jP (ms_restore c x) r G G') := by
  refine js_ofi mf_X4_restore (Nat.le_of_ble_eq_true rfl) hy (fun X F hr => ?_)
  replace F : js_F X y cX4_restore 2 RX4 wsX4_restore 5 122 := F
  show js_W X y 2 _ G 0 [(0, .ref (js_ad y (190))), (1, .int (x))] []
  refine js_iload_n (pc := 0) 1 F rfl dX4_restore_0 ?_
  refine js_if_lt (pc := 1) (tgt := 9) F dX4_restore_1 (by decide) (fun h1 => ?_) (fun h1 => ?_)
  · skip
    refine js_bipush (pc := 9) (v := (-2)) F (by decide) dX4_restore_9 ?_
    refine js_iret (pc := 11) F hr (rfl) ?_ dX4_restore_11
    show jP (ms_restore c x) _ _ _
    rw [show ms_restore c x = (-2, c) from if_pos hx]
    exact ⟨rfl, hC, js_frX.rf⟩
  · skip
    refine js_iload_n (pc := 4) 1 F rfl dX4_restore_4 ?_
    refine js_iconst (pc := 5) (v := nI (2)) F (by decide) dX4_restore_5 ?_
    refine js_icmp_lt (pc := 6) (tgt := 12) F dX4_restore_6 (by decide) (fun h6 => by exact absurd h6 (fun q => by have a := jb_sw (n := 2) (by decide) hx; have d := Int32.lt_iff_toInt_lt.mp q; have e : ¬ x.toInt < 0 := fun z => h1 (Int32.lt_iff_toInt_lt.mpr z); have g : (nI 2).toInt = 2 := rfl; omega)) (fun h6 => ?_)
    refine js_bipush (pc := 9) (v := (-2)) F (by decide) dX4_restore_9 ?_
    refine js_iret (pc := 11) F hr (rfl) ?_ dX4_restore_11
    show jP (ms_restore c x) _ _ _
    rw [show ms_restore c x = (-2, c) from if_pos hx]
    exact ⟨rfl, hC, js_frX.rf⟩
theorem in_X4_restore_4 : ∀ w ∈ wsX40, w ∈ wsX4_restore := by decide +kernel
theorem lk_X4_restore_fieldLink_RX4_27_JoinedSketches_saved_Z : Cond.fieldLink RX4 27 "JoinedSketches" "saved" "[Z" ∈ wsX4_restore := by decide +kernel
set_option maxHeartbeats 4000000 in
set_option maxRecDepth 100000 in
theorem c_X4_restore_2 (la : Launch) {y : js_L} (hy : js_Dy y) {G : js_G} {c : js_C} (hC : jr_C G c) {i : Nat} (hi : i < 2) (hv : c.2.2.1 i = none) : js_Ci la y yX4_restore wsX4_restore 5 122 [.ref (js_ad y (190)), .int (nI (i))] G (fun r G' => jP (ms_restore c (nI i)) r G G') := by
  refine js_ofi mf_X4_restore (Nat.le_of_ble_eq_true rfl) hy (fun X F hr => ?_)
  replace F : js_F X y cX4_restore 2 RX4 wsX4_restore 5 122 := F
  show js_W X y 2 _ G 0 [(0, .ref (js_ad y (190))), (1, .int (nI (i)))] []
  refine js_iload_n (pc := 0) 1 F rfl dX4_restore_0 ?_
  refine js_if_ltN (pc := 1) (a := i) (tgt := 9) F (by omega) dX4_restore_1 (by decide) (fun h1 => by exact absurd h1 (Nat.not_lt_zero _)) (fun h1 => ?_)
  refine js_iload_n (pc := 4) 1 F rfl dX4_restore_4 ?_
  refine js_iconst (pc := 5) (v := nI (2)) F (by decide) dX4_restore_5 ?_
  refine js_icmp_ltN (pc := 6) (a := i) (b := 2) (tgt := 12) F (by omega) (by decide) dX4_restore_6 (by decide) (fun h6 => ?_) (fun h6 => by exfalso; omega)
  refine js_aload_n (pc := 12) 0 F rfl dX4_restore_12 ?_
  refine jg_X_saved (pc := 13) F in_X4_restore_4 (lk_X4_restore_fieldLink_RX4_27_JoinedSketches_saved_Z) dX4_restore_13 ?_
  refine js_iload_n (pc := 16) 1 F rfl dX4_restore_16 ?_
  refine js_zald (pc := 17) (j := i) (v := nI (0)) F (by decide) (js_ct_Sv) rfl (by omega) (by decide) (by rw [(hC.2.2.1 i hi).1, if_pos hv]) dX4_restore_17 ?_
  refine js_if_neN (pc := 18) (a := 0) (tgt := 24) F (by decide) dX4_restore_18 (by decide) (fun h18 => by exact absurd rfl h18) (fun h18 => ?_)
  refine js_bipush (pc := 21) (v := (-5)) F (by decide) dX4_restore_21 ?_
  refine js_iret (pc := 23) F hr (rfl) ?_ dX4_restore_23
  show jP (ms_restore c (nI i)) _ _ _
  rw [show ms_restore c (nI i) = (-5, c) from by unfold ms_restore; rw [if_neg (jb_no hi (by decide)), jx (by omega), hv]]
  exact ⟨rfl, hC, js_frX.rf⟩
theorem lk_X4_restore_fieldLink_RX4_10_JoinedSketches_now_LJoinedSketches_State : Cond.fieldLink RX4 10 "JoinedSketches" "now" "LJoinedSketches$State;" ∈ wsX4_restore := by decide +kernel
theorem lk_X4_restore_fieldLink_RX4_19_JoinedSketches_history_LJoinedSketches_History : Cond.fieldLink RX4 19 "JoinedSketches" "history" "LJoinedSketches$History;" ∈ wsX4_restore := by decide +kernel
theorem lk_X4_restore_fieldLink_RX4_23_JoinedSketches_slots_LJoinedSketches_State : Cond.fieldLink RX4 23 "JoinedSketches" "slots" "[LJoinedSketches$State;" ∈ wsX4_restore := by decide +kernel
set_option maxHeartbeats 4000000 in
set_option maxRecDepth 100000 in
theorem c_X4_restore_3 (la : Launch) {y : js_L} (hy : js_Dy y) {G : js_G} {c : js_C} (hC : jr_C G c) {i : Nat} (hi : i < 2) {s : js_T} (hv : c.2.2.1 i = some s) : js_Ci la y yX4_restore wsX4_restore 5 122 [.ref (js_ad y (190)), .int (nI (i))] G (fun r G' => jP (ms_restore c (nI i)) r G G') := by
  refine js_ofi mf_X4_restore (Nat.le_of_ble_eq_true rfl) hy (fun X F hr => ?_)
  replace F : js_F X y cX4_restore 2 RX4 wsX4_restore 5 122 := F
  show js_W X y 2 _ G 0 [(0, .ref (js_ad y (190))), (1, .int (nI (i)))] []
  refine js_iload_n (pc := 0) 1 F rfl dX4_restore_0 ?_
  refine js_if_ltN (pc := 1) (a := i) (tgt := 9) F (by omega) dX4_restore_1 (by decide) (fun h1 => by exact absurd h1 (Nat.not_lt_zero _)) (fun h1 => ?_)
  refine js_iload_n (pc := 4) 1 F rfl dX4_restore_4 ?_
  refine js_iconst (pc := 5) (v := nI (2)) F (by decide) dX4_restore_5 ?_
  refine js_icmp_ltN (pc := 6) (a := i) (b := 2) (tgt := 12) F (by omega) (by decide) dX4_restore_6 (by decide) (fun h6 => ?_) (fun h6 => by exfalso; omega)
  refine js_aload_n (pc := 12) 0 F rfl dX4_restore_12 ?_
  refine jg_X_saved (pc := 13) F in_X4_restore_4 (lk_X4_restore_fieldLink_RX4_27_JoinedSketches_saved_Z) dX4_restore_13 ?_
  refine js_iload_n (pc := 16) 1 F rfl dX4_restore_16 ?_
  refine js_zald (pc := 17) (j := i) (v := nI (1)) F (by decide) (js_ct_Sv) rfl (by omega) (by decide) (by rw [(hC.2.2.1 i hi).1, if_neg (by rw [hv]; simp)]) dX4_restore_17 ?_
  refine js_if_neN (pc := 18) (a := 1) (tgt := 24) F (by decide) dX4_restore_18 (by decide) (fun h18 => ?_) (fun h18 => by exact absurd h18 (by decide))
  refine js_aload_n (pc := 24) 0 F rfl dX4_restore_24 ?_
  refine jg_X_history (pc := 25) F in_X4_restore_4 (lk_X4_restore_fieldLink_RX4_19_JoinedSketches_history_LJoinedSketches_History) dX4_restore_25 ?_
  refine js_aload_n (pc := 28) 0 F rfl dX4_restore_28 ?_
  refine jg_X_now (pc := 29) F in_X4_restore_4 (lk_X4_restore_fieldLink_RX4_10_JoinedSketches_now_LJoinedSketches_State) dX4_restore_29 ?_
  refine js_callv (pc := 32) F (c_X0_record _ hy (h := c.2.1) hC.2.1 hC.1) mf_X0_record gX4_restore_X0_record rfl (by decide) (by decide) (js_ct_H) rfl rfl rfl (Nat.le_of_ble_eq_true rfl) dX4_restore_32 ?_
  rintro G1 ⟨q1, q2⟩
  have hC1 := hC.rec q1 q2
  refine js_aload_n (pc := 35) 0 F rfl dX4_restore_35 ?_
  refine jg_X_now (pc := 36) F in_X4_restore_4 (lk_X4_restore_fieldLink_RX4_10_JoinedSketches_now_LJoinedSketches_State) dX4_restore_36 ?_
  refine js_aload_n (pc := 39) 0 F rfl dX4_restore_39 ?_
  refine jg_X_slots (pc := 40) F in_X4_restore_4 (lk_X4_restore_fieldLink_RX4_23_JoinedSketches_slots_LJoinedSketches_State) dX4_restore_40 ?_
  refine js_iload_n (pc := 43) 1 F rfl dX4_restore_43 ?_
  refine js_aldq (pc := 44) (j := i) (t0 := 4) F (by decide) (js_ct_Sl) rfl rfl (by omega) (by decide) dX4_restore_44 ?_
  refine js_callv (pc := 45) F (c_X3_copyFrom _ hy (t := 0) (by decide) (G := G1) (u := 1 + i) (by omega) (by omega) ((hC1.2.2.1 i hi).2 s hv)) mf_X3_copyFrom gX4_restore_X3_copyFrom rfl (by decide) (by unfold js_kA; omega) (js_ct_A (by decide)) rfl rfl rfl (Nat.le_of_ble_eq_true rfl) dX4_restore_45 ?_
  rintro G2 ⟨p1, p2⟩
  have hC2 := hC1.now (js_fn.ofT p2) p1
  refine js_aload_n (pc := 48) 0 F rfl dX4_restore_48 ?_
  refine jg_X_now (pc := 49) F in_X4_restore_4 (lk_X4_restore_fieldLink_RX4_10_JoinedSketches_now_LJoinedSketches_State) dX4_restore_49 ?_
  refine js_calli (pc := 52) F (c_X3_filledBuckets _ hy (t := 0) (by decide) (G := G2) hC2.1) mf_X3_filledBuckets gX4_restore_X3_filledBuckets rfl (by decide) (by unfold js_kA; omega) (js_ct_A (by decide)) rfl rfl rfl (Nat.le_of_ble_eq_true rfl) dX4_restore_52 ?_
  rintro _ _ ⟨rfl, rfl⟩
  refine js_iret (pc := 55) F hr (rfl) ?_ dX4_restore_55
  show jP (ms_restore c (nI i)) _ _ _
  rw [show ms_restore c (nI i) = (nI (jm_aF s), jm_chg c s) from by unfold ms_restore; rw [if_neg (jb_no hi (by decide)), jx (by omega), hv]]
  exact ⟨rfl, hC2, (js_frX.ofH q2).tr (js_frX.ofT p2 (by decide))⟩
