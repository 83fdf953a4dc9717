theorem mf_X5_within : js_M yX5_within cX5_within 3 (some .boolean) wsX5_within 3 := ⟨⟨_, rfl⟩, by decide +kernel, by decide +kernel, by decide +kernel, by decide +kernel⟩
set_option maxHeartbeats 4000000 in
set_option maxRecDepth 100000 in
theorem c_X5_within (la : Launch) {y : js_L} (hy : js_Dy y) {G : js_G} {v lo hi : Int32} : js_Ci la y yX5_within wsX5_within 1 12 [.int (v), .int (lo), .int (hi)] G (fun r G' => r = nI (if lo ≤ v ∧ v ≤ hi then 1 else 0) ∧ G = G') := by
  refine js_ofi mf_X5_within (Nat.le_of_ble_eq_true rfl) hy (fun X F hr => ?_)
  replace F : js_F X y cX5_within 3 RX5 wsX5_within 1 12 := F
  show js_W X y 3 _ G 0 [(0, .int (v)), (1, .int (lo)), (2, .int (hi))] []
  refine js_iload_n (pc := 0) 0 F rfl dX5_within_0 ?_
  refine js_iload_n (pc := 1) 1 F rfl dX5_within_1 ?_
  refine js_icmp_lt (pc := 2) (tgt := 14) F dX5_within_2 (by decide) (fun h2 => ?_) (fun h2 => ?_)
  · skip
    refine js_iconst (pc := 14) (v := nI (0)) F (by decide) dX5_within_14 ?_
    refine js_iret (pc := 15) F hr (rfl) ?_ dX5_within_15
    exact ⟨by rw [if_neg (fun q => by first | exact Int32.not_lt.mpr q.1 h2 | exact Int32.not_lt.mpr q.2 h7)], rfl⟩
  · skip
    refine js_iload_n (pc := 5) 0 F rfl dX5_within_5 ?_
    refine js_iload_n (pc := 6) 2 F rfl dX5_within_6 ?_
    refine js_icmp_gt (pc := 7) (tgt := 14) F dX5_within_7 (by decide) (fun h7 => ?_) (fun h7 => ?_)
    · skip
      refine js_iconst (pc := 14) (v := nI (0)) F (by decide) dX5_within_14 ?_
      refine js_iret (pc := 15) F hr (rfl) ?_ dX5_within_15
      exact ⟨by rw [if_neg (fun q => by first | exact Int32.not_lt.mpr q.1 h2 | exact Int32.not_lt.mpr q.2 h7)], rfl⟩
    · skip
      refine js_iconst (pc := 10) (v := nI (1)) F (by decide) dX5_within_10 ?_
      refine js_goto (pc := 11) (tgt := 15) F dX5_within_11 (by decide) ?_
      refine js_iret (pc := 15) F hr (rfl) ?_ dX5_within_15
      exact ⟨by rw [if_pos ⟨Int32.not_lt.mp h2, Int32.not_lt.mp h7⟩], rfl⟩
theorem mf_X5_isSketch : js_M yX5_isSketch cX5_isSketch 1 (some .boolean) wsX5_isSketch 1 := ⟨⟨_, rfl⟩, by decide +kernel, by decide +kernel, by decide +kernel, by decide +kernel⟩
set_option maxHeartbeats 4000000 in
set_option maxRecDepth 100000 in
theorem c_X5_isSketch (la : Launch) {y : js_L} (hy : js_Dy y) {G : js_G} {x : Int32} : js_Ci la y yX5_isSketch wsX5_isSketch 2 34 [.int (x)] G (fun r G' => r = nI (if ¬ jb x 6 then 1 else 0) ∧ G = G') := by
  refine js_ofi mf_X5_isSketch (Nat.le_of_ble_eq_true rfl) hy (fun X F hr => ?_)
  replace F : js_F X y cX5_isSketch 1 RX5 wsX5_isSketch 2 34 := F
  show js_W X y 1 _ G 0 [(0, .int (x))] []
  refine js_iload_n (pc := 0) 0 F rfl dX5_isSketch_0 ?_
  refine js_iconst (pc := 1) (v := nI (0)) F (by decide) dX5_isSketch_1 ?_
  refine js_iconst (pc := 2) (v := nI (5)) F (by decide) dX5_isSketch_2 ?_
  refine js_callsi (pc := 3) F (c_X5_within _ hy (v := x) (lo := nI (0)) (hi := nI (5))) mf_X5_within gX5_isSketch_X5_within (by decide) rfl rfl (Nat.le_of_ble_eq_true rfl) dX5_isSketch_3 ?_
  rintro _ _ ⟨rfl, rfl⟩
  refine js_iret (pc := 6) F hr (jn_narB) ?_ dX5_isSketch_6
  exact ⟨by rw [jw_if (k := 5) (by decide)], rfl⟩
theorem lk_X5_isThing_constant_RX5_47_99999 : Cond.constant RX5 47 (99999) ∈ wsX5_isThing := by decide +kernel
theorem mf_X5_isThing : js_M yX5_isThing cX5_isThing 1 (some .boolean) wsX5_isThing 1 := ⟨⟨_, rfl⟩, by decide +kernel, by decide +kernel, by decide +kernel, by decide +kernel⟩
set_option maxHeartbeats 4000000 in
set_option maxRecDepth 100000 in
theorem c_X5_isThing (la : Launch) {y : js_L} (hy : js_Dy y) {G : js_G} {x : Int32} : js_Ci la y yX5_isThing wsX5_isThing 2 34 [.int (x)] G (fun r G' => r = nI (if ¬ jb x 100000 then 1 else 0) ∧ G = G') := by
  refine js_ofi mf_X5_isThing (Nat.le_of_ble_eq_true rfl) hy (fun X F hr => ?_)
  replace F : js_F X y cX5_isThing 1 RX5 wsX5_isThing 2 34 := F
  show js_W X y 1 _ G 0 [(0, .int (x))] []
  refine js_iload_n (pc := 0) 0 F rfl dX5_isThing_0 ?_
  refine js_iconst (pc := 1) (v := nI (0)) F (by decide) dX5_isThing_1 ?_
  refine js_ldc (pc := 2) (v := nI (99999)) F (lk_X5_isThing_constant_RX5_47_99999) dX5_isThing_2 ?_
  refine js_callsi (pc := 4) F (c_X5_within _ hy (v := x) (lo := nI (0)) (hi := nI (99999))) mf_X5_within gX5_isThing_X5_within (by decide) rfl rfl (Nat.le_of_ble_eq_true rfl) dX5_isThing_4 ?_
  rintro _ _ ⟨rfl, rfl⟩
  refine js_iret (pc := 7) F hr (jn_narB) ?_ dX5_isThing_7
  exact ⟨by rw [jw_if (k := 99999) (by decide)], rfl⟩
theorem in_X5_part_5 : ∀ w ∈ wsX50, w ∈ wsX5_part := by decide +kernel
theorem lk_X5_part_fieldLink_RX5_7_JoinedSketchesModel_state_I : Cond.fieldLink RX5 7 "JoinedSketchesModel" "state" "[I" ∈ wsX5_part := by decide +kernel
theorem mf_X5_part : js_M yX5_part cX5_part 3 (some .int) wsX5_part 2 := ⟨⟨_, rfl⟩, by decide +kernel, by decide +kernel, by decide +kernel, by decide +kernel⟩
set_option maxHeartbeats 4000000 in
set_option maxRecDepth 100000 in
theorem c_X5_part (la : Launch) {y : js_L} (hy : js_Dy y) {G : js_G} {s p : Nat} (hp : 1 + 106 * s + p < 637) : js_Ci la y yX5_part wsX5_part 1 12 [.ref (js_ad y (191)), .int (nI (s)), .int (nI (p))] G (fun r G' => r = G 192 ((1 + 106 * s) + p) ∧ G = G') := by
  refine js_ofi mf_X5_part (Nat.le_of_ble_eq_true rfl) hy (fun X F hr => ?_)
  replace F : js_F X y cX5_part 3 RX5 wsX5_part 1 12 := F
  show js_W X y 3 _ G 0 [(0, .ref (js_ad y (191))), (1, .int (nI (s))), (2, .int (nI (p)))] []
  refine js_aload_n (pc := 0) 0 F rfl dX5_part_0 ?_
  refine jg_M_state (pc := 1) F in_X5_part_5 (lk_X5_part_fieldLink_RX5_7_JoinedSketchesModel_state_I) dX5_part_1 ?_
  refine js_iconst (pc := 4) (v := nI (1)) F (by decide) dX5_part_4 ?_
  refine js_bipush (pc := 5) (v := nI (106)) F (by decide) dX5_part_5 ?_
  refine js_iload_n (pc := 7) 1 F rfl dX5_part_7 ?_
  refine js_imulN (pc := 8) (a := 106) (b := s) F dX5_part_8 ?_
  refine js_iaddN (pc := 9) (a := 1) (b := 106 * s) F dX5_part_9 ?_
  refine js_iload_n (pc := 10) 2 F rfl dX5_part_10 ?_
  refine js_iaddN (pc := 11) (a := 1 + (106 * s)) (b := p) F dX5_part_11 ?_
  refine js_iald (pc := 12) (j := (1 + (106 * s)) + p) (v := G (192) ((1 + (106 * s)) + p)) F (by decide) (js_ct_Ms) rfl (by omega) (by decide) (rfl) dX5_part_12 ?_
  refine js_iret (pc := 13) F hr (rfl) ?_ dX5_part_13
  exact ⟨rfl, rfl⟩
theorem in_X5_setPart_5 : ∀ w ∈ wsX50, w ∈ wsX5_setPart := by decide +kernel
theorem lk_X5_setPart_fieldLink_RX5_7_JoinedSketchesModel_state_I : Cond.fieldLink RX5 7 "JoinedSketchesModel" "state" "[I" ∈ wsX5_setPart := by decide +kernel
theorem mf_X5_setPart : js_M yX5_setPart cX5_setPart 4 none wsX5_setPart 3 := ⟨⟨_, rfl⟩, by decide +kernel, by decide +kernel, by decide +kernel, by decide +kernel⟩
set_option maxHeartbeats 4000000 in
set_option maxRecDepth 100000 in
theorem c_X5_setPart (la : Launch) {y : js_L} (hy : js_Dy y) {G : js_G} {s p : Nat} {v : Int32} (hp : 1 + 106 * s + p < 637) : js_Cv la y yX5_setPart wsX5_setPart 1 12 [.ref (js_ad y (191)), .int (nI (s)), .int (nI (p)), .int (v)] G (fun G' => js_st G 192 ((1 + 106 * s) + p) v = G') := by
  refine js_ofv mf_X5_setPart (Nat.le_of_ble_eq_true rfl) hy (fun X F hr => ?_)
  replace F : js_F X y cX5_setPart 4 RX5 wsX5_setPart 1 12 := F
  show js_W X y 4 _ G 0 [(0, .ref (js_ad y (191))), (1, .int (nI (s))), (2, .int (nI (p))), (3, .int (v))] []
  refine js_aload_n (pc := 0) 0 F rfl dX5_setPart_0 ?_
  refine jg_M_state (pc := 1) F in_X5_setPart_5 (lk_X5_setPart_fieldLink_RX5_7_JoinedSketchesModel_state_I) dX5_setPart_1 ?_
  refine js_iconst (pc := 4) (v := nI (1)) F (by decide) dX5_setPart_4 ?_
  refine js_bipush (pc := 5) (v := nI (106)) F (by decide) dX5_setPart_5 ?_
  refine js_iload_n (pc := 7) 1 F rfl dX5_setPart_7 ?_
  refine js_imulN (pc := 8) (a := 106) (b := s) F dX5_setPart_8 ?_
  refine js_iaddN (pc := 9) (a := 1) (b := 106 * s) F dX5_setPart_9 ?_
  refine js_iload_n (pc := 10) 2 F rfl dX5_setPart_10 ?_
  refine js_iaddN (pc := 11) (a := 1 + (106 * s)) (b := p) F dX5_setPart_11 ?_
  refine js_iload_n (pc := 12) 3 F rfl dX5_setPart_12 ?_
  refine js_iast (pc := 13) (j := (1 + (106 * s)) + p) F (by decide) (fun _ => js_ct_Ms) rfl (by omega) (by decide) dX5_setPart_13 ?_
  refine js_vret (pc := 14) F hr ?_ dX5_setPart_14
  exact rfl
theorem mf_X5_bucketsOf : js_M yX5_bucketsOf cX5_bucketsOf 2 (some .int) wsX5_bucketsOf 1 := ⟨⟨_, rfl⟩, by decide +kernel, by decide +kernel, by decide +kernel, by decide +kernel⟩
set_option maxHeartbeats 4000000 in
set_option maxRecDepth 100000 in
theorem c_X5_bucketsOf (la : Launch) {y : js_L} (hy : js_Dy y) {G : js_G} {s : Nat} (hs : s < 6) {B : Nat} {rk : Nat → Nat} {ls : Option (List Nat)} (hS : mr_S G 192 (1 + 106 * s) B rk ls) : js_Ci la y yX5_bucketsOf wsX5_bucketsOf 2 34 [.ref (js_ad y (191)), .int (nI (s))] G (fun r G' => r = nI (2 ^ B) ∧ G = G') := by
  obtain ⟨hB2, hB6, hB, hR, hK, hL⟩ := id hS
  have hp : 2 ^ B ≤ 64 := jm_p6 hB6
  have hp1 := jm_p1 B
  have hp4 := jm_p4 hB2
  refine js_ofi mf_X5_bucketsOf (Nat.le_of_ble_eq_true rfl) hy (fun X F hr => ?_)
  replace F : js_F X y cX5_bucketsOf 2 RX5 wsX5_bucketsOf 2 34 := F
  show js_W X y 2 _ G 0 [(0, .ref (js_ad y (191))), (1, .int (nI (s)))] []
  refine js_iconst (pc := 0) (v := nI (1)) F (by decide) dX5_bucketsOf_0 ?_
  refine js_aload_n (pc := 1) 0 F rfl dX5_bucketsOf_1 ?_
  refine js_iload_n (pc := 2) 1 F rfl dX5_bucketsOf_2 ?_
  refine js_iconst (pc := 3) (v := nI (0)) F (by decide) dX5_bucketsOf_3 ?_
  refine js_calli (pc := 4) F (c_X5_part _ hy (G := G) (s := s) (p := 0) (by omega)) mf_X5_part gX5_bucketsOf_X5_part rfl (by decide) (by decide) (js_ct_M) rfl rfl rfl (Nat.le_of_ble_eq_true rfl) dX5_bucketsOf_4 ?_
  rintro _ _ ⟨hv4, rfl⟩
  rw [hv4, show G 192 ((1 + 106 * s) + 0) = nI (B) from (hS.2.2.1)]
  clear hv4
  refine js_ishlN (pc := 7) (a := 1) (b := B) F (by omega) (by omega) dX5_bucketsOf_7 ?_
  refine js_iret (pc := 8) F hr (rfl) ?_ dX5_bucketsOf_8
  exact ⟨by rw [Nat.one_mul], rfl⟩
theorem lk_X5_hashOf_constantLong_RX5_52_40503 : Cond.constantLong RX5 52 (40503) ∈ wsX5_hashOf := by decide +kernel
theorem lk_X5_hashOf_constantLong_RX5_54_65536 : Cond.constantLong RX5 54 (65536) ∈ wsX5_hashOf := by decide +kernel
theorem mf_X5_hashOf : js_M yX5_hashOf cX5_hashOf 3 (some .int) wsX5_hashOf 2 := ⟨⟨_, rfl⟩, by decide +kernel, by decide +kernel, by decide +kernel, by decide +kernel⟩
set_option maxHeartbeats 4000000 in
set_option maxRecDepth 100000 in
theorem c_X5_hashOf (la : Launch) {y : js_L} (hy : js_Dy y) {G : js_G} {t sl : Nat} (ht : t < 100000) (hsl6 : sl < 65536) : js_Ci la y yX5_hashOf wsX5_hashOf 1 12 [.int (nI (t)), .int (nI (sl))] G (fun r G' => r = nI (jm_hash t sl) ∧ G = G') := by
  have hlt : (t * 40503 + sl) % 65536 < 65536 := Nat.mod_lt _ (by decide)
  refine js_ofi mf_X5_hashOf (Nat.le_of_ble_eq_true rfl) hy (fun X F hr => ?_)
  replace F : js_F X y cX5_hashOf 3 RX5 wsX5_hashOf 1 12 := F
  show js_W X y 3 _ G 0 [(0, .int (nI (t))), (1, .int (nI (sl)))] []
  refine js_iload_n (pc := 0) 0 F rfl dX5_hashOf_0 ?_
  refine js_i2lN (pc := 1) F (by omega) dX5_hashOf_1 ?_
  refine js_ldc2 (pc := 2) (v := lN (40503)) F (lk_X5_hashOf_constantLong_RX5_52_40503) dX5_hashOf_2 ?_
  refine js_lmulN (pc := 5) (a := t) (b := 40503) F dX5_hashOf_5 ?_
  refine js_iload_n (pc := 6) 1 F rfl dX5_hashOf_6 ?_
  refine js_i2lN (pc := 7) F (by omega) dX5_hashOf_7 ?_
  refine js_laddN (pc := 8) (a := t * 40503) (b := sl) F dX5_hashOf_8 ?_
  refine js_ldc2 (pc := 9) (v := lN (65536)) F (lk_X5_hashOf_constantLong_RX5_54_65536) dX5_hashOf_9 ?_
  refine js_lremN (pc := 12) (a := (t * 40503) + sl) (b := 65536) F (by omega) (by omega) (by omega) dX5_hashOf_12 ?_
  refine js_l2iN (pc := 13) F dX5_hashOf_13 ?_
  refine js_istore_n (pc := 14) (lv2 := [(0, .int (nI (t))), (1, .int (nI (sl))), (2, .int (nI (((t * 40503) + sl) % 65536)))]) F dX5_hashOf_14 (by decide) [1, 2, 0] rfl ?_
  refine js_iload_n (pc := 15) 2 F rfl dX5_hashOf_15 ?_
  refine js_iload_n (pc := 16) 2 F rfl dX5_hashOf_16 ?_
  refine js_sipush (pc := 17) (v := nI (256)) F (by decide) dX5_hashOf_17 ?_
  refine js_idivN (pc := 20) (a := ((t * 40503) + sl) % 65536) (b := 256) F (by omega) (by omega) (by omega) dX5_hashOf_20 ?_
  refine js_ixorN (pc := 21) (a := ((t * 40503) + sl) % 65536) (b := (((t * 40503) + sl) % 65536) / 256) F dX5_hashOf_21 ?_
  refine js_iret (pc := 22) F hr (rfl) ?_ dX5_hashOf_22
  exact ⟨rfl, rfl⟩
theorem mf_X5_rankOf : js_M yX5_rankOf cX5_rankOf 4 (some .int) wsX5_rankOf 2 := ⟨⟨_, rfl⟩, by decide +kernel, by decide +kernel, by decide +kernel, by decide +kernel⟩
set_option maxHeartbeats 4000000 in
set_option maxRecDepth 100000 in
theorem c_X5_rankOf (la : Launch) {y : js_L} (hy : js_Dy y) {G : js_G} {h B : Nat} (hh : h < 65536) (hB6 : B ≤ 6) : js_Ci la y yX5_rankOf wsX5_rankOf 1 12 [.int (nI (h)), .int (nI (B))] G (fun r G' => r = nI (jm_rank h B) ∧ G = G') := by
  have hd := Nat.div_le_self h (2 ^ B)
  refine js_ofi mf_X5_rankOf (Nat.le_of_ble_eq_true rfl) hy (fun X F hr => ?_)
  replace F : js_F X y cX5_rankOf 4 RX5 wsX5_rankOf 1 12 := F
  show js_W X y 4 _ G 0 [(0, .int (nI (h))), (1, .int (nI (B)))] []
  refine js_iload_n (pc := 0) 0 F rfl dX5_rankOf_0 ?_
  refine js_iload_n (pc := 1) 1 F rfl dX5_rankOf_1 ?_
  refine js_ishrN (pc := 2) (a := h) (b := B) F (by omega) (by omega) dX5_rankOf_2 ?_
  refine js_istore_n (pc := 3) (lv2 := [(0, .int (nI (h))), (1, .int (nI (B))), (2, .int (nI (h / 2 ^ B)))]) F dX5_rankOf_3 (by decide) [1, 2, 0] rfl ?_
  refine js_iload_n (pc := 4) 2 F rfl dX5_rankOf_4 ?_
  refine js_if_neN (pc := 5) (a := h / 2 ^ B) (tgt := 13) F (by omega) dX5_rankOf_5 (by decide) (fun h5 => ?_) (fun h5 => ?_)
  · skip
    refine js_iconst (pc := 13) (v := nI (1)) F (by decide) dX5_rankOf_13 ?_
    refine js_istore_n (pc := 14) (lv2 := [(0, .int (nI (h))), (1, .int (nI (B))), (2, .int (nI (h / 2 ^ B))), (3, .int (nI (1)))]) F dX5_rankOf_14 (by decide) [1, 2, 3, 0] rfl ?_
    have L15 : ∀ (fu15 : Nat) (x : Nat) (q : Nat) (h0 : 0 < x) (hx : x < 65536) (hq : q + jm_ctz 16 x = 1 + jm_ctz 16 (h / 2 ^ B)) (hfu15 : x < fu15), js_W X y 4 (js_Qi X y (fun r G' => r = nI (jm_rank h B) ∧ G = G')) G 15 [(0, .int (nI (h))), (1, .int (nI (B))), (2, .int (nI (x))), (3, .int (nI (q)))] [] := by
      intro fu15
      induction fu15 with
      | zero => intro x q h0 hx hq hfu15; exact absurd hfu15 (Nat.not_lt_zero _)
      | succ fu15 ih15 =>
        intro x q h0 hx hq hfu15
        refine js_iload_n (pc := 15) 2 F rfl dX5_rankOf_15 ?_
        refine js_iconst (pc := 16) (v := nI (1)) F (by decide) dX5_rankOf_16 ?_
        refine js_iandN (pc := 17) (a := x) (b := 1) F dX5_rankOf_17 ?_
        refine js_val (v := nI (x % 2)) (congrArg nI (Nat.and_one_is_mod x)) ?_
        refine js_if_neN (pc := 18) (a := x % 2) (tgt := 31) F (by omega) dX5_rankOf_18 (by decide) (fun h18 => ?_) (fun h18 => ?_)
        · skip
          refine js_iload_n (pc := 31) 3 F rfl dX5_rankOf_31 ?_
          refine js_iret (pc := 32) F hr (rfl) ?_ dX5_rankOf_32
          exact ⟨by unfold jm_rank; rw [if_neg h5, ← hq, jm_ctz_odd h18]; rfl, rfl⟩
        · skip
          refine js_iload_n (pc := 21) 2 F rfl dX5_rankOf_21 ?_
          refine js_iconst (pc := 22) (v := nI (1)) F (by decide) dX5_rankOf_22 ?_
          refine js_ishrN (pc := 23) (a := x) (b := 1) F (by omega) (by omega) dX5_rankOf_23 ?_
          refine js_val (v := nI (x / 2)) (rfl) ?_
          refine js_istore_n (pc := 24) (lv2 := [(0, .int (nI (h))), (1, .int (nI (B))), (2, .int (nI (x / 2))), (3, .int (nI (q)))]) F dX5_rankOf_24 (by decide) [1, 2, 0, 3] rfl ?_
          refine js_iinc (pc := 25) (v := nI (q + 1)) (lv2 := [(0, .int (nI (h))), (1, .int (nI (B))), (2, .int (nI (x / 2))), (3, .int (nI (q + 1)))]) F dX5_rankOf_25 3 rfl (nI_add _ _) (by decide) [1, 2, 3, 0] rfl ?_
          refine js_goto (pc := 28) (tgt := 15) F dX5_rankOf_28 (by decide) ?_
          exact ih15 (x / 2) (q + 1) (by omega) (by omega) (by rw [← hq, jm_ctz_even h18 h0 hx]; omega) (by omega)
    exact L15 (_ + 1) (h / 2 ^ B) 1 (Nat.pos_of_ne_zero h5) (by omega) (rfl) (Nat.lt_succ_self _)
  · skip
    refine js_bipush (pc := 8) (v := nI (17)) F (by decide) dX5_rankOf_8 ?_
    refine js_iload_n (pc := 10) 1 F rfl dX5_rankOf_10 ?_
    refine js_isubN (pc := 11) (a := 17) (b := B) F (by omega) dX5_rankOf_11 ?_
    refine js_iret (pc := 12) F hr (rfl) ?_ dX5_rankOf_12
    exact ⟨by unfold jm_rank; rw [if_pos h5], rfl⟩
theorem in_X5_bucketOf_5 : ∀ w ∈ wsX50, w ∈ wsX5_bucketOf := by decide +kernel
theorem lk_X5_bucketOf_fieldLink_RX5_7_JoinedSketchesModel_state_I : Cond.fieldLink RX5 7 "JoinedSketchesModel" "state" "[I" ∈ wsX5_bucketOf := by decide +kernel
theorem mf_X5_bucketOf : js_M yX5_bucketOf cX5_bucketOf 3 (some .int) wsX5_bucketOf 2 := ⟨⟨_, rfl⟩, by decide +kernel, by decide +kernel, by decide +kernel, by decide +kernel⟩
set_option maxHeartbeats 4000000 in
set_option maxRecDepth 100000 in
theorem c_X5_bucketOf (la : Launch) {y : js_L} (hy : js_Dy y) {G : js_G} {s : Nat} (hs : s < 6) {B : Nat} {rk : Nat → Nat} {ls : Option (List Nat)} (hS : mr_S G 192 (1 + 106 * s) B rk ls) {sl : Nat} (hsl : G 192 0 = nI sl) (hsl6 : sl < 65536) {t : Nat} (ht : t < 100000) : js_Ci la y yX5_bucketOf wsX5_bucketOf 3 55 [.ref (js_ad y (191)), .int (nI (s)), .int (nI (t))] G (fun r G' => r = nI (jm_hash t sl % 2 ^ B) ∧ G = G') := by
  obtain ⟨hB2, hB6, hB, hR, hK, hL⟩ := id hS
  have hp : 2 ^ B ≤ 64 := jm_p6 hB6
  have hp1 := jm_p1 B
  have hp4 := jm_p4 hB2
  have hh : jm_hash t sl < 65536 := jm_hash_lt _ _
  have hmod : jm_hash t sl % 2 ^ B < 2 ^ B := Nat.mod_lt _ (by omega)
  have hrk := jm_rank_le hh hB6
  have hrp := jm_rank_pos (h := jm_hash t sl) hB6
  refine js_ofi mf_X5_bucketOf (Nat.le_of_ble_eq_true rfl) hy (fun X F hr => ?_)
  replace F : js_F X y cX5_bucketOf 3 RX5 wsX5_bucketOf 3 55 := F
  show js_W X y 3 _ G 0 [(0, .ref (js_ad y (191))), (1, .int (nI (s))), (2, .int (nI (t)))] []
  refine js_iload_n (pc := 0) 2 F rfl dX5_bucketOf_0 ?_
  refine js_aload_n (pc := 1) 0 F rfl dX5_bucketOf_1 ?_
  refine jg_M_state (pc := 2) F in_X5_bucketOf_5 (lk_X5_bucketOf_fieldLink_RX5_7_JoinedSketchesModel_state_I) dX5_bucketOf_2 ?_
  refine js_iconst (pc := 5) (v := nI (0)) F (by decide) dX5_bucketOf_5 ?_
  refine js_iald (pc := 6) (j := 0) (v := nI (sl)) F (by decide) (js_ct_Ms) rfl (by omega) (by decide) (hsl) dX5_bucketOf_6 ?_
  refine js_callsi (pc := 7) F (c_X5_hashOf _ hy (t := t) (sl := sl) (by omega) (by omega)) mf_X5_hashOf gX5_bucketOf_X5_hashOf (by decide) rfl rfl (Nat.le_of_ble_eq_true rfl) dX5_bucketOf_7 ?_
  rintro _ _ ⟨rfl, rfl⟩
  refine js_aload_n (pc := 10) 0 F rfl dX5_bucketOf_10 ?_
  refine js_iload_n (pc := 11) 1 F rfl dX5_bucketOf_11 ?_
  refine js_calli (pc := 12) F (c_X5_bucketsOf _ hy (s := s) (by omega) (G := G) (hS)) mf_X5_bucketsOf gX5_bucketOf_X5_bucketsOf rfl (by decide) (by decide) (js_ct_M) rfl rfl rfl (Nat.le_of_ble_eq_true rfl) dX5_bucketOf_12 ?_
  rintro _ _ ⟨rfl, rfl⟩
  refine js_iremN (pc := 15) (a := jm_hash t sl) (b := 2 ^ B) F (by omega) (by omega) (by omega) dX5_bucketOf_15 ?_
  refine js_iret (pc := 16) F hr (rfl) ?_ dX5_bucketOf_16
  exact ⟨rfl, rfl⟩
theorem in_X5_rankIn_5 : ∀ w ∈ wsX50, w ∈ wsX5_rankIn := by decide +kernel
theorem lk_X5_rankIn_fieldLink_RX5_7_JoinedSketchesModel_state_I : Cond.fieldLink RX5 7 "JoinedSketchesModel" "state" "[I" ∈ wsX5_rankIn := by decide +kernel
theorem mf_X5_rankIn : js_M yX5_rankIn cX5_rankIn 3 (some .int) wsX5_rankIn 2 := ⟨⟨_, rfl⟩, by decide +kernel, by decide +kernel, by decide +kernel, by decide +kernel⟩
set_option maxHeartbeats 4000000 in
set_option maxRecDepth 100000 in
theorem c_X5_rankIn (la : Launch) {y : js_L} (hy : js_Dy y) {G : js_G} {s : Nat} (hs : s < 6) {B : Nat} {rk : Nat → Nat} {ls : Option (List Nat)} (hS : mr_S G 192 (1 + 106 * s) B rk ls) {sl : Nat} (hsl : G 192 0 = nI sl) (hsl6 : sl < 65536) {t : Nat} (ht : t < 100000) : js_Ci la y yX5_rankIn wsX5_rankIn 2 35 [.ref (js_ad y (191)), .int (nI (s)), .int (nI (t))] G (fun r G' => r = nI (jm_rank (jm_hash t sl) B) ∧ G = G') := by
  obtain ⟨hB2, hB6, hB, hR, hK, hL⟩ := id hS
  have hp : 2 ^ B ≤ 64 := jm_p6 hB6
  have hp1 := jm_p1 B
  have hp4 := jm_p4 hB2
  have hh : jm_hash t sl < 65536 := jm_hash_lt _ _
  have hmod : jm_hash t sl % 2 ^ B < 2 ^ B := Nat.mod_lt _ (by omega)
  have hrk := jm_rank_le hh hB6
  have hrp := jm_rank_pos (h := jm_hash t sl) hB6
  refine js_ofi mf_X5_rankIn (Nat.le_of_ble_eq_true rfl) hy (fun X F hr => ?_)
  replace F : js_F X y cX5_rankIn 3 RX5 wsX5_rankIn 2 35 := F
  show js_W X y 3 _ G 0 [(0, .ref (js_ad y (191))), (1, .int (nI (s))), (2, .int (nI (t)))] []
  refine js_iload_n (pc := 0) 2 F rfl dX5_rankIn_0 ?_
  refine js_aload_n (pc := 1) 0 F rfl dX5_rankIn_1 ?_
  refine jg_M_state (pc := 2) F in_X5_rankIn_5 (lk_X5_rankIn_fieldLink_RX5_7_JoinedSketchesModel_state_I) dX5_rankIn_2 ?_
  refine js_iconst (pc := 5) (v := nI (0)) F (by decide) dX5_rankIn_5 ?_
  refine js_iald (pc := 6) (j := 0) (v := nI (sl)) F (by decide) (js_ct_Ms) rfl (by omega) (by decide) (hsl) dX5_rankIn_6 ?_
  refine js_callsi (pc := 7) F (c_X5_hashOf _ hy (t := t) (sl := sl) (by omega) (by omega)) mf_X5_hashOf gX5_rankIn_X5_hashOf (by decide) rfl rfl (Nat.le_of_ble_eq_true rfl) dX5_rankIn_7 ?_
  rintro _ _ ⟨rfl, rfl⟩
  refine js_aload_n (pc := 10) 0 F rfl dX5_rankIn_10 ?_
  refine js_iload_n (pc := 11) 1 F rfl dX5_rankIn_11 ?_
  refine js_iconst (pc := 12) (v := nI (0)) F (by decide) dX5_rankIn_12 ?_
  refine js_calli (pc := 13) F (c_X5_part _ hy (G := G) (s := s) (p := 0) (by omega)) mf_X5_part gX5_rankIn_X5_part rfl (by decide) (by decide) (js_ct_M) rfl rfl rfl (Nat.le_of_ble_eq_true rfl) dX5_rankIn_13 ?_
  rintro _ _ ⟨hv13, rfl⟩
  rw [hv13, show G 192 ((1 + 106 * s) + 0) = nI (B) from (hS.2.2.1)]
  clear hv13
  refine js_callsi (pc := 16) F (c_X5_rankOf _ hy (h := jm_hash t sl) (B := B) (by first | omega | exact jm_hash_lt _ _) (by omega)) mf_X5_rankOf gX5_rankIn_X5_rankOf (by decide) rfl rfl (Nat.le_of_ble_eq_true rfl) dX5_rankIn_16 ?_
  rintro _ _ ⟨rfl, rfl⟩
  refine js_iret (pc := 19) F hr (rfl) ?_ dX5_rankIn_19
  exact ⟨rfl, rfl⟩
theorem mf_X5_wouldChange : js_M yX5_wouldChange cX5_wouldChange 3 (some .boolean) wsX5_wouldChange 2 := ⟨⟨_, rfl⟩, by decide +kernel, by decide +kernel, by decide +kernel, by decide +kernel⟩
set_option maxHeartbeats 4000000 in
set_option maxRecDepth 100000 in
theorem c_X5_wouldChange (la : Launch) {y : js_L} (hy : js_Dy y) {G : js_G} {s : Nat} (hs : s < 6) {B : Nat} {rk : Nat → Nat} {ls : Option (List Nat)} (hS : mr_S G 192 (1 + 106 * s) B rk ls) {sl : Nat} (hsl : G 192 0 = nI sl) (hsl6 : sl < 65536) {t : Nat} (ht : t < 100000) : js_Ci la y yX5_wouldChange wsX5_wouldChange 4 77 [.ref (js_ad y (191)), .int (nI (s)), .int (nI (t))] G (fun r G' => r = nI (if rk (jm_hash t sl % 2 ^ B) < jm_rank (jm_hash t sl) B then 1 else 0) ∧ G = G') := by
  obtain ⟨hB2, hB6, hB, hR, hK, hL⟩ := id hS
  have hp : 2 ^ B ≤ 64 := jm_p6 hB6
  have hp1 := jm_p1 B
  have hp4 := jm_p4 hB2
  have hh : jm_hash t sl < 65536 := jm_hash_lt _ _
  have hmod : jm_hash t sl % 2 ^ B < 2 ^ B := Nat.mod_lt _ (by omega)
  have hrk := jm_rank_le hh hB6
  have hrp := jm_rank_pos (h := jm_hash t sl) hB6
  have hk1 := hK _ hmod
  refine js_ofi mf_X5_wouldChange (Nat.le_of_ble_eq_true rfl) hy (fun X F hr => ?_)
  replace F : js_F X y cX5_wouldChange 3 RX5 wsX5_wouldChange 4 77 := F
  show js_W X y 3 _ G 0 [(0, .ref (js_ad y (191))), (1, .int (nI (s))), (2, .int (nI (t)))] []
  refine js_aload_n (pc := 0) 0 F rfl dX5_wouldChange_0 ?_
  refine js_iload_n (pc := 1) 1 F rfl dX5_wouldChange_1 ?_
  refine js_iload_n (pc := 2) 2 F rfl dX5_wouldChange_2 ?_
  refine js_calli (pc := 3) F (c_X5_rankIn _ hy (s := s) (by omega) (G := G) (hS) (sl := sl) (hsl) (by omega) (t := t) (by omega)) mf_X5_rankIn gX5_wouldChange_X5_rankIn rfl (by decide) (by decide) (js_ct_M) rfl rfl rfl (Nat.le_of_ble_eq_true rfl) dX5_wouldChange_3 ?_
  rintro _ _ ⟨rfl, rfl⟩
  refine js_aload_n (pc := 6) 0 F rfl dX5_wouldChange_6 ?_
  refine js_iload_n (pc := 7) 1 F rfl dX5_wouldChange_7 ?_
  refine js_iconst (pc := 8) (v := nI (2)) F (by decide) dX5_wouldChange_8 ?_
  refine js_aload_n (pc := 9) 0 F rfl dX5_wouldChange_9 ?_
  refine js_iload_n (pc := 10) 1 F rfl dX5_wouldChange_10 ?_
  refine js_iload_n (pc := 11) 2 F rfl dX5_wouldChange_11 ?_
  refine js_calli (pc := 12) F (c_X5_bucketOf _ hy (s := s) (by omega) (G := G) (hS) (sl := sl) (hsl) (by omega) (t := t) (by omega)) mf_X5_bucketOf gX5_wouldChange_X5_bucketOf rfl (by decide) (by decide) (js_ct_M) rfl rfl rfl (Nat.le_of_ble_eq_true rfl) dX5_wouldChange_12 ?_
  rintro _ _ ⟨rfl, rfl⟩
  refine js_iaddN (pc := 15) (a := 2) (b := jm_hash t sl % 2 ^ B) F dX5_wouldChange_15 ?_
  refine js_calli (pc := 16) F (c_X5_part _ hy (G := G) (s := s) (p := 2 + (jm_hash t sl % 2 ^ B)) (by omega)) mf_X5_part gX5_wouldChange_X5_part rfl (by decide) (by decide) (js_ct_M) rfl rfl rfl (Nat.le_of_ble_eq_true rfl) dX5_wouldChange_16 ?_
  rintro _ _ ⟨hv16, rfl⟩
  rw [hv16, show G 192 ((1 + 106 * s) + (2 + (jm_hash t sl % 2 ^ B))) = nI (rk ((jm_hash t sl % 2 ^ B))) from ((hS.2.2.2.1 _ (by omega)).trans (congrArg nI (jz_lt (by omega))))]
  clear hv16
  refine js_icmp_leN (pc := 19) (a := jm_rank (jm_hash t sl) B) (b := rk ((jm_hash t sl % 2 ^ B))) (tgt := 26) F (by omega) (by omega) dX5_wouldChange_19 (by decide) (fun h19 => ?_) (fun h19 => ?_)
  · skip
    refine js_iconst (pc := 26) (v := nI (0)) F (by decide) dX5_wouldChange_26 ?_
    refine js_iret (pc := 27) F hr (rfl) ?_ dX5_wouldChange_27
    exact ⟨by rw [if_neg (by omega)], rfl⟩
  · skip
    refine js_iconst (pc := 22) (v := nI (1)) F (by decide) dX5_wouldChange_22 ?_
    refine js_goto (pc := 23) (tgt := 27) F dX5_wouldChange_23 (by decide) ?_
    refine js_iret (pc := 27) F hr (rfl) ?_ dX5_wouldChange_27
    exact ⟨by rw [if_pos (by omega)], rfl⟩
theorem mf_X5_filled : js_M yX5_filled cX5_filled 4 (some .int) wsX5_filled 1 := ⟨⟨_, rfl⟩, by decide +kernel, by decide +kernel, by decide +kernel, by decide +kernel⟩
set_option maxHeartbeats 4000000 in
set_option maxRecDepth 100000 in
theorem c_X5_filled (la : Launch) {y : js_L} (hy : js_Dy y) {G : js_G} {s : Nat} (hs : s < 6) {B : Nat} {rk : Nat → Nat} {ls : Option (List Nat)} (hS : mr_S G 192 (1 + 106 * s) B rk ls) : js_Ci la y yX5_filled wsX5_filled 3 55 [.ref (js_ad y (191)), .int (nI (s))] G (fun r G' => r = nI (jm_fil rk (2 ^ B)) ∧ G = G') := by
  obtain ⟨hB2, hB6, hB, hR, hK, hL⟩ := id hS
  have hp : 2 ^ B ≤ 64 := jm_p6 hB6
  have hp1 := jm_p1 B
  have hp4 := jm_p4 hB2
  refine js_ofi mf_X5_filled (Nat.le_of_ble_eq_true rfl) hy (fun X F hr => ?_)
  replace F : js_F X y cX5_filled 4 RX5 wsX5_filled 3 55 := F
  show js_W X y 4 _ G 0 [(0, .ref (js_ad y (191))), (1, .int (nI (s)))] []
  refine js_iconst (pc := 0) (v := nI (0)) F (by decide) dX5_filled_0 ?_
  refine js_istore_n (pc := 1) (lv2 := [(0, .ref (js_ad y (191))), (1, .int (nI (s))), (2, .int (nI (0)))]) F dX5_filled_1 (by decide) [1, 2, 0] rfl ?_
  refine js_iconst (pc := 2) (v := nI (0)) F (by decide) dX5_filled_2 ?_
  refine js_istore_n (pc := 3) (lv2 := [(0, .ref (js_ad y (191))), (1, .int (nI (s))), (2, .int (nI (0))), (3, .int (nI (0)))]) F dX5_filled_3 (by decide) [1, 2, 3, 0] rfl ?_
  have L4 : ∀ (fu4 : Nat) (i : Nat) (a : Nat) (hi : i ≤ 2 ^ B) (ha : a = jm_sum (fun b => if 0 < rk b then 1 else 0) i) (hfu4 : 2 ^ B - i < fu4), js_W X y 4 (js_Qi X y (fun r G' => r = nI (jm_fil rk (2 ^ B)) ∧ G = G')) G 4 [(0, .ref (js_ad y (191))), (1, .int (nI (s))), (2, .int (nI (a))), (3, .int (nI (i)))] [] := by
    intro fu4
    induction fu4 with
    | zero => intro i a hi ha hfu4; exact absurd hfu4 (Nat.not_lt_zero _)
    | succ fu4 ih4 =>
      intro i a hi ha hfu4
      refine js_iload_n (pc := 4) 3 F rfl dX5_filled_4 ?_
      refine js_aload_n (pc := 5) 0 F rfl dX5_filled_5 ?_
      refine js_iload_n (pc := 6) 1 F rfl dX5_filled_6 ?_
      refine js_calli (pc := 7) F (c_X5_bucketsOf _ hy (s := s) (by omega) (G := G) (hS)) mf_X5_bucketsOf gX5_filled_X5_bucketsOf rfl (by decide) (by decide) (js_ct_M) rfl rfl rfl (Nat.le_of_ble_eq_true rfl) dX5_filled_7 ?_
      rintro _ _ ⟨rfl, rfl⟩
      refine js_icmp_geN (pc := 10) (a := i) (b := 2 ^ B) (tgt := 38) F (by first | omega | (have := hK i (by omega); omega)) (by first | omega | (have := hK i (by omega); omega)) dX5_filled_10 (by decide) (fun h10 => ?_) (fun h10 => ?_)
      · skip
        refine js_iload_n (pc := 38) 2 F rfl dX5_filled_38 ?_
        refine js_iret (pc := 39) F hr (rfl) ?_ dX5_filled_39
        exact ⟨by rw [ha, show i = 2 ^ B by omega]; rfl, rfl⟩
      · skip
        refine js_iload_n (pc := 13) 2 F rfl dX5_filled_13 ?_
        refine js_aload_n (pc := 14) 0 F rfl dX5_filled_14 ?_
        refine js_iload_n (pc := 15) 1 F rfl dX5_filled_15 ?_
        refine js_iconst (pc := 16) (v := nI (2)) F (by decide) dX5_filled_16 ?_
        refine js_iload_n (pc := 17) 3 F rfl dX5_filled_17 ?_
        refine js_iaddN (pc := 18) (a := 2) (b := i) F dX5_filled_18 ?_
        refine js_calli (pc := 19) F (c_X5_part _ hy (G := G) (s := s) (p := 2 + i) (by omega)) mf_X5_part gX5_filled_X5_part rfl (by decide) (by decide) (js_ct_M) rfl rfl rfl (Nat.le_of_ble_eq_true rfl) dX5_filled_19 ?_
        rintro _ _ ⟨hv19, rfl⟩
        rw [hv19, show G 192 ((1 + 106 * s) + (2 + i)) = nI (rk (i)) from ((hS.2.2.2.1 _ (by omega)).trans (congrArg nI (jz_lt (by omega))))]
        clear hv19
        refine js_if_leN (pc := 22) (a := rk (i)) (tgt := 29) F (by first | omega | (have := hK i (by omega); omega)) dX5_filled_22 (by decide) (fun h22 => ?_) (fun h22 => ?_)
        · skip
          refine js_iconst (pc := 29) (v := nI (0)) F (by decide) dX5_filled_29 ?_
          refine js_iaddN (pc := 30) (a := a) (b := 0) F dX5_filled_30 ?_
          refine js_istore_n (pc := 31) (lv2 := [(0, .ref (js_ad y (191))), (1, .int (nI (s))), (2, .int (nI (a + 0))), (3, .int (nI (i)))]) F dX5_filled_31 (by decide) [1, 2, 0, 3] rfl ?_
          refine js_iinc (pc := 32) (v := nI (i + 1)) (lv2 := [(0, .ref (js_ad y (191))), (1, .int (nI (s))), (2, .int (nI (a + 0))), (3, .int (nI (i + 1)))]) F dX5_filled_32 3 rfl (nI_add _ _) (by decide) [1, 2, 3, 0] rfl ?_
          refine js_goto (pc := 35) (tgt := 4) F dX5_filled_35 (by decide) ?_
          exact ih4 (i + 1) (a + 0) (by omega) (by simp only [jm_sum]; rw [← ha]; split <;> omega) (by omega)
        · skip
          refine js_iconst (pc := 25) (v := nI (1)) F (by decide) dX5_filled_25 ?_
          refine js_goto (pc := 26) (tgt := 30) F dX5_filled_26 (by decide) ?_
          refine js_iaddN (pc := 30) (a := a) (b := 1) F dX5_filled_30 ?_
          refine js_istore_n (pc := 31) (lv2 := [(0, .ref (js_ad y (191))), (1, .int (nI (s))), (2, .int (nI (a + 1))), (3, .int (nI (i)))]) F dX5_filled_31 (by decide) [1, 2, 0, 3] rfl ?_
          refine js_iinc (pc := 32) (v := nI (i + 1)) (lv2 := [(0, .ref (js_ad y (191))), (1, .int (nI (s))), (2, .int (nI (a + 1))), (3, .int (nI (i + 1)))]) F dX5_filled_32 3 rfl (nI_add _ _) (by decide) [1, 2, 3, 0] rfl ?_
          refine js_goto (pc := 35) (tgt := 4) F dX5_filled_35 (by decide) ?_
          exact ih4 (i + 1) (a + 1) (by omega) (by simp only [jm_sum]; rw [← ha]; split <;> omega) (by omega)
  exact L4 (_ + 1) 0 0 (Nat.zero_le _) (rfl) (Nat.lt_succ_self _)
theorem mf_X5_greatestRank : js_M yX5_greatestRank cX5_greatestRank 4 (some .int) wsX5_greatestRank 1 := ⟨⟨_, rfl⟩, by decide +kernel, by decide +kernel, by decide +kernel, by decide +kernel⟩
set_option maxHeartbeats 4000000 in
set_option maxRecDepth 100000 in
theorem c_X5_greatestRank (la : Launch) {y : js_L} (hy : js_Dy y) {G : js_G} {s : Nat} (hs : s < 6) {B : Nat} {rk : Nat → Nat} {ls : Option (List Nat)} (hS : mr_S G 192 (1 + 106 * s) B rk ls) : js_Ci la y yX5_greatestRank wsX5_greatestRank 3 55 [.ref (js_ad y (191)), .int (nI (s))] G (fun r G' => r = nI (jm_max rk (2 ^ B)) ∧ G = G') := by
  obtain ⟨hB2, hB6, hB, hR, hK, hL⟩ := id hS
  have hp : 2 ^ B ≤ 64 := jm_p6 hB6
  have hp1 := jm_p1 B
  have hp4 := jm_p4 hB2
  refine js_ofi mf_X5_greatestRank (Nat.le_of_ble_eq_true rfl) hy (fun X F hr => ?_)
  replace F : js_F X y cX5_greatestRank 4 RX5 wsX5_greatestRank 3 55 := F
  show js_W X y 4 _ G 0 [(0, .ref (js_ad y (191))), (1, .int (nI (s)))] []
  refine js_iconst (pc := 0) (v := nI (0)) F (by decide) dX5_greatestRank_0 ?_
  refine js_istore_n (pc := 1) (lv2 := [(0, .ref (js_ad y (191))), (1, .int (nI (s))), (2, .int (nI (0)))]) F dX5_greatestRank_1 (by decide) [1, 2, 0] rfl ?_
  refine js_iconst (pc := 2) (v := nI (0)) F (by decide) dX5_greatestRank_2 ?_
  refine js_istore_n (pc := 3) (lv2 := [(0, .ref (js_ad y (191))), (1, .int (nI (s))), (2, .int (nI (0))), (3, .int (nI (0)))]) F dX5_greatestRank_3 (by decide) [1, 2, 3, 0] rfl ?_
  have L4 : ∀ (fu4 : Nat) (i : Nat) (a : Nat) (hi : i ≤ 2 ^ B) (ha : a = jm_max (rk) i) (hb : a ≤ 17) (hfu4 : 2 ^ B - i < fu4), js_W X y 4 (js_Qi X y (fun r G' => r = nI (jm_max rk (2 ^ B)) ∧ G = G')) G 4 [(0, .ref (js_ad y (191))), (1, .int (nI (s))), (2, .int (nI (a))), (3, .int (nI (i)))] [] := by
    intro fu4
    induction fu4 with
    | zero => intro i a hi ha hb hfu4; exact absurd hfu4 (Nat.not_lt_zero _)
    | succ fu4 ih4 =>
      intro i a hi ha hb hfu4
      refine js_iload_n (pc := 4) 3 F rfl dX5_greatestRank_4 ?_
      refine js_aload_n (pc := 5) 0 F rfl dX5_greatestRank_5 ?_
      refine js_iload_n (pc := 6) 1 F rfl dX5_greatestRank_6 ?_
      refine js_calli (pc := 7) F (c_X5_bucketsOf _ hy (s := s) (by omega) (G := G) (hS)) mf_X5_bucketsOf gX5_greatestRank_X5_bucketsOf rfl (by decide) (by decide) (js_ct_M) rfl rfl rfl (Nat.le_of_ble_eq_true rfl) dX5_greatestRank_7 ?_
      rintro _ _ ⟨rfl, rfl⟩
      refine js_icmp_geN (pc := 10) (a := i) (b := 2 ^ B) (tgt := 44) F (by first | omega | (have := hK i (by omega); omega)) (by first | omega | (have := hK i (by omega); omega)) dX5_greatestRank_10 (by decide) (fun h10 => ?_) (fun h10 => ?_)
      · skip
        refine js_iload_n (pc := 44) 2 F rfl dX5_greatestRank_44 ?_
        refine js_iret (pc := 45) F hr (rfl) ?_ dX5_greatestRank_45
        exact ⟨by rw [ha, show i = 2 ^ B by omega], rfl⟩
      · skip
        refine js_aload_n (pc := 13) 0 F rfl dX5_greatestRank_13 ?_
        refine js_iload_n (pc := 14) 1 F rfl dX5_greatestRank_14 ?_
        refine js_iconst (pc := 15) (v := nI (2)) F (by decide) dX5_greatestRank_15 ?_
        refine js_iload_n (pc := 16) 3 F rfl dX5_greatestRank_16 ?_
        refine js_iaddN (pc := 17) (a := 2) (b := i) F dX5_greatestRank_17 ?_
        refine js_calli (pc := 18) F (c_X5_part _ hy (G := G) (s := s) (p := 2 + i) (by omega)) mf_X5_part gX5_greatestRank_X5_part rfl (by decide) (by decide) (js_ct_M) rfl rfl rfl (Nat.le_of_ble_eq_true rfl) dX5_greatestRank_18 ?_
        rintro _ _ ⟨hv18, rfl⟩
        rw [hv18, show G 192 ((1 + 106 * s) + (2 + i)) = nI (rk (i)) from ((hS.2.2.2.1 _ (by omega)).trans (congrArg nI (jz_lt (by omega))))]
        clear hv18
        refine js_iload_n (pc := 21) 2 F rfl dX5_greatestRank_21 ?_
        refine js_icmp_leN (pc := 22) (a := rk (i)) (b := a) (tgt := 36) F (by first | omega | (have := hK i (by omega); omega)) (by first | omega | (have := hK i (by omega); omega)) dX5_greatestRank_22 (by decide) (fun h22 => ?_) (fun h22 => ?_)
        · skip
          refine js_iload_n (pc := 36) 2 F rfl dX5_greatestRank_36 ?_
          refine js_istore_n (pc := 37) (lv2 := [(0, .ref (js_ad y (191))), (1, .int (nI (s))), (2, .int (nI (a))), (3, .int (nI (i)))]) F dX5_greatestRank_37 (by decide) [1, 2, 0, 3] rfl ?_
          refine js_iinc (pc := 38) (v := nI (i + 1)) (lv2 := [(0, .ref (js_ad y (191))), (1, .int (nI (s))), (2, .int (nI (a))), (3, .int (nI (i + 1)))]) F dX5_greatestRank_38 3 rfl (nI_add _ _) (by decide) [1, 2, 3, 0] rfl ?_
          refine js_goto (pc := 41) (tgt := 4) F dX5_greatestRank_41 (by decide) ?_
          exact ih4 (i + 1) a (by omega) (by simp only [jm_max]; rw [← ha]; first | (rw [if_pos (by omega)]; done) | (rw [if_neg (by omega)]; done)) (by have := hK i (by omega); omega) (by omega)
        · skip
          refine js_aload_n (pc := 25) 0 F rfl dX5_greatestRank_25 ?_
          refine js_iload_n (pc := 26) 1 F rfl dX5_greatestRank_26 ?_
          refine js_iconst (pc := 27) (v := nI (2)) F (by decide) dX5_greatestRank_27 ?_
          refine js_iload_n (pc := 28) 3 F rfl dX5_greatestRank_28 ?_
          refine js_iaddN (pc := 29) (a := 2) (b := i) F dX5_greatestRank_29 ?_
          refine js_calli (pc := 30) F (c_X5_part _ hy (G := G) (s := s) (p := 2 + i) (by omega)) mf_X5_part gX5_greatestRank_X5_part rfl (by decide) (by decide) (js_ct_M) rfl rfl rfl (Nat.le_of_ble_eq_true rfl) dX5_greatestRank_30 ?_
          rintro _ _ ⟨hv30, rfl⟩
          rw [hv30, show G 192 ((1 + 106 * s) + (2 + i)) = nI (rk (i)) from ((hS.2.2.2.1 _ (by omega)).trans (congrArg nI (jz_lt (by omega))))]
          clear hv30
          refine js_goto (pc := 33) (tgt := 37) F dX5_greatestRank_33 (by decide) ?_
          refine js_istore_n (pc := 37) (lv2 := [(0, .ref (js_ad y (191))), (1, .int (nI (s))), (2, .int (nI (rk (i)))), (3, .int (nI (i)))]) F dX5_greatestRank_37 (by decide) [1, 2, 0, 3] rfl ?_
          refine js_iinc (pc := 38) (v := nI (i + 1)) (lv2 := [(0, .ref (js_ad y (191))), (1, .int (nI (s))), (2, .int (nI (rk (i)))), (3, .int (nI (i + 1)))]) F dX5_greatestRank_38 3 rfl (nI_add _ _) (by decide) [1, 2, 3, 0] rfl ?_
          refine js_goto (pc := 41) (tgt := 4) F dX5_greatestRank_41 (by decide) ?_
          exact ih4 (i + 1) (rk (i)) (by omega) (by simp only [jm_max]; rw [← ha]; first | (rw [if_pos (by omega)]; done) | (rw [if_neg (by omega)]; done)) (by have := hK i (by omega); omega) (by omega)
  exact L4 (_ + 1) 0 0 (Nat.zero_le _) (rfl) (by decide) (Nat.lt_succ_self _)
theorem in_X5_takeRanks_5 : ∀ w ∈ wsX50, w ∈ wsX5_takeRanks := by decide +kernel
theorem lk_X5_takeRanks_fieldLink_RX5_25_JoinedSketchesModel_ranks_I : Cond.fieldLink RX5 25 "JoinedSketchesModel" "ranks" "[I" ∈ wsX5_takeRanks := by decide +kernel
theorem mf_X5_takeRanks : js_M yX5_takeRanks cX5_takeRanks 3 none wsX5_takeRanks 1 := ⟨⟨_, rfl⟩, by decide +kernel, by decide +kernel, by decide +kernel, by decide +kernel⟩
set_option maxHeartbeats 4000000 in
set_option maxRecDepth 100000 in
theorem c_X5_takeRanks (la : Launch) {y : js_L} (hy : js_Dy y) {G : js_G} {s : Nat} (hs : s < 6) {B : Nat} {rk : Nat → Nat} {ls : Option (List Nat)} (hS : mr_S G 192 (1 + 106 * s) B rk ls) : js_Cv la y yX5_takeRanks wsX5_takeRanks 2 34 [.ref (js_ad y (191)), .int (nI (s))] G (fun G' => (∀ b, b < 64 → G' 197 b = nI (jz B rk b)) ∧ mfR G G') := by
  obtain ⟨hB2, hB6, hB, hR, hK, hL⟩ := id hS
  have hp : 2 ^ B ≤ 64 := jm_p6 hB6
  have hp1 := jm_p1 B
  have hp4 := jm_p4 hB2
  refine js_ofv mf_X5_takeRanks (Nat.le_of_ble_eq_true rfl) hy (fun X F hr => ?_)
  replace F : js_F X y cX5_takeRanks 3 RX5 wsX5_takeRanks 2 34 := F
  show js_W X y 3 _ G 0 [(0, .ref (js_ad y (191))), (1, .int (nI (s)))] []
  refine js_iconst (pc := 0) (v := nI (0)) F (by decide) dX5_takeRanks_0 ?_
  refine js_istore_n (pc := 1) (lv2 := [(0, .ref (js_ad y (191))), (1, .int (nI (s))), (2, .int (nI (0)))]) F dX5_takeRanks_1 (by decide) [1, 2, 0] rfl ?_
  have L2 : ∀ (fu2 : Nat) (k : Nat) (G1 : js_G) (hk : k ≤ 64) (h1 : ∀ b, b < k → G1 197 b = nI (jz B rk b)) (hf : mfR G G1) (hfu2 : 64 - k < fu2), js_W X y 3 (js_Qv X y (fun G' => (∀ b, b < 64 → G' 197 b = nI (jz B rk b)) ∧ mfR G G')) G1 2 [(0, .ref (js_ad y (191))), (1, .int (nI (s))), (2, .int (nI (k)))] [] := by
    intro fu2
    induction fu2 with
    | zero => intro k G1 hk h1 hf hfu2; exact absurd hfu2 (Nat.not_lt_zero _)
    | succ fu2 ih2 =>
      intro k G1 hk h1 hf hfu2
      refine js_iload_n (pc := 2) 2 F rfl dX5_takeRanks_2 ?_
      refine js_bipush (pc := 3) (v := nI (64)) F (by decide) dX5_takeRanks_3 ?_
      refine js_icmp_geN (pc := 5) (a := k) (b := 64) (tgt := 28) F (by omega) (by decide) dX5_takeRanks_5 (by decide) (fun h5 => ?_) (fun h5 => ?_)
      · skip
        refine js_vret (pc := 28) F hr ?_ dX5_takeRanks_28
        exact ⟨fun b hb => h1 b (by omega), hf⟩
      · skip
        refine js_aload_n (pc := 8) 0 F rfl dX5_takeRanks_8 ?_
        refine jg_M_ranks (pc := 9) F in_X5_takeRanks_5 (lk_X5_takeRanks_fieldLink_RX5_25_JoinedSketchesModel_ranks_I) dX5_takeRanks_9 ?_
        refine js_iload_n (pc := 12) 2 F rfl dX5_takeRanks_12 ?_
        refine js_aload_n (pc := 13) 0 F rfl dX5_takeRanks_13 ?_
        refine js_iload_n (pc := 14) 1 F rfl dX5_takeRanks_14 ?_
        refine js_iconst (pc := 15) (v := nI (2)) F (by decide) dX5_takeRanks_15 ?_
        refine js_iload_n (pc := 16) 2 F rfl dX5_takeRanks_16 ?_
        refine js_iaddN (pc := 17) (a := 2) (b := k) F dX5_takeRanks_17 ?_
        refine js_calli (pc := 18) F (c_X5_part _ hy (G := G1) (s := s) (p := 2 + k) (by omega)) mf_X5_part gX5_takeRanks_X5_part rfl (by decide) (by decide) (js_ct_M) rfl rfl rfl (Nat.le_of_ble_eq_true rfl) dX5_takeRanks_18 ?_
        rintro _ _ ⟨hv18, rfl⟩
        rw [hv18, show G1 192 ((1 + 106 * s) + (2 + k)) = nI (jz (B) (rk) (k)) from ((hS.co (hf 192 (by decide))).2.2.2.1 _ (by omega))]
        clear hv18
        refine js_iast (pc := 21) (j := k) F (by decide) (fun _ => js_ct_Mr) rfl (by omega) (by decide) dX5_takeRanks_21 ?_
        refine js_iinc (pc := 22) (v := nI (k + 1)) (lv2 := [(0, .ref (js_ad y (191))), (1, .int (nI (s))), (2, .int (nI (k + 1)))]) F dX5_takeRanks_22 2 rfl (nI_add _ _) (by decide) [1, 2, 0] rfl ?_
        refine js_goto (pc := 25) (tgt := 2) F dX5_takeRanks_25 (by decide) ?_
        exact ih2 (k + 1) (js_st G1 (197) (k) (nI (jz (B) (rk) (k)))) (by omega) (fun b hb => by rw [js_st_s]; unfold upd; by_cases q : b = k; (rw [if_pos q, q]); (rw [if_neg q]; exact h1 b (by omega))) (hf.tr mfR.st) (by omega)
  exact L2 (_ + 1) 0 G (by decide) (fun b hb => absurd hb (Nat.not_lt_zero _)) (mfR.rf) (Nat.lt_succ_self _)
theorem in_X5_sumBy_5 : ∀ w ∈ wsX50, w ∈ wsX5_sumBy := by decide +kernel
theorem lk_X5_sumBy_constant_RX5_75_65536 : Cond.constant RX5 75 (65536) ∈ wsX5_sumBy := by decide +kernel
theorem lk_X5_sumBy_fieldLink_RX5_25_JoinedSketchesModel_ranks_I : Cond.fieldLink RX5 25 "JoinedSketchesModel" "ranks" "[I" ∈ wsX5_sumBy := by decide +kernel
theorem mf_X5_sumBy : js_M yX5_sumBy cX5_sumBy 4 (some .int) wsX5_sumBy 1 := ⟨⟨_, rfl⟩, by decide +kernel, by decide +kernel, by decide +kernel, by decide +kernel⟩
set_option maxHeartbeats 4000000 in
set_option maxRecDepth 100000 in
theorem c_X5_sumBy (la : Launch) {y : js_L} (hy : js_Dy y) {G : js_G} {m : Nat} (hm : m ≤ 64) {rk : Nat → Nat} (hR : ∀ b, b < m → G 197 b = nI (rk b)) (hK : ∀ b, b < m → rk b ≤ 16) : js_Ci la y yX5_sumBy wsX5_sumBy 1 12 [.ref (js_ad y (191)), .int (nI (m))] G (fun r G' => r = nI (jm_S rk m) ∧ G = G') := by
  refine js_ofi mf_X5_sumBy (Nat.le_of_ble_eq_true rfl) hy (fun X F hr => ?_)
  replace F : js_F X y cX5_sumBy 4 RX5 wsX5_sumBy 1 12 := F
  show js_W X y 4 _ G 0 [(0, .ref (js_ad y (191))), (1, .int (nI (m)))] []
  refine js_iconst (pc := 0) (v := nI (0)) F (by decide) dX5_sumBy_0 ?_
  refine js_istore_n (pc := 1) (lv2 := [(0, .ref (js_ad y (191))), (1, .int (nI (m))), (2, .int (nI (0)))]) F dX5_sumBy_1 (by decide) [1, 2, 0] rfl ?_
  refine js_iconst (pc := 2) (v := nI (0)) F (by decide) dX5_sumBy_2 ?_
  refine js_istore_n (pc := 3) (lv2 := [(0, .ref (js_ad y (191))), (1, .int (nI (m))), (2, .int (nI (0))), (3, .int (nI (0)))]) F dX5_sumBy_3 (by decide) [1, 2, 3, 0] rfl ?_
  have L4 : ∀ (fu4 : Nat) (i : Nat) (a : Nat) (hi : i ≤ m) (ha : a = jm_sum (fun b => 65536 / 2 ^ rk b) i) (hfu4 : m - i < fu4), js_W X y 4 (js_Qi X y (fun r G' => r = nI (jm_S rk m) ∧ G = G')) G 4 [(0, .ref (js_ad y (191))), (1, .int (nI (m))), (2, .int (nI (a))), (3, .int (nI (i)))] [] := by
    intro fu4
    induction fu4 with
    | zero => intro i a hi ha hfu4; exact absurd hfu4 (Nat.not_lt_zero _)
    | succ fu4 ih4 =>
      intro i a hi ha hfu4
      refine js_iload_n (pc := 4) 3 F rfl dX5_sumBy_4 ?_
      refine js_iload_n (pc := 5) 1 F rfl dX5_sumBy_5 ?_
      refine js_icmp_geN (pc := 6) (a := i) (b := m) (tgt := 27) F (by omega) (by omega) dX5_sumBy_6 (by decide) (fun h6 => ?_) (fun h6 => ?_)
      · skip
        refine js_iload_n (pc := 27) 2 F rfl dX5_sumBy_27 ?_
        refine js_iret (pc := 28) F hr (rfl) ?_ dX5_sumBy_28
        exact ⟨by rw [ha, show i = m by omega]; rfl, rfl⟩
      · skip
        refine js_iload_n (pc := 9) 2 F rfl dX5_sumBy_9 ?_
        refine js_ldc (pc := 10) (v := nI (65536)) F (lk_X5_sumBy_constant_RX5_75_65536) dX5_sumBy_10 ?_
        refine js_aload_n (pc := 12) 0 F rfl dX5_sumBy_12 ?_
        refine jg_M_ranks (pc := 13) F in_X5_sumBy_5 (lk_X5_sumBy_fieldLink_RX5_25_JoinedSketchesModel_ranks_I) dX5_sumBy_13 ?_
        refine js_iload_n (pc := 16) 3 F rfl dX5_sumBy_16 ?_
        refine js_iald (pc := 17) (j := i) (v := nI (rk (i))) F (by decide) (js_ct_Mr) rfl (by omega) (by decide) (hR _ (by omega)) dX5_sumBy_17 ?_
        refine js_ishrN (pc := 18) (a := 65536) (b := rk (i)) F (by have := hK i (by omega); omega) (by decide) dX5_sumBy_18 ?_
        refine js_iaddN (pc := 19) (a := a) (b := 65536 / 2 ^ (rk (i))) F dX5_sumBy_19 ?_
        refine js_istore_n (pc := 20) (lv2 := [(0, .ref (js_ad y (191))), (1, .int (nI (m))), (2, .int (nI (a + (65536 / 2 ^ (rk (i)))))), (3, .int (nI (i)))]) F dX5_sumBy_20 (by decide) [1, 2, 0, 3] rfl ?_
        refine js_iinc (pc := 21) (v := nI (i + 1)) (lv2 := [(0, .ref (js_ad y (191))), (1, .int (nI (m))), (2, .int (nI (a + (65536 / 2 ^ (rk (i)))))), (3, .int (nI (i + 1)))]) F dX5_sumBy_21 3 rfl (nI_add _ _) (by decide) [1, 2, 3, 0] rfl ?_
        refine js_goto (pc := 24) (tgt := 4) F dX5_sumBy_24 (by decide) ?_
        exact ih4 (i + 1) (a + (65536 / 2 ^ (rk (i)))) (by omega) (by simp only [jm_sum]; rw [← ha]) (by omega)
  exact L4 (_ + 1) 0 0 (Nat.zero_le _) (rfl) (Nat.lt_succ_self _)
theorem in_X5_emptyBy_5 : ∀ w ∈ wsX50, w ∈ wsX5_emptyBy := by decide +kernel
theorem lk_X5_emptyBy_fieldLink_RX5_25_JoinedSketchesModel_ranks_I : Cond.fieldLink RX5 25 "JoinedSketchesModel" "ranks" "[I" ∈ wsX5_emptyBy := by decide +kernel
theorem mf_X5_emptyBy : js_M yX5_emptyBy cX5_emptyBy 4 (some .int) wsX5_emptyBy 1 := ⟨⟨_, rfl⟩, by decide +kernel, by decide +kernel, by decide +kernel, by decide +kernel⟩
set_option maxHeartbeats 4000000 in
set_option maxRecDepth 100000 in
theorem c_X5_emptyBy (la : Launch) {y : js_L} (hy : js_Dy y) {G : js_G} {m : Nat} (hm : m ≤ 64) {rk : Nat → Nat} (hR : ∀ b, b < m → G 197 b = nI (rk b)) (hK : ∀ b, b < m → rk b ≤ 16) : js_Ci la y yX5_emptyBy wsX5_emptyBy 1 12 [.ref (js_ad y (191)), .int (nI (m))] G (fun r G' => r = nI (jm_emp rk m) ∧ G = G') := by
  refine js_ofi mf_X5_emptyBy (Nat.le_of_ble_eq_true rfl) hy (fun X F hr => ?_)
  replace F : js_F X y cX5_emptyBy 4 RX5 wsX5_emptyBy 1 12 := F
  show js_W X y 4 _ G 0 [(0, .ref (js_ad y (191))), (1, .int (nI (m)))] []
  refine js_iconst (pc := 0) (v := nI (0)) F (by decide) dX5_emptyBy_0 ?_
  refine js_istore_n (pc := 1) (lv2 := [(0, .ref (js_ad y (191))), (1, .int (nI (m))), (2, .int (nI (0)))]) F dX5_emptyBy_1 (by decide) [1, 2, 0] rfl ?_
  refine js_iconst (pc := 2) (v := nI (0)) F (by decide) dX5_emptyBy_2 ?_
  refine js_istore_n (pc := 3) (lv2 := [(0, .ref (js_ad y (191))), (1, .int (nI (m))), (2, .int (nI (0))), (3, .int (nI (0)))]) F dX5_emptyBy_3 (by decide) [1, 2, 3, 0] rfl ?_
  have L4 : ∀ (fu4 : Nat) (i : Nat) (a : Nat) (hi : i ≤ m) (ha : a = jm_sum (fun b => if rk b = 0 then 1 else 0) i) (hfu4 : m - i < fu4), js_W X y 4 (js_Qi X y (fun r G' => r = nI (jm_emp rk m) ∧ G = G')) G 4 [(0, .ref (js_ad y (191))), (1, .int (nI (m))), (2, .int (nI (a))), (3, .int (nI (i)))] [] := by
    intro fu4
    induction fu4 with
    | zero => intro i a hi ha hfu4; exact absurd hfu4 (Nat.not_lt_zero _)
    | succ fu4 ih4 =>
      intro i a hi ha hfu4
      refine js_iload_n (pc := 4) 3 F rfl dX5_emptyBy_4 ?_
      refine js_iload_n (pc := 5) 1 F rfl dX5_emptyBy_5 ?_
      refine js_icmp_geN (pc := 6) (a := i) (b := m) (tgt := 32) F (by first | omega | (have := hK i (by omega); omega)) (by first | omega | (have := hK i (by omega); omega)) dX5_emptyBy_6 (by decide) (fun h6 => ?_) (fun h6 => ?_)
      · skip
        refine js_iload_n (pc := 32) 2 F rfl dX5_emptyBy_32 ?_
        refine js_iret (pc := 33) F hr (rfl) ?_ dX5_emptyBy_33
        exact ⟨by rw [ha, show i = m by omega]; rfl, rfl⟩
      · skip
        refine js_iload_n (pc := 9) 2 F rfl dX5_emptyBy_9 ?_
        refine js_aload_n (pc := 10) 0 F rfl dX5_emptyBy_10 ?_
        refine jg_M_ranks (pc := 11) F in_X5_emptyBy_5 (lk_X5_emptyBy_fieldLink_RX5_25_JoinedSketchesModel_ranks_I) dX5_emptyBy_11 ?_
        refine js_iload_n (pc := 14) 3 F rfl dX5_emptyBy_14 ?_
        refine js_iald (pc := 15) (j := i) (v := nI (rk (i))) F (by decide) (js_ct_Mr) rfl (by omega) (by decide) (hR _ (by omega)) dX5_emptyBy_15 ?_
        refine js_if_neN (pc := 16) (a := rk (i)) (tgt := 23) F (by first | omega | (have := hK i (by omega); omega)) dX5_emptyBy_16 (by decide) (fun h16 => ?_) (fun h16 => ?_)
        · skip
          refine js_iconst (pc := 23) (v := nI (0)) F (by decide) dX5_emptyBy_23 ?_
          refine js_iaddN (pc := 24) (a := a) (b := 0) F dX5_emptyBy_24 ?_
          refine js_istore_n (pc := 25) (lv2 := [(0, .ref (js_ad y (191))), (1, .int (nI (m))), (2, .int (nI (a + 0))), (3, .int (nI (i)))]) F dX5_emptyBy_25 (by decide) [1, 2, 0, 3] rfl ?_
          refine js_iinc (pc := 26) (v := nI (i + 1)) (lv2 := [(0, .ref (js_ad y (191))), (1, .int (nI (m))), (2, .int (nI (a + 0))), (3, .int (nI (i + 1)))]) F dX5_emptyBy_26 3 rfl (nI_add _ _) (by decide) [1, 2, 3, 0] rfl ?_
          refine js_goto (pc := 29) (tgt := 4) F dX5_emptyBy_29 (by decide) ?_
          exact ih4 (i + 1) (a + 0) (by omega) (by simp only [jm_sum]; rw [← ha]; split <;> omega) (by omega)
        · skip
          refine js_iconst (pc := 19) (v := nI (1)) F (by decide) dX5_emptyBy_19 ?_
          refine js_goto (pc := 20) (tgt := 24) F dX5_emptyBy_20 (by decide) ?_
          refine js_iaddN (pc := 24) (a := a) (b := 1) F dX5_emptyBy_24 ?_
          refine js_istore_n (pc := 25) (lv2 := [(0, .ref (js_ad y (191))), (1, .int (nI (m))), (2, .int (nI (a + 1))), (3, .int (nI (i)))]) F dX5_emptyBy_25 (by decide) [1, 2, 0, 3] rfl ?_
          refine js_iinc (pc := 26) (v := nI (i + 1)) (lv2 := [(0, .ref (js_ad y (191))), (1, .int (nI (m))), (2, .int (nI (a + 1))), (3, .int (nI (i + 1)))]) F dX5_emptyBy_26 3 rfl (nI_add _ _) (by decide) [1, 2, 3, 0] rfl ?_
          refine js_goto (pc := 29) (tgt := 4) F dX5_emptyBy_29 (by decide) ?_
          exact ih4 (i + 1) (a + 1) (by omega) (by simp only [jm_sum]; rw [← ha]; split <;> omega) (by omega)
  exact L4 (_ + 1) 0 0 (Nat.zero_le _) (rfl) (Nat.lt_succ_self _)
theorem lk_X5_rawBy_constantLong_RX5_54_65536 : Cond.constantLong RX5 54 (65536) ∈ wsX5_rawBy := by decide +kernel
theorem lk_X5_rawBy_constantLong_RX5_76_7 : Cond.constantLong RX5 76 (7) ∈ wsX5_rawBy := by decide +kernel
theorem lk_X5_rawBy_constantLong_RX5_78_10 : Cond.constantLong RX5 78 (10) ∈ wsX5_rawBy := by decide +kernel
theorem mf_X5_rawBy : js_M yX5_rawBy cX5_rawBy 2 (some .int) wsX5_rawBy 1 := ⟨⟨_, rfl⟩, by decide +kernel, by decide +kernel, by decide +kernel, by decide +kernel⟩
set_option maxHeartbeats 4000000 in
set_option maxRecDepth 100000 in
theorem c_X5_rawBy (la : Launch) {y : js_L} (hy : js_Dy y) {G : js_G} {m : Nat} (hm : m ≤ 64) {rk : Nat → Nat} (hR : ∀ b, b < m → G 197 b = nI (rk b)) (hK : ∀ b, b < m → rk b ≤ 16) (hm0 : 0 < m) : js_Ci la y yX5_rawBy wsX5_rawBy 2 35 [.ref (js_ad y (191)), .int (nI (m))] G (fun r G' => r = nI (jm_raw m (jm_S rk m)) ∧ G = G') := by
  have hmm : m * m ≤ 64 * 64 := Nat.mul_le_mul hm hm
  have hSl := jm_S_le rk m
  have hSg := jm_S_ge hK
  refine js_ofi mf_X5_rawBy (Nat.le_of_ble_eq_true rfl) hy (fun X F hr => ?_)
  replace F : js_F X y cX5_rawBy 2 RX5 wsX5_rawBy 2 35 := F
  show js_W X y 2 _ G 0 [(0, .ref (js_ad y (191))), (1, .int (nI (m)))] []
  refine js_iload_n (pc := 0) 1 F rfl dX5_rawBy_0 ?_
  refine js_i2lN (pc := 1) F (by omega) dX5_rawBy_1 ?_
  refine js_iload_n (pc := 2) 1 F rfl dX5_rawBy_2 ?_
  refine js_i2lN (pc := 3) F (by omega) dX5_rawBy_3 ?_
  refine js_lmulN (pc := 4) (a := m) (b := m) F dX5_rawBy_4 ?_
  refine js_ldc2 (pc := 5) (v := lN (65536)) F (lk_X5_rawBy_constantLong_RX5_54_65536) dX5_rawBy_5 ?_
  refine js_lmulN (pc := 8) (a := m * m) (b := 65536) F dX5_rawBy_8 ?_
  refine js_ldc2 (pc := 9) (v := lN (7)) F (lk_X5_rawBy_constantLong_RX5_76_7) dX5_rawBy_9 ?_
  refine js_lmulN (pc := 12) (a := (m * m) * 65536) (b := 7) F dX5_rawBy_12 ?_
  refine js_ldc2 (pc := 13) (v := lN (10)) F (lk_X5_rawBy_constantLong_RX5_78_10) dX5_rawBy_13 ?_
  refine js_aload_n (pc := 16) 0 F rfl dX5_rawBy_16 ?_
  refine js_iload_n (pc := 17) 1 F rfl dX5_rawBy_17 ?_
  refine js_calli (pc := 18) F (c_X5_sumBy _ hy (G := G) (m := m) (by omega) (rk := rk) (hR) (hK)) mf_X5_sumBy gX5_rawBy_X5_sumBy rfl (by decide) (by decide) (js_ct_M) rfl rfl rfl (Nat.le_of_ble_eq_true rfl) dX5_rawBy_18 ?_
  rintro _ _ ⟨rfl, rfl⟩
  refine js_i2lN (pc := 21) F (by omega) dX5_rawBy_21 ?_
  refine js_lmulN (pc := 22) (a := 10) (b := jm_S rk m) F dX5_rawBy_22 ?_
  refine js_ldivN (pc := 23) (a := ((m * m) * 65536) * 7) (b := 10 * (jm_S rk m)) F (by omega) (by omega) (by omega) dX5_rawBy_23 ?_
  refine js_l2iN (pc := 24) F dX5_rawBy_24 ?_
  refine js_iret (pc := 25) F hr (rfl) ?_ dX5_rawBy_25
  exact ⟨rfl, rfl⟩
theorem mf_X5_estimateBy : js_M yX5_estimateBy cX5_estimateBy 6 (some .int) wsX5_estimateBy 1 := ⟨⟨_, rfl⟩, by decide +kernel, by decide +kernel, by decide +kernel, by decide +kernel⟩
set_option maxHeartbeats 4000000 in
set_option maxRecDepth 100000 in
theorem c_X5_estimateBy (la : Launch) {y : js_L} (hy : js_Dy y) {G : js_G} {m : Nat} (hm : m ≤ 64) {rk : Nat → Nat} (hR : ∀ b, b < m → G 197 b = nI (rk b)) (hK : ∀ b, b < m → rk b ≤ 16) (hm0 : 0 < m) : js_Ci la y yX5_estimateBy wsX5_estimateBy 3 56 [.ref (js_ad y (191)), .int (nI (m))] G (fun r G' => r = nI (jm_est rk m) ∧ G = G') := by
  have hrl := jm_raw_le hm0 (jm_S_ge hK) hm
  have hel : jm_emp rk m ≤ m := by have := jm_fil_emp rk m; omega
  refine js_ofi mf_X5_estimateBy (Nat.le_of_ble_eq_true rfl) hy (fun X F hr => ?_)
  replace F : js_F X y cX5_estimateBy 6 RX5 wsX5_estimateBy 3 56 := F
  show js_W X y 6 _ G 0 [(0, .ref (js_ad y (191))), (1, .int (nI (m)))] []
  refine js_aload_n (pc := 0) 0 F rfl dX5_estimateBy_0 ?_
  refine js_iload_n (pc := 1) 1 F rfl dX5_estimateBy_1 ?_
  refine js_calli (pc := 2) F (c_X5_rawBy _ hy (G := G) (m := m) (by omega) (rk := rk) (hR) (hK) (by omega)) mf_X5_rawBy gX5_estimateBy_X5_rawBy rfl (by decide) (by decide) (js_ct_M) rfl rfl rfl (Nat.le_of_ble_eq_true rfl) dX5_estimateBy_2 ?_
  rintro _ _ ⟨rfl, rfl⟩
  refine js_istore_n (pc := 5) (lv2 := [(0, .ref (js_ad y (191))), (1, .int (nI (m))), (2, .int (nI (jm_raw m (jm_S rk m))))]) F dX5_estimateBy_5 (by decide) [1, 2, 0] rfl ?_
  refine js_aload_n (pc := 6) 0 F rfl dX5_estimateBy_6 ?_
  refine js_iload_n (pc := 7) 1 F rfl dX5_estimateBy_7 ?_
  refine js_calli (pc := 8) F (c_X5_emptyBy _ hy (G := G) (m := m) (by omega) (rk := rk) (hR) (hK)) mf_X5_emptyBy gX5_estimateBy_X5_emptyBy rfl (by decide) (by decide) (js_ct_M) rfl rfl rfl (Nat.le_of_ble_eq_true rfl) dX5_estimateBy_8 ?_
  rintro _ _ ⟨rfl, rfl⟩
  refine js_istore_n (pc := 11) (lv2 := [(0, .ref (js_ad y (191))), (1, .int (nI (m))), (2, .int (nI (jm_raw m (jm_S rk m)))), (3, .int (nI (jm_emp rk m)))]) F dX5_estimateBy_11 (by decide) [1, 2, 3, 0] rfl ?_
  refine js_iload_n (pc := 12) 2 F rfl dX5_estimateBy_12 ?_
  refine js_iconst (pc := 13) (v := nI (5)) F (by decide) dX5_estimateBy_13 ?_
  refine js_iload_n (pc := 14) 1 F rfl dX5_estimateBy_14 ?_
  refine js_imulN (pc := 15) (a := 5) (b := m) F dX5_estimateBy_15 ?_
  refine js_iconst (pc := 16) (v := nI (2)) F (by decide) dX5_estimateBy_16 ?_
  refine js_idivN (pc := 17) (a := 5 * m) (b := 2) F (by omega) (by omega) (by omega) dX5_estimateBy_17 ?_
  refine js_icmp_gtN (pc := 18) (a := jm_raw m (jm_S rk m)) (b := (5 * m) / 2) (tgt := 25) F (by omega) (by omega) dX5_estimateBy_18 (by decide) (fun h18 => ?_) (fun h18 => ?_)
  · skip
    refine js_iload_n (pc := 25) 2 F rfl dX5_estimateBy_25 ?_
    refine js_iret (pc := 26) F hr (rfl) ?_ dX5_estimateBy_26
    exact ⟨by unfold jm_est; rw [if_neg (by omega)], rfl⟩
  · skip
    refine js_iload_n (pc := 21) 3 F rfl dX5_estimateBy_21 ?_
    refine js_if_neN (pc := 22) (a := jm_emp rk m) (tgt := 27) F (by omega) dX5_estimateBy_22 (by decide) (fun h22 => ?_) (fun h22 => ?_)
    · skip
      refine js_iconst (pc := 27) (v := nI (0)) F (by decide) dX5_estimateBy_27 ?_
      refine js_istore (pc := 28) (lv2 := [(0, .ref (js_ad y (191))), (1, .int (nI (m))), (2, .int (nI (jm_raw m (jm_S rk m)))), (3, .int (nI (jm_emp rk m))), (4, .int (nI (0)))]) F dX5_estimateBy_28 (by decide) [1, 2, 3, 4, 0] rfl ?_
      refine js_iload_n (pc := 30) 3 F rfl dX5_estimateBy_30 ?_
      refine js_iconst (pc := 31) (v := nI (1)) F (by decide) dX5_estimateBy_31 ?_
      refine js_iaddN (pc := 32) (a := jm_emp rk m) (b := 1) F dX5_estimateBy_32 ?_
      refine js_istore (pc := 33) (lv2 := [(0, .ref (js_ad y (191))), (1, .int (nI (m))), (2, .int (nI (jm_raw m (jm_S rk m)))), (3, .int (nI (jm_emp rk m))), (4, .int (nI (0))), (5, .int (nI ((jm_emp rk m) + 1)))]) F dX5_estimateBy_33 (by decide) [1, 2, 3, 4, 5, 0] rfl ?_
      have L35 : ∀ (fu35 : Nat) (i : Nat) (a : Nat) (hi : i ≤ m - jm_emp rk m) (ha : a = jm_sum (fun i => m / (jm_emp rk m + 1 + i)) i) (hfu35 : m - jm_emp rk m - i < fu35), js_W X y 6 (js_Qi X y (fun r G' => r = nI (jm_est rk m) ∧ G = G')) G 35 [(0, .ref (js_ad y (191))), (1, .int (nI (m))), (2, .int (nI (jm_raw m (jm_S rk m)))), (3, .int (nI (jm_emp rk m))), (4, .int (nI (a))), (5, .int (nI (jm_emp rk m + 1 + i)))] [] := by
        intro fu35
        induction fu35 with
        | zero => intro i a hi ha hfu35; exact absurd hfu35 (Nat.not_lt_zero _)
        | succ fu35 ih35 =>
          intro i a hi ha hfu35
          refine js_iload (pc := 35) 5 F rfl dX5_estimateBy_35 ?_
          refine js_iload_n (pc := 37) 1 F rfl dX5_estimateBy_37 ?_
          refine js_icmp_gtN (pc := 38) (a := jm_emp rk m + 1 + i) (b := m) (tgt := 56) F (by omega) (by omega) dX5_estimateBy_38 (by decide) (fun h38 => ?_) (fun h38 => ?_)
          · skip
            refine js_iload (pc := 56) 4 F rfl dX5_estimateBy_56 ?_
            refine js_iret (pc := 58) F hr (rfl) ?_ dX5_estimateBy_58
            exact ⟨by unfold jm_est; rw [if_pos (by omega), ha, show i = m - jm_emp rk m by omega]; rfl, rfl⟩
          · skip
            refine js_iload (pc := 41) 4 F rfl dX5_estimateBy_41 ?_
            refine js_iload_n (pc := 43) 1 F rfl dX5_estimateBy_43 ?_
            refine js_iload (pc := 44) 5 F rfl dX5_estimateBy_44 ?_
            refine js_idivN (pc := 46) (a := m) (b := jm_emp rk m + 1 + i) F (by omega) (by omega) (by omega) dX5_estimateBy_46 ?_
            refine js_iaddN (pc := 47) (a := a) (b := m / (jm_emp rk m + 1 + i)) F dX5_estimateBy_47 ?_
            refine js_istore (pc := 48) (lv2 := [(0, .ref (js_ad y (191))), (1, .int (nI (m))), (2, .int (nI (jm_raw m (jm_S rk m)))), (3, .int (nI (jm_emp rk m))), (4, .int (nI (a + (m / (jm_emp rk m + 1 + i))))), (5, .int (nI (jm_emp rk m + 1 + i)))]) F dX5_estimateBy_48 (by decide) [1, 2, 3, 4, 0, 5] rfl ?_
            refine js_iinc (pc := 50) (v := nI ((jm_emp rk m + 1 + i) + 1)) (lv2 := [(0, .ref (js_ad y (191))), (1, .int (nI (m))), (2, .int (nI (jm_raw m (jm_S rk m)))), (3, .int (nI (jm_emp rk m))), (4, .int (nI (a + (m / (jm_emp rk m + 1 + i))))), (5, .int (nI ((jm_emp rk m + 1 + i) + 1)))]) F dX5_estimateBy_50 5 rfl (nI_add _ _) (by decide) [1, 2, 3, 4, 5, 0] rfl ?_
            refine js_goto (pc := 53) (tgt := 35) F dX5_estimateBy_53 (by decide) ?_
            exact ih35 (i + 1) (a + (m / (jm_emp rk m + 1 + i))) (by omega) (by simp only [jm_sum]; rw [← ha]) (by omega)
      exact L35 (_ + 1) 0 0 (Nat.zero_le _) (rfl) (Nat.lt_succ_self _)
    · skip
      refine js_iload_n (pc := 25) 2 F rfl dX5_estimateBy_25 ?_
      refine js_iret (pc := 26) F hr (rfl) ?_ dX5_estimateBy_26
      exact ⟨by unfold jm_est; rw [if_neg (by omega)], rfl⟩
theorem mf_X5_estimateOf : js_M yX5_estimateOf cX5_estimateOf 2 (some .int) wsX5_estimateOf 1 := ⟨⟨_, rfl⟩, by decide +kernel, by decide +kernel, by decide +kernel, by decide +kernel⟩
set_option maxHeartbeats 4000000 in
set_option maxRecDepth 100000 in
theorem c_X5_estimateOf (la : Launch) {y : js_L} (hy : js_Dy y) {G : js_G} {s : Nat} (hs : s < 6) {B : Nat} {rk : Nat → Nat} {ls : Option (List Nat)} (hS : mr_S G 192 (1 + 106 * s) B rk ls) : js_Ci la y yX5_estimateOf wsX5_estimateOf 4 81 [.ref (js_ad y (191)), .int (nI (s))] G (fun r G' => r = nI (jm_est rk (2 ^ B)) ∧ mfR G G') := by
  obtain ⟨hB2, hB6, hB, hR, hK, hL⟩ := id hS
  have hp : 2 ^ B ≤ 64 := jm_p6 hB6
  have hp1 := jm_p1 B
  have hp4 := jm_p4 hB2
  refine js_ofi mf_X5_estimateOf (Nat.le_of_ble_eq_true rfl) hy (fun X F hr => ?_)
  replace F : js_F X y cX5_estimateOf 2 RX5 wsX5_estimateOf 4 81 := F
  show js_W X y 2 _ G 0 [(0, .ref (js_ad y (191))), (1, .int (nI (s)))] []
  refine js_aload_n (pc := 0) 0 F rfl dX5_estimateOf_0 ?_
  refine js_iload_n (pc := 1) 1 F rfl dX5_estimateOf_1 ?_
  refine js_callv (pc := 2) F (c_X5_takeRanks _ hy (s := s) (by omega) (G := G) (hS)) mf_X5_takeRanks gX5_estimateOf_X5_takeRanks rfl (by decide) (by decide) (js_ct_M) rfl rfl rfl (Nat.le_of_ble_eq_true rfl) dX5_estimateOf_2 ?_
  rintro G2 ⟨t2, f2⟩
  refine js_aload_n (pc := 5) 0 F rfl dX5_estimateOf_5 ?_
  refine js_aload_n (pc := 6) 0 F rfl dX5_estimateOf_6 ?_
  refine js_iload_n (pc := 7) 1 F rfl dX5_estimateOf_7 ?_
  refine js_calli (pc := 8) F (c_X5_bucketsOf _ hy (s := s) (by omega) (G := G2) ((hS).co (f2 192 (by decide)))) mf_X5_bucketsOf gX5_estimateOf_X5_bucketsOf rfl (by decide) (by decide) (js_ct_M) rfl rfl rfl (Nat.le_of_ble_eq_true rfl) dX5_estimateOf_8 ?_
  rintro _ _ ⟨rfl, rfl⟩
  refine js_calli (pc := 11) F (c_X5_estimateBy _ hy (G := G2) (m := 2 ^ B) (by omega) (rk := rk) (fun b hb => (t2 b (by omega)).trans (congrArg nI (jz_lt hb))) (fun b hb => Nat.le_trans ((hS).2.2.2.2.1 b hb) (by omega)) (by omega)) mf_X5_estimateBy gX5_estimateOf_X5_estimateBy rfl (by decide) (by decide) (js_ct_M) rfl rfl rfl (Nat.le_of_ble_eq_true rfl) dX5_estimateOf_11 ?_
  rintro _ _ ⟨rfl, rfl⟩
  refine js_iret (pc := 14) F hr (rfl) ?_ dX5_estimateOf_14
  exact ⟨rfl, f2⟩
theorem mf_X5_errorOf : js_M yX5_errorOf cX5_errorOf 3 (some .int) wsX5_errorOf 1 := ⟨⟨_, rfl⟩, by decide +kernel, by decide +kernel, by decide +kernel, by decide +kernel⟩
set_option maxHeartbeats 4000000 in
set_option maxRecDepth 100000 in
theorem c_X5_errorOf (la : Launch) {y : js_L} (hy : js_Dy y) {G : js_G} {s : Nat} (hs : s < 6) {B : Nat} {rk : Nat → Nat} {ls : Option (List Nat)} (hS : mr_S G 192 (1 + 106 * s) B rk ls) : js_Ci la y yX5_errorOf wsX5_errorOf 5 102 [.ref (js_ad y (191)), .int (nI (s))] G (fun r G' => r = nI (jm_err rk (2 ^ B)) ∧ mfR G G') := by
  obtain ⟨hB2, hB6, hB, hR, hK, hL⟩ := id hS
  have hp : 2 ^ B ≤ 64 := jm_p6 hB6
  have hp1 := jm_p1 B
  have hp4 := jm_p4 hB2
  have hel := jm_est_le (rk := rk) (m := 2 ^ B) (by omega) hp (fun b hb => Nat.le_trans (hK b hb) (by omega))
  refine js_ofi mf_X5_errorOf (Nat.le_of_ble_eq_true rfl) hy (fun X F hr => ?_)
  replace F : js_F X y cX5_errorOf 3 RX5 wsX5_errorOf 5 102 := F
  show js_W X y 3 _ G 0 [(0, .ref (js_ad y (191))), (1, .int (nI (s)))] []
  refine js_iconst (pc := 0) (v := nI (1)) F (by decide) dX5_errorOf_0 ?_
  refine js_istore_n (pc := 1) (lv2 := [(0, .ref (js_ad y (191))), (1, .int (nI (s))), (2, .int (nI (1)))]) F dX5_errorOf_1 (by decide) [1, 2, 0] rfl ?_
  have L2 : ∀ (fu2 : Nat) (q : Nat) (hq1 : 1 ≤ q) (hq : q * q ≤ 2 ^ B) (hq8 : q ≤ 8) (hfu2 : 9 - q < fu2), js_W X y 3 (js_Qi X y (fun r G' => r = nI (jm_err rk (2 ^ B)) ∧ mfR G G')) G 2 [(0, .ref (js_ad y (191))), (1, .int (nI (s))), (2, .int (nI (q)))] [] := by
    intro fu2
    induction fu2 with
    | zero => intro q hq1 hq hq8 hfu2; exact absurd hfu2 (Nat.not_lt_zero _)
    | succ fu2 ih2 =>
      intro q hq1 hq hq8 hfu2
      refine js_iload_n (pc := 2) 2 F rfl dX5_errorOf_2 ?_
      refine js_iconst (pc := 3) (v := nI (1)) F (by decide) dX5_errorOf_3 ?_
      refine js_iaddN (pc := 4) (a := q) (b := 1) F dX5_errorOf_4 ?_
      refine js_iload_n (pc := 5) 2 F rfl dX5_errorOf_5 ?_
      refine js_iconst (pc := 6) (v := nI (1)) F (by decide) dX5_errorOf_6 ?_
      refine js_iaddN (pc := 7) (a := q) (b := 1) F dX5_errorOf_7 ?_
      refine js_imulN (pc := 8) (a := q + 1) (b := q + 1) F dX5_errorOf_8 ?_
      refine js_aload_n (pc := 9) 0 F rfl dX5_errorOf_9 ?_
      refine js_iload_n (pc := 10) 1 F rfl dX5_errorOf_10 ?_
      refine js_calli (pc := 11) F (c_X5_bucketsOf _ hy (s := s) (by omega) (G := G) (hS)) mf_X5_bucketsOf gX5_errorOf_X5_bucketsOf rfl (by decide) (by decide) (js_ct_M) rfl rfl rfl (Nat.le_of_ble_eq_true rfl) dX5_errorOf_11 ?_
      rintro _ _ ⟨rfl, rfl⟩
      refine js_icmp_gtN (pc := 14) (a := (q + 1) * (q + 1)) (b := 2 ^ B) (tgt := 23) F (by first | omega | (have := Nat.mul_le_mul (show q + 1 ≤ 9 by omega) (show q + 1 ≤ 9 by omega); omega)) (by first | omega | (have := Nat.mul_le_mul (show q + 1 ≤ 9 by omega) (show q + 1 ≤ 9 by omega); omega)) dX5_errorOf_14 (by decide) (fun h14 => ?_) (fun h14 => ?_)
      · skip
        have hrt := jm_root_is B hB2 hB6 q hq (by omega)
        refine js_aload_n (pc := 23) 0 F rfl dX5_errorOf_23 ?_
        refine js_iload_n (pc := 24) 1 F rfl dX5_errorOf_24 ?_
        refine js_calli (pc := 25) F (c_X5_estimateOf _ hy (s := s) (by omega) (G := G) (hS)) mf_X5_estimateOf gX5_errorOf_X5_estimateOf rfl (by decide) (by decide) (js_ct_M) rfl rfl rfl (Nat.le_of_ble_eq_true rfl) dX5_errorOf_25 ?_
        rintro _ G25 ⟨rfl, f25⟩
        refine js_bipush (pc := 28) (v := nI (104)) F (by decide) dX5_errorOf_28 ?_
        refine js_imulN (pc := 30) (a := jm_est rk (2 ^ B)) (b := 104) F dX5_errorOf_30 ?_
        refine js_bipush (pc := 31) (v := nI (100)) F (by decide) dX5_errorOf_31 ?_
        refine js_iload_n (pc := 33) 2 F rfl dX5_errorOf_33 ?_
        refine js_imulN (pc := 34) (a := 100) (b := q) F dX5_errorOf_34 ?_
        refine js_idivN (pc := 35) (a := (jm_est rk (2 ^ B)) * 104) (b := 100 * q) F (by omega) (by omega) (by omega) dX5_errorOf_35 ?_
        refine js_iret (pc := 36) F hr (rfl) ?_ dX5_errorOf_36
        subst hrt
        exact ⟨rfl, f25⟩
      · skip
        refine js_iinc (pc := 17) (v := nI (q + 1)) (lv2 := [(0, .ref (js_ad y (191))), (1, .int (nI (s))), (2, .int (nI (q + 1)))]) F dX5_errorOf_17 2 rfl (nI_add _ _) (by decide) [1, 2, 0] rfl ?_
        refine js_goto (pc := 20) (tgt := 2) F dX5_errorOf_20 (by decide) ?_
        exact ih2 (q + 1) (by omega) (by omega) (by rcases Nat.lt_or_ge q 8 with z | z; omega; exfalso; have := Nat.mul_le_mul (show 9 ≤ q + 1 by omega) (show 9 ≤ q + 1 by omega); omega) (by omega)
  exact L2 (_ + 1) 1 (by decide) (by omega) (by decide) (Nat.lt_succ_self _)
theorem mf_X5_isFull : js_M yX5_isFull cX5_isFull 2 (some .boolean) wsX5_isFull 1 := ⟨⟨_, rfl⟩, by decide +kernel, by decide +kernel, by decide +kernel, by decide +kernel⟩
set_option maxHeartbeats 4000000 in
set_option maxRecDepth 100000 in
theorem c_X5_isFull_n (la : Launch) {y : js_L} (hy : js_Dy y) {G : js_G} {s : Nat} (hs : s < 6) {B : Nat} {rk : Nat → Nat} (hS : mr_S G 192 (1 + 106 * s) B rk none) : js_Ci la y yX5_isFull wsX5_isFull 2 34 [.ref (js_ad y (191)), .int (nI (s))] G (fun r G' => r = nI 1 ∧ G = G') := by
  obtain ⟨hB2, hB6, hB, hR, hK, hL⟩ := id hS
  have hp : 2 ^ B ≤ 64 := jm_p6 hB6
  have hp1 := jm_p1 B
  have hp4 := jm_p4 hB2
  refine js_ofi mf_X5_isFull (Nat.le_of_ble_eq_true rfl) hy (fun X F hr => ?_)
  replace F : js_F X y cX5_isFull 2 RX5 wsX5_isFull 2 34 := F
  show js_W X y 2 _ G 0 [(0, .ref (js_ad y (191))), (1, .int (nI (s)))] []
  refine js_aload_n (pc := 0) 0 F rfl dX5_isFull_0 ?_
  refine js_iload_n (pc := 1) 1 F rfl dX5_isFull_1 ?_
  refine js_iconst (pc := 2) (v := nI (1)) F (by decide) dX5_isFull_2 ?_
  refine js_calli (pc := 3) F (c_X5_part _ hy (G := G) (s := s) (p := 1) (by omega)) mf_X5_part gX5_isFull_X5_part rfl (by decide) (by decide) (js_ct_M) rfl rfl rfl (Nat.le_of_ble_eq_true rfl) dX5_isFull_3 ?_
  rintro _ _ ⟨hv3, rfl⟩
  rw [hv3, show G 192 ((1 + 106 * s) + 1) = -6 from (hS.2.2.2.2.2)]
  clear hv3
  refine js_bipush (pc := 6) (v := (-6)) F (by decide) dX5_isFull_6 ?_
  refine js_icmp_ne (pc := 8) (tgt := 15) F dX5_isFull_8 (by decide) (fun h8 => by exact absurd rfl h8) (fun h8 => ?_)
  refine js_iconst (pc := 11) (v := nI (1)) F (by decide) dX5_isFull_11 ?_
  refine js_goto (pc := 12) (tgt := 16) F dX5_isFull_12 (by decide) ?_
  refine js_iret (pc := 16) F hr (rfl) ?_ dX5_isFull_16
  exact ⟨rfl, rfl⟩
set_option maxHeartbeats 4000000 in
set_option maxRecDepth 100000 in
theorem c_X5_isFull_s (la : Launch) {y : js_L} (hy : js_Dy y) {G : js_G} {s : Nat} (hs : s < 6) {B : Nat} {rk : Nat → Nat} {l : List Nat} (hS : mr_S G 192 (1 + 106 * s) B rk (some l)) : js_Ci la y yX5_isFull wsX5_isFull 2 34 [.ref (js_ad y (191)), .int (nI (s))] G (fun r G' => r = nI 0 ∧ G = G') := by
  obtain ⟨hB2, hB6, hB, hR, hK, hL⟩ := id hS
  have hp : 2 ^ B ≤ 64 := jm_p6 hB6
  have hp1 := jm_p1 B
  have hp4 := jm_p4 hB2
  have hlen := hL.2.1
  refine js_ofi mf_X5_isFull (Nat.le_of_ble_eq_true rfl) hy (fun X F hr => ?_)
  replace F : js_F X y cX5_isFull 2 RX5 wsX5_isFull 2 34 := F
  show js_W X y 2 _ G 0 [(0, .ref (js_ad y (191))), (1, .int (nI (s)))] []
  refine js_aload_n (pc := 0) 0 F rfl dX5_isFull_0 ?_
  refine js_iload_n (pc := 1) 1 F rfl dX5_isFull_1 ?_
  refine js_iconst (pc := 2) (v := nI (1)) F (by decide) dX5_isFull_2 ?_
  refine js_calli (pc := 3) F (c_X5_part _ hy (G := G) (s := s) (p := 1) (by omega)) mf_X5_part gX5_isFull_X5_part rfl (by decide) (by decide) (js_ct_M) rfl rfl rfl (Nat.le_of_ble_eq_true rfl) dX5_isFull_3 ?_
  rintro _ _ ⟨hv3, rfl⟩
  rw [hv3, show G 192 ((1 + 106 * s) + 1) = nI (l.length) from (hS.2.2.2.2.2.1)]
  clear hv3
  refine js_bipush (pc := 6) (v := (-6)) F (by decide) dX5_isFull_6 ?_
  refine js_icmp_ne (pc := 8) (tgt := 15) F dX5_isFull_8 (by decide) (fun h8 => ?_) (fun h8 => by exact (jn_ne6 (by omega) h8).elim)
  refine js_iconst (pc := 15) (v := nI (0)) F (by decide) dX5_isFull_15 ?_
  refine js_iret (pc := 16) F hr (rfl) ?_ dX5_isFull_16
  exact ⟨rfl, rfl⟩
theorem mf_X5_isListed : js_M yX5_isListed cX5_isListed 5 (some .boolean) wsX5_isListed 2 := ⟨⟨_, rfl⟩, by decide +kernel, by decide +kernel, by decide +kernel, by decide +kernel⟩
set_option maxHeartbeats 4000000 in
set_option maxRecDepth 100000 in
theorem c_X5_isListed (la : Launch) {y : js_L} (hy : js_Dy y) {G : js_G} {s : Nat} (hs : s < 6) {B : Nat} {rk : Nat → Nat} {l : List Nat} (hS : mr_S G 192 (1 + 106 * s) B rk (some l)) {t : Nat} (ht : t < 100000) : js_Ci la y yX5_isListed wsX5_isListed 2 34 [.ref (js_ad y (191)), .int (nI (s)), .int (nI (t))] G (fun r G' => r = nI (if t ∈ l then 1 else 0) ∧ G = G') := by
  obtain ⟨hB2, hB6, hB, hR, hK, hL⟩ := id hS
  have hp : 2 ^ B ≤ 64 := jm_p6 hB6
  have hp1 := jm_p1 B
  have hp4 := jm_p4 hB2
  obtain ⟨hl1, hlen, hE, hT⟩ := id hL
  refine js_ofi mf_X5_isListed (Nat.le_of_ble_eq_true rfl) hy (fun X F hr => ?_)
  replace F : js_F X y cX5_isListed 5 RX5 wsX5_isListed 2 34 := F
  show js_W X y 5 _ G 0 [(0, .ref (js_ad y (191))), (1, .int (nI (s))), (2, .int (nI (t)))] []
  refine js_iconst (pc := 0) (v := nI (0)) F (by decide) dX5_isListed_0 ?_
  refine js_istore_n (pc := 1) (lv2 := [(0, .ref (js_ad y (191))), (1, .int (nI (s))), (2, .int (nI (t))), (3, .int (nI (0)))]) F dX5_isListed_1 (by decide) [1, 2, 3, 0] rfl ?_
  refine js_iconst (pc := 2) (v := nI (0)) F (by decide) dX5_isListed_2 ?_
  refine js_istore (pc := 3) (lv2 := [(0, .ref (js_ad y (191))), (1, .int (nI (s))), (2, .int (nI (t))), (3, .int (nI (0))), (4, .int (nI (0)))]) F dX5_isListed_3 (by decide) [1, 2, 3, 4, 0] rfl ?_
  have L5 : ∀ (fu5 : Nat) (i : Nat) (a : Nat) (hi : i ≤ l.length) (ha1 : a < 2) (ha : (a = 0 ∧ ∀ k, k < i → l.getD k 0 ≠ t) ∨ (a = 1 ∧ t ∈ l)) (hfu5 : l.length - i < fu5), js_W X y 5 (js_Qi X y (fun r G' => r = nI (if t ∈ l then 1 else 0) ∧ G = G')) G 5 [(0, .ref (js_ad y (191))), (1, .int (nI (s))), (2, .int (nI (t))), (3, .int (nI (a))), (4, .int (nI (i)))] [] := by
    intro fu5
    induction fu5 with
    | zero => intro i a hi ha1 ha hfu5; exact absurd hfu5 (Nat.not_lt_zero _)
    | succ fu5 ih5 =>
      intro i a hi ha1 ha hfu5
      refine js_iload (pc := 5) 4 F rfl dX5_isListed_5 ?_
      refine js_aload_n (pc := 7) 0 F rfl dX5_isListed_7 ?_
      refine js_iload_n (pc := 8) 1 F rfl dX5_isListed_8 ?_
      refine js_iconst (pc := 9) (v := nI (1)) F (by decide) dX5_isListed_9 ?_
      refine js_calli (pc := 10) F (c_X5_part _ hy (G := G) (s := s) (p := 1) (by omega)) mf_X5_part gX5_isListed_X5_part rfl (by decide) (by decide) (js_ct_M) rfl rfl rfl (Nat.le_of_ble_eq_true rfl) dX5_isListed_10 ?_
      rintro _ _ ⟨hv10, rfl⟩
      rw [hv10, show G 192 ((1 + 106 * s) + 1) = nI (l.length) from (hS.2.2.2.2.2.1)]
      clear hv10
      refine js_icmp_geN (pc := 13) (a := i) (b := l.length) (tgt := 46) F (by first | omega | (have := hE _ (jm_getD_mem (k := i) (l := l) (by omega)); omega)) (by first | omega | (have := hE _ (jm_getD_mem (k := i) (l := l) (by omega)); omega)) dX5_isListed_13 (by decide) (fun h13 => ?_) (fun h13 => ?_)
      · skip
        refine js_iload_n (pc := 46) 3 F rfl dX5_isListed_46 ?_
        refine js_iret (pc := 47) F hr (jn_nar2 (by omega)) ?_ dX5_isListed_47
        rcases ha with ⟨e, q⟩ | ⟨e, q⟩
        · subst e; exact ⟨by rw [if_neg (jm_not_mem q (by omega))], rfl⟩
        · subst e; exact ⟨by rw [if_pos q], rfl⟩
      · skip
        refine js_iload_n (pc := 16) 3 F rfl dX5_isListed_16 ?_
        refine js_if_neN (pc := 17) (a := a) (tgt := 34) F (by first | omega | (have := hE _ (jm_getD_mem (k := i) (l := l) (by omega)); omega)) dX5_isListed_17 (by decide) (fun h17 => ?_) (fun h17 => ?_)
        · skip
          refine js_iconst (pc := 34) (v := nI (1)) F (by decide) dX5_isListed_34 ?_
          refine js_goto (pc := 35) (tgt := 39) F dX5_isListed_35 (by decide) ?_
          refine js_istore_n (pc := 39) (lv2 := [(0, .ref (js_ad y (191))), (1, .int (nI (s))), (2, .int (nI (t))), (3, .int (nI (1))), (4, .int (nI (i)))]) F dX5_isListed_39 (by decide) [1, 2, 3, 0, 4] rfl ?_
          refine js_iinc (pc := 40) (v := nI (i + 1)) (lv2 := [(0, .ref (js_ad y (191))), (1, .int (nI (s))), (2, .int (nI (t))), (3, .int (nI (1))), (4, .int (nI (i + 1)))]) F dX5_isListed_40 4 rfl (nI_add _ _) (by decide) [1, 2, 3, 4, 0] rfl ?_
          refine js_goto (pc := 43) (tgt := 5) F dX5_isListed_43 (by decide) ?_
          exact ih5 (i + 1) 1 (by omega) (by decide) (by first | exact Or.inr ⟨rfl, (ha.resolve_left (fun q => h17 q.1)).2⟩ | exact Or.inr ⟨rfl, by rw [← h31]; exact jm_getD_mem (by omega)⟩ | exact Or.inl ⟨rfl, fun k hk => by rcases Nat.lt_or_ge k i with z | z; exact (ha.resolve_right (fun q => by have := q.1; omega)).2 k z; rw [show k = i by omega]; exact h31⟩) (by omega)
        · skip
          refine js_aload_n (pc := 20) 0 F rfl dX5_isListed_20 ?_
          refine js_iload_n (pc := 21) 1 F rfl dX5_isListed_21 ?_
          refine js_bipush (pc := 22) (v := nI (66)) F (by decide) dX5_isListed_22 ?_
          refine js_iload (pc := 24) 4 F rfl dX5_isListed_24 ?_
          refine js_iaddN (pc := 26) (a := 66) (b := i) F dX5_isListed_26 ?_
          refine js_calli (pc := 27) F (c_X5_part _ hy (G := G) (s := s) (p := 66 + i) (by omega)) mf_X5_part gX5_isListed_X5_part rfl (by decide) (by decide) (js_ct_M) rfl rfl rfl (Nat.le_of_ble_eq_true rfl) dX5_isListed_27 ?_
          rintro _ _ ⟨hv27, rfl⟩
          rw [hv27, show G 192 ((1 + 106 * s) + (66 + i)) = nI (l.getD (i) 0) from (hS.2.2.2.2.2.2.2.2 _ (by omega))]
          clear hv27
          refine js_iload_n (pc := 30) 2 F rfl dX5_isListed_30 ?_
          refine js_icmp_neN (pc := 31) (a := l.getD (i) 0) (b := t) (tgt := 38) F (by first | omega | (have := hE _ (jm_getD_mem (k := i) (l := l) (by omega)); omega)) (by first | omega | (have := hE _ (jm_getD_mem (k := i) (l := l) (by omega)); omega)) dX5_isListed_31 (by decide) (fun h31 => ?_) (fun h31 => ?_)
          · skip
            refine js_iconst (pc := 38) (v := nI (0)) F (by decide) dX5_isListed_38 ?_
            refine js_istore_n (pc := 39) (lv2 := [(0, .ref (js_ad y (191))), (1, .int (nI (s))), (2, .int (nI (t))), (3, .int (nI (0))), (4, .int (nI (i)))]) F dX5_isListed_39 (by decide) [1, 2, 3, 0, 4] rfl ?_
            refine js_iinc (pc := 40) (v := nI (i + 1)) (lv2 := [(0, .ref (js_ad y (191))), (1, .int (nI (s))), (2, .int (nI (t))), (3, .int (nI (0))), (4, .int (nI (i + 1)))]) F dX5_isListed_40 4 rfl (nI_add _ _) (by decide) [1, 2, 3, 4, 0] rfl ?_
            refine js_goto (pc := 43) (tgt := 5) F dX5_isListed_43 (by decide) ?_
            exact ih5 (i + 1) 0 (by omega) (by decide) (by first | exact Or.inr ⟨rfl, (ha.resolve_left (fun q => h17 q.1)).2⟩ | exact Or.inr ⟨rfl, by rw [← h31]; exact jm_getD_mem (by omega)⟩ | exact Or.inl ⟨rfl, fun k hk => by rcases Nat.lt_or_ge k i with z | z; exact (ha.resolve_right (fun q => by have := q.1; omega)).2 k z; rw [show k = i by omega]; exact h31⟩) (by omega)
          · skip
            refine js_iconst (pc := 34) (v := nI (1)) F (by decide) dX5_isListed_34 ?_
            refine js_goto (pc := 35) (tgt := 39) F dX5_isListed_35 (by decide) ?_
            refine js_istore_n (pc := 39) (lv2 := [(0, .ref (js_ad y (191))), (1, .int (nI (s))), (2, .int (nI (t))), (3, .int (nI (1))), (4, .int (nI (i)))]) F dX5_isListed_39 (by decide) [1, 2, 3, 0, 4] rfl ?_
            refine js_iinc (pc := 40) (v := nI (i + 1)) (lv2 := [(0, .ref (js_ad y (191))), (1, .int (nI (s))), (2, .int (nI (t))), (3, .int (nI (1))), (4, .int (nI (i + 1)))]) F dX5_isListed_40 4 rfl (nI_add _ _) (by decide) [1, 2, 3, 4, 0] rfl ?_
            refine js_goto (pc := 43) (tgt := 5) F dX5_isListed_43 (by decide) ?_
            exact ih5 (i + 1) 1 (by omega) (by decide) (by first | exact Or.inr ⟨rfl, (ha.resolve_left (fun q => h17 q.1)).2⟩ | exact Or.inr ⟨rfl, by rw [← h31]; exact jm_getD_mem (by omega)⟩ | exact Or.inl ⟨rfl, fun k hk => by rcases Nat.lt_or_ge k i with z | z; exact (ha.resolve_right (fun q => by have := q.1; omega)).2 k z; rw [show k = i by omega]; exact h31⟩) (by omega)
  exact L5 (_ + 1) 0 0 (Nat.zero_le _) (by decide) (Or.inl ⟨rfl, fun k hk => absurd hk (Nat.not_lt_zero _)⟩) (Nat.lt_succ_self _)
theorem mf_X5_becomesFull : js_M yX5_becomesFull cX5_becomesFull 3 none wsX5_becomesFull 1 := ⟨⟨_, rfl⟩, by decide +kernel, by decide +kernel, by decide +kernel, by decide +kernel⟩
set_option maxHeartbeats 4000000 in
set_option maxRecDepth 100000 in
theorem c_X5_becomesFull (la : Launch) {y : js_L} (hy : js_Dy y) {G : js_G} {s : Nat} (hs : s < 6) : js_Cv la y yX5_becomesFull wsX5_becomesFull 2 35 [.ref (js_ad y (191)), .int (nI (s))] G (fun G' => G' 192 ((1 + 106 * s) + 1) = -6 ∧ (∀ i, i < 66 → i ≠ 1 → G' 192 ((1 + 106 * s) + i) = G 192 ((1 + 106 * s) + i)) ∧ mfS s G G') := by
  refine js_ofv mf_X5_becomesFull (Nat.le_of_ble_eq_true rfl) hy (fun X F hr => ?_)
  replace F : js_F X y cX5_becomesFull 3 RX5 wsX5_becomesFull 2 35 := F
  show js_W X y 3 _ G 0 [(0, .ref (js_ad y (191))), (1, .int (nI (s)))] []
  refine js_aload_n (pc := 0) 0 F rfl dX5_becomesFull_0 ?_
  refine js_iload_n (pc := 1) 1 F rfl dX5_becomesFull_1 ?_
  refine js_iconst (pc := 2) (v := nI (1)) F (by decide) dX5_becomesFull_2 ?_
  refine js_bipush (pc := 3) (v := (-6)) F (by decide) dX5_becomesFull_3 ?_
  refine js_callv (pc := 5) F (c_X5_setPart _ hy (G := G) (s := s) (p := 1) (v := (-6)) (by omega)) mf_X5_setPart gX5_becomesFull_X5_setPart rfl (by decide) (by decide) (js_ct_M) rfl rfl rfl (Nat.le_of_ble_eq_true rfl) dX5_becomesFull_5 ?_
  rintro _ rfl
  refine js_iconst (pc := 8) (v := nI (0)) F (by decide) dX5_becomesFull_8 ?_
  refine js_istore_n (pc := 9) (lv2 := [(0, .ref (js_ad y (191))), (1, .int (nI (s))), (2, .int (nI (0)))]) F dX5_becomesFull_9 (by decide) [1, 2, 0] rfl ?_
  have L10 : ∀ (fu10 : Nat) (k : Nat) (G1 : js_G) (hk : k ≤ 40) (h1 : G1 192 ((1 + 106 * s) + 1) = -6) (h2 : ∀ i, i < 66 → i ≠ 1 → G1 192 ((1 + 106 * s) + i) = G 192 ((1 + 106 * s) + i)) (h3 : mfS s G G1) (hfu10 : 40 - k < fu10), js_W X y 3 (js_Qv X y (fun G' => G' 192 ((1 + 106 * s) + 1) = -6 ∧ (∀ i, i < 66 → i ≠ 1 → G' 192 ((1 + 106 * s) + i) = G 192 ((1 + 106 * s) + i)) ∧ mfS s G G')) G1 10 [(0, .ref (js_ad y (191))), (1, .int (nI (s))), (2, .int (nI (k)))] [] := by
    intro fu10
    induction fu10 with
    | zero => intro k G1 hk h1 h2 h3 hfu10; exact absurd hfu10 (Nat.not_lt_zero _)
    | succ fu10 ih10 =>
      intro k G1 hk h1 h2 h3 hfu10
      refine js_iload_n (pc := 10) 2 F rfl dX5_becomesFull_10 ?_
      refine js_bipush (pc := 11) (v := nI (40)) F (by decide) dX5_becomesFull_11 ?_
      refine js_icmp_geN (pc := 13) (a := k) (b := 40) (tgt := 32) F (by omega) (by decide) dX5_becomesFull_13 (by decide) (fun h13 => ?_) (fun h13 => ?_)
      · skip
        refine js_vret (pc := 32) F hr ?_ dX5_becomesFull_32
        exact ⟨h1, h2, h3⟩
      · skip
        refine js_aload_n (pc := 16) 0 F rfl dX5_becomesFull_16 ?_
        refine js_iload_n (pc := 17) 1 F rfl dX5_becomesFull_17 ?_
        refine js_bipush (pc := 18) (v := nI (66)) F (by decide) dX5_becomesFull_18 ?_
        refine js_iload_n (pc := 20) 2 F rfl dX5_becomesFull_20 ?_
        refine js_iaddN (pc := 21) (a := 66) (b := k) F dX5_becomesFull_21 ?_
        refine js_iconst (pc := 22) (v := nI (0)) F (by decide) dX5_becomesFull_22 ?_
        refine js_callv (pc := 23) F (c_X5_setPart _ hy (G := G1) (s := s) (p := 66 + k) (v := nI (0)) (by omega)) mf_X5_setPart gX5_becomesFull_X5_setPart rfl (by decide) (by decide) (js_ct_M) rfl rfl rfl (Nat.le_of_ble_eq_true rfl) dX5_becomesFull_23 ?_
        rintro _ rfl
        refine js_iinc (pc := 26) (v := nI (k + 1)) (lv2 := [(0, .ref (js_ad y (191))), (1, .int (nI (s))), (2, .int (nI (k + 1)))]) F dX5_becomesFull_26 2 rfl (nI_add _ _) (by decide) [1, 2, 0] rfl ?_
        refine js_goto (pc := 29) (tgt := 10) F dX5_becomesFull_29 (by decide) ?_
        exact ih10 (k + 1) (js_st G1 (192) ((1 + 106 * s) + (66 + k)) (nI (0))) (by omega) (by rw [js_st_s]; exact (if_neg (by omega)).trans h1) (fun i hi hn => by rw [js_st_s]; exact (if_neg (by omega)).trans (h2 i hi hn)) (h3.tr (mfS.st (by omega))) (by omega)
  exact L10 (_ + 1) 0 (js_st G (192) ((1 + 106 * s) + 1) ((-6))) (by decide) (by rw [js_st_s]; simp [upd]) (fun i hi hn => by rw [js_st_s]; exact if_neg (by omega)) (mfS.st (by decide)) (Nat.lt_succ_self _)
theorem mf_X5_lists : js_M yX5_lists cX5_lists 4 none wsX5_lists 2 := ⟨⟨_, rfl⟩, by decide +kernel, by decide +kernel, by decide +kernel, by decide +kernel⟩
set_option maxHeartbeats 4000000 in
set_option maxRecDepth 100000 in
theorem c_X5_lists_n (la : Launch) {y : js_L} (hy : js_Dy y) {G : js_G} {s : Nat} (hs : s < 6) {B : Nat} {rk : Nat → Nat} (hS : mr_S G 192 (1 + 106 * s) B rk none) {t : Nat} (ht : t < 100000) : js_Cv la y yX5_lists wsX5_lists 3 58 [.ref (js_ad y (191)), .int (nI (s)), .int (nI (t))] G (fun G' => mr_S G' 192 (1 + 106 * s) B rk (jm_add1 none t) ∧ mfS s G G') := by
  obtain ⟨hB2, hB6, hB, hR, hK, hL⟩ := id hS
  have hp : 2 ^ B ≤ 64 := jm_p6 hB6
  have hp1 := jm_p1 B
  have hp4 := jm_p4 hB2
  refine js_ofv mf_X5_lists (Nat.le_of_ble_eq_true rfl) hy (fun X F hr => ?_)
  replace F : js_F X y cX5_lists 4 RX5 wsX5_lists 3 58 := F
  show js_W X y 4 _ G 0 [(0, .ref (js_ad y (191))), (1, .int (nI (s))), (2, .int (nI (t)))] []
  refine js_aload_n (pc := 0) 0 F rfl dX5_lists_0 ?_
  refine js_iload_n (pc := 1) 1 F rfl dX5_lists_1 ?_
  refine js_calli (pc := 2) F (c_X5_isFull_n _ hy (s := s) (by omega) (G := G) (hS)) mf_X5_isFull gX5_lists_X5_isFull rfl (by decide) (by decide) (js_ct_M) rfl rfl rfl (Nat.le_of_ble_eq_true rfl) dX5_lists_2 ?_
  rintro _ _ ⟨rfl, rfl⟩
  refine js_if_neN (pc := 5) (a := 1) (tgt := 17) F (by decide) dX5_lists_5 (by decide) (fun _ => ?_) (fun h5 => by exfalso; revert h5; decide)
  refine js_vret (pc := 17) F hr ?_ dX5_lists_17
  exact ⟨hS, mfS.rf⟩
set_option maxHeartbeats 4000000 in
set_option maxRecDepth 100000 in
theorem c_X5_lists_s (la : Launch) {y : js_L} (hy : js_Dy y) {G : js_G} {s : Nat} (hs : s < 6) {B : Nat} {rk : Nat → Nat} {l : List Nat} (hS : mr_S G 192 (1 + 106 * s) B rk (some l)) {t : Nat} (ht : t < 100000) : js_Cv la y yX5_lists wsX5_lists 3 58 [.ref (js_ad y (191)), .int (nI (s)), .int (nI (t))] G (fun G' => mr_S G' 192 (1 + 106 * s) B rk (jm_add1 (some l) t) ∧ mfS s G G') := by
  obtain ⟨hB2, hB6, hB, hR, hK, hL⟩ := id hS
  have hp : 2 ^ B ≤ 64 := jm_p6 hB6
  have hp1 := jm_p1 B
  have hp4 := jm_p4 hB2
  obtain ⟨hl1, hlen, hE, hT⟩ := id hL
  refine js_ofv mf_X5_lists (Nat.le_of_ble_eq_true rfl) hy (fun X F hr => ?_)
  replace F : js_F X y cX5_lists 4 RX5 wsX5_lists 3 58 := F
  show js_W X y 4 _ G 0 [(0, .ref (js_ad y (191))), (1, .int (nI (s))), (2, .int (nI (t)))] []
  refine js_aload_n (pc := 0) 0 F rfl dX5_lists_0 ?_
  refine js_iload_n (pc := 1) 1 F rfl dX5_lists_1 ?_
  refine js_calli (pc := 2) F (c_X5_isFull_s _ hy (s := s) (by omega) (G := G) (hS)) mf_X5_isFull gX5_lists_X5_isFull rfl (by decide) (by decide) (js_ct_M) rfl rfl rfl (Nat.le_of_ble_eq_true rfl) dX5_lists_2 ?_
  rintro _ _ ⟨rfl, rfl⟩
  refine js_if_neN (pc := 5) (a := 0) (tgt := 17) F (by decide) dX5_lists_5 (by decide) (fun h5 => by exfalso; revert h5; decide) (fun _ => ?_)
  refine js_aload_n (pc := 8) 0 F rfl dX5_lists_8 ?_
  refine js_iload_n (pc := 9) 1 F rfl dX5_lists_9 ?_
  refine js_iload_n (pc := 10) 2 F rfl dX5_lists_10 ?_
  refine js_calli (pc := 11) F (c_X5_isListed _ hy (s := s) (by omega) (G := G) (hS) (t := t) (by omega)) mf_X5_isListed gX5_lists_X5_isListed rfl (by decide) (by decide) (js_ct_M) rfl rfl rfl (Nat.le_of_ble_eq_true rfl) dX5_lists_11 ?_
  rintro _ _ ⟨rfl, rfl⟩
  refine js_if_eqB (pc := 14) (tgt := 18) F dX5_lists_14 (by decide) (fun h14 => ?_) (fun h14 => ?_)
  · skip
    refine js_aload_n (pc := 18) 0 F rfl dX5_lists_18 ?_
    refine js_iload_n (pc := 19) 1 F rfl dX5_lists_19 ?_
    refine js_iconst (pc := 20) (v := nI (1)) F (by decide) dX5_lists_20 ?_
    refine js_calli (pc := 21) F (c_X5_part _ hy (G := G) (s := s) (p := 1) (by omega)) mf_X5_part gX5_lists_X5_part rfl (by decide) (by decide) (js_ct_M) rfl rfl rfl (Nat.le_of_ble_eq_true rfl) dX5_lists_21 ?_
    rintro _ _ ⟨hv21, rfl⟩
    rw [hv21, show G 192 ((1 + 106 * s) + 1) = nI (l.length) from (hS.2.2.2.2.2.1)]
    clear hv21
    refine js_istore_n (pc := 24) (lv2 := [(0, .ref (js_ad y (191))), (1, .int (nI (s))), (2, .int (nI (t))), (3, .int (nI (l.length)))]) F dX5_lists_24 (by decide) [1, 2, 3, 0] rfl ?_
    refine js_iload_n (pc := 25) 3 F rfl dX5_lists_25 ?_
    refine js_bipush (pc := 26) (v := nI (40)) F (by decide) dX5_lists_26 ?_
    refine js_icmp_neN (pc := 28) (a := l.length) (b := 40) (tgt := 39) F (by omega) (by decide) dX5_lists_28 (by decide) (fun h28 => ?_) (fun h28 => ?_)
    · skip
      refine js_aload_n (pc := 39) 0 F rfl dX5_lists_39 ?_
      refine js_iload_n (pc := 40) 1 F rfl dX5_lists_40 ?_
      refine js_bipush (pc := 41) (v := nI (66)) F (by decide) dX5_lists_41 ?_
      refine js_iload_n (pc := 43) 3 F rfl dX5_lists_43 ?_
      refine js_iaddN (pc := 44) (a := 66) (b := l.length) F dX5_lists_44 ?_
      refine js_iload_n (pc := 45) 2 F rfl dX5_lists_45 ?_
      refine js_callv (pc := 46) F (c_X5_setPart _ hy (G := G) (s := s) (p := 66 + l.length) (v := nI (t)) (by omega)) mf_X5_setPart gX5_lists_X5_setPart rfl (by decide) (by decide) (js_ct_M) rfl rfl rfl (Nat.le_of_ble_eq_true rfl) dX5_lists_46 ?_
      rintro _ rfl
      refine js_aload_n (pc := 49) 0 F rfl dX5_lists_49 ?_
      refine js_iload_n (pc := 50) 1 F rfl dX5_lists_50 ?_
      refine js_iconst (pc := 51) (v := nI (1)) F (by decide) dX5_lists_51 ?_
      refine js_iload_n (pc := 52) 3 F rfl dX5_lists_52 ?_
      refine js_iconst (pc := 53) (v := nI (1)) F (by decide) dX5_lists_53 ?_
      refine js_iaddN (pc := 54) (a := l.length) (b := 1) F dX5_lists_54 ?_
      refine js_callv (pc := 55) F (c_X5_setPart _ hy (G := (js_st G (192) ((1 + 106 * s) + (66 + l.length)) (nI (t)))) (s := s) (p := 1) (v := nI (l.length + 1)) (by omega)) mf_X5_setPart gX5_lists_X5_setPart rfl (by decide) (by decide) (js_ct_M) rfl rfl rfl (Nat.le_of_ble_eq_true rfl) dX5_lists_55 ?_
      rintro _ rfl
      refine js_vret (pc := 58) F hr ?_ dX5_lists_58
      exact ⟨by rw [jm_add1_new h14 (by omega)]; exact mr_S_push hS (by omega) ht, (mfS.st (by omega)).tr (mfS.st (by omega))⟩
    · skip
      refine js_aload_n (pc := 31) 0 F rfl dX5_lists_31 ?_
      refine js_iload_n (pc := 32) 1 F rfl dX5_lists_32 ?_
      refine js_callv (pc := 33) F (c_X5_becomesFull _ hy (s := s) (by omega) (G := G)) mf_X5_becomesFull gX5_lists_X5_becomesFull rfl (by decide) (by decide) (js_ct_M) rfl rfl rfl (Nat.le_of_ble_eq_true rfl) dX5_lists_33 ?_
      rintro G33 ⟨u33, v33, w33⟩
      refine js_goto (pc := 36) (tgt := 58) F dX5_lists_36 (by decide) ?_
      refine js_vret (pc := 58) F hr ?_ dX5_lists_58
      exact ⟨by rw [jm_add1_full h14 (by omega)]; exact mr_S_full hS u33 v33, w33⟩
  · skip
    refine js_vret (pc := 17) F hr ?_ dX5_lists_17
    exact ⟨by rw [jm_add1_mem h14]; exact hS, mfS.rf⟩
theorem c_X5_lists (la : Launch) {y : js_L} (hy : js_Dy y) {G : js_G} {s : Nat} (hs : s < 6) {B : Nat} {rk : Nat → Nat} {ls : Option (List Nat)} (hS : mr_S G 192 (1 + 106 * s) B rk ls) {t : Nat} (ht : t < 100000) : js_Cv la y yX5_lists wsX5_lists 3 58 [.ref (js_ad y (191)), .int (nI (s)), .int (nI (t))] G (fun G' => mr_S G' 192 (1 + 106 * s) B rk (jm_add1 ls t) ∧ mfS s G G') := by
  cases ls with
  | none => exact c_X5_lists_n la hy hs hS ht
  | some l => exact c_X5_lists_s la hy hs hS ht
theorem mf_X5_empties : js_M yX5_empties cX5_empties 4 (some .int) wsX5_empties 1 := ⟨⟨_, rfl⟩, by decide +kernel, by decide +kernel, by decide +kernel, by decide +kernel⟩
set_option maxHeartbeats 4000000 in
set_option maxRecDepth 100000 in
theorem c_X5_empties (la : Launch) {y : js_L} (hy : js_Dy y) {G : js_G} {s : Nat} (hs : s < 6) {B : Nat} {rk : Nat → Nat} {ls : Option (List Nat)} (hS : mr_S G 192 (1 + 106 * s) B rk ls) : js_Ci la y yX5_empties wsX5_empties 4 78 [.ref (js_ad y (191)), .int (nI (s))] G (fun r G' => r = nI (jm_fil rk (2 ^ B)) ∧ mr_S G' 192 (1 + 106 * s) B (fun _ => 0) (some []) ∧ mfS s G G') := by
  obtain ⟨hB2, hB6, hB, hR, hK, hL⟩ := id hS
  have hp : 2 ^ B ≤ 64 := jm_p6 hB6
  have hp1 := jm_p1 B
  have hp4 := jm_p4 hB2
  refine js_ofi mf_X5_empties (Nat.le_of_ble_eq_true rfl) hy (fun X F hr => ?_)
  replace F : js_F X y cX5_empties 4 RX5 wsX5_empties 4 78 := F
  show js_W X y 4 _ G 0 [(0, .ref (js_ad y (191))), (1, .int (nI (s)))] []
  refine js_aload_n (pc := 0) 0 F rfl dX5_empties_0 ?_
  refine js_iload_n (pc := 1) 1 F rfl dX5_empties_1 ?_
  refine js_calli (pc := 2) F (c_X5_filled _ hy (s := s) (by omega) (G := G) (hS)) mf_X5_filled gX5_empties_X5_filled rfl (by decide) (by decide) (js_ct_M) rfl rfl rfl (Nat.le_of_ble_eq_true rfl) dX5_empties_2 ?_
  rintro _ _ ⟨rfl, rfl⟩
  refine js_istore_n (pc := 5) (lv2 := [(0, .ref (js_ad y (191))), (1, .int (nI (s))), (2, .int (nI (jm_fil rk (2 ^ B))))]) F dX5_empties_5 (by decide) [1, 2, 0] rfl ?_
  refine js_iconst (pc := 6) (v := nI (1)) F (by decide) dX5_empties_6 ?_
  refine js_istore_n (pc := 7) (lv2 := [(0, .ref (js_ad y (191))), (1, .int (nI (s))), (2, .int (nI (jm_fil rk (2 ^ B)))), (3, .int (nI (1)))]) F dX5_empties_7 (by decide) [1, 2, 3, 0] rfl ?_
  have L8 : ∀ (fu8 : Nat) (k : Nat) (G1 : js_G) (hk1 : 1 ≤ k) (hk : k ≤ 106) (h0 : G1 192 ((1 + 106 * s) + 0) = nI B) (h1 : ∀ i, 1 ≤ i → i < k → G1 192 ((1 + 106 * s) + i) = nI 0) (h3 : mfS s G G1) (hfu8 : 106 - k < fu8), js_W X y 4 (js_Qi X y (fun r G' => r = nI (jm_fil rk (2 ^ B)) ∧ mr_S G' 192 (1 + 106 * s) B (fun _ => 0) (some []) ∧ mfS s G G')) G1 8 [(0, .ref (js_ad y (191))), (1, .int (nI (s))), (2, .int (nI (jm_fil rk (2 ^ B)))), (3, .int (nI (k)))] [] := by
    intro fu8
    induction fu8 with
    | zero => intro k G1 hk1 hk h0 h1 h3 hfu8; exact absurd hfu8 (Nat.not_lt_zero _)
    | succ fu8 ih8 =>
      intro k G1 hk1 hk h0 h1 h3 hfu8
      refine js_iload_n (pc := 8) 3 F rfl dX5_empties_8 ?_
      refine js_bipush (pc := 9) (v := nI (106)) F (by decide) dX5_empties_9 ?_
      refine js_icmp_geN (pc := 11) (a := k) (b := 106) (tgt := 27) F (by omega) (by decide) dX5_empties_11 (by decide) (fun h11 => ?_) (fun h11 => ?_)
      · skip
        refine js_iload_n (pc := 27) 2 F rfl dX5_empties_27 ?_
        refine js_iret (pc := 28) F hr (rfl) ?_ dX5_empties_28
        exact ⟨rfl, mr_S_e hB2 hB6 h0 (fun i hi hi2 => h1 i hi (by omega)), h3⟩
      · skip
        refine js_aload_n (pc := 14) 0 F rfl dX5_empties_14 ?_
        refine js_iload_n (pc := 15) 1 F rfl dX5_empties_15 ?_
        refine js_iload_n (pc := 16) 3 F rfl dX5_empties_16 ?_
        refine js_iconst (pc := 17) (v := nI (0)) F (by decide) dX5_empties_17 ?_
        refine js_callv (pc := 18) F (c_X5_setPart _ hy (G := G1) (s := s) (p := k) (v := nI (0)) (by omega)) mf_X5_setPart gX5_empties_X5_setPart rfl (by decide) (by decide) (js_ct_M) rfl rfl rfl (Nat.le_of_ble_eq_true rfl) dX5_empties_18 ?_
        rintro _ rfl
        refine js_iinc (pc := 21) (v := nI (k + 1)) (lv2 := [(0, .ref (js_ad y (191))), (1, .int (nI (s))), (2, .int (nI (jm_fil rk (2 ^ B)))), (3, .int (nI (k + 1)))]) F dX5_empties_21 3 rfl (nI_add _ _) (by decide) [1, 2, 3, 0] rfl ?_
        refine js_goto (pc := 24) (tgt := 8) F dX5_empties_24 (by decide) ?_
        exact ih8 (k + 1) (js_st G1 (192) ((1 + 106 * s) + k) (nI (0))) (by omega) (by omega) (by rw [js_st_s]; exact (if_neg (by omega)).trans h0) (fun i hi hk2 => by rw [js_st_s]; unfold upd; by_cases q : i = k; (rw [if_pos (by omega)]); (rw [if_neg (by omega)]; exact h1 i hi (by omega))) (h3.tr (mfS.st (by omega))) (by omega)
  exact L8 (_ + 1) 1 G (by decide) (by decide) (hB) (fun i hi hk => absurd hk (by omega)) (mfS.rf) (Nat.lt_succ_self _)
theorem mf_X5_adds : js_M yX5_adds cX5_adds 4 (some .int) wsX5_adds 2 := ⟨⟨_, rfl⟩, by decide +kernel, by decide +kernel, by decide +kernel, by decide +kernel⟩
set_option maxHeartbeats 4000000 in
set_option maxRecDepth 100000 in
theorem c_X5_adds (la : Launch) {y : js_L} (hy : js_Dy y) {G : js_G} {s : Nat} (hs : s < 6) {B : Nat} {rk : Nat → Nat} {ls : Option (List Nat)} (hS : mr_S G 192 (1 + 106 * s) B rk ls) {sl : Nat} (hsl : G 192 0 = nI sl) (hsl6 : sl < 65536) {t : Nat} (ht : t < 100000) : js_Ci la y yX5_adds wsX5_adds 5 99 [.ref (js_ad y (191)), .int (nI (s)), .int (nI (t))] G (fun r G' => r = nI (if rk (jm_hash t sl % 2 ^ B) < jm_rank (jm_hash t sl) B then 1 else 0) ∧ mr_S G' 192 (1 + 106 * s) B (jm_rs rk (jm_hash t sl % 2 ^ B) (jm_rank (jm_hash t sl) B)) (jm_add1 ls t) ∧ mfS s G G') := by
  obtain ⟨hB2, hB6, hB, hR, hK, hL⟩ := id hS
  have hp : 2 ^ B ≤ 64 := jm_p6 hB6
  have hp1 := jm_p1 B
  have hp4 := jm_p4 hB2
  have hh : jm_hash t sl < 65536 := jm_hash_lt _ _
  have hmod : jm_hash t sl % 2 ^ B < 2 ^ B := Nat.mod_lt _ (by omega)
  have hrk := jm_rank_le hh hB6
  have hrp := jm_rank_pos (h := jm_hash t sl) hB6
  have hk1 := hK _ hmod
  refine js_ofi mf_X5_adds (Nat.le_of_ble_eq_true rfl) hy (fun X F hr => ?_)
  replace F : js_F X y cX5_adds 4 RX5 wsX5_adds 5 99 := F
  show js_W X y 4 _ G 0 [(0, .ref (js_ad y (191))), (1, .int (nI (s))), (2, .int (nI (t)))] []
  refine js_aload_n (pc := 0) 0 F rfl dX5_adds_0 ?_
  refine js_iload_n (pc := 1) 1 F rfl dX5_adds_1 ?_
  refine js_iload_n (pc := 2) 2 F rfl dX5_adds_2 ?_
  refine js_calli (pc := 3) F (c_X5_wouldChange _ hy (s := s) (by omega) (G := G) (hS) (sl := sl) (hsl) (by omega) (t := t) (by omega)) mf_X5_wouldChange gX5_adds_X5_wouldChange rfl (by decide) (by decide) (js_ct_M) rfl rfl rfl (Nat.le_of_ble_eq_true rfl) dX5_adds_3 ?_
  rintro _ _ ⟨rfl, rfl⟩
  refine js_istore_n (pc := 6) (lv2 := [(0, .ref (js_ad y (191))), (1, .int (nI (s))), (2, .int (nI (t))), (3, .int (nI (if rk (jm_hash t sl % 2 ^ B) < jm_rank (jm_hash t sl) B then 1 else 0)))]) F dX5_adds_6 (by decide) [1, 2, 3, 0] rfl ?_
  refine js_iload_n (pc := 7) 3 F rfl dX5_adds_7 ?_
  refine js_if_eqB (pc := 8) (tgt := 30) F dX5_adds_8 (by decide) (fun h8 => ?_) (fun h8 => ?_)
  · skip
    refine js_aload_n (pc := 30) 0 F rfl dX5_adds_30 ?_
    refine js_iload_n (pc := 31) 1 F rfl dX5_adds_31 ?_
    refine js_iload_n (pc := 32) 2 F rfl dX5_adds_32 ?_
    have hS2 : mr_S G 192 (1 + 106 * s) B (jm_rs rk (jm_hash t sl % 2 ^ B) (jm_rank (jm_hash t sl) B)) ls := by rw [show jm_rs rk (jm_hash t sl % 2 ^ B) (jm_rank (jm_hash t sl) B) = rk from if_neg h8]; exact hS
    refine js_callv (pc := 33) F (c_X5_lists _ hy hs hS2 (t := t) ht) mf_X5_lists gX5_adds_X5_lists rfl (by decide) (by decide) (js_ct_M) rfl rfl rfl (Nat.le_of_ble_eq_true rfl) dX5_adds_33 ?_
    rintro G2 ⟨p1, p2⟩
    refine js_iload_n (pc := 36) 3 F rfl dX5_adds_36 ?_
    refine js_if_eqB (pc := 37) (tgt := 44) F dX5_adds_37 (by decide) (fun h37 => ?_) (fun h37 => ?_)
    · skip
      refine js_iconst (pc := 44) (v := nI (0)) F (by decide) dX5_adds_44 ?_
      refine js_iret (pc := 45) F hr (rfl) ?_ dX5_adds_45
      first | exact absurd h8 h37 | exact absurd h37 h8 | exact ⟨by rw [if_neg h37], p1, p2⟩
    · skip
      refine js_iconst (pc := 40) (v := nI (1)) F (by decide) dX5_adds_40 ?_
      refine js_goto (pc := 41) (tgt := 45) F dX5_adds_41 (by decide) ?_
      refine js_iret (pc := 45) F hr (rfl) ?_ dX5_adds_45
      first | exact absurd h8 h37 | exact absurd h37 h8 | exact ⟨by rw [if_pos h37], p1, p2⟩
  · skip
    refine js_aload_n (pc := 11) 0 F rfl dX5_adds_11 ?_
    refine js_iload_n (pc := 12) 1 F rfl dX5_adds_12 ?_
    refine js_iconst (pc := 13) (v := nI (2)) F (by decide) dX5_adds_13 ?_
    refine js_aload_n (pc := 14) 0 F rfl dX5_adds_14 ?_
    refine js_iload_n (pc := 15) 1 F rfl dX5_adds_15 ?_
    refine js_iload_n (pc := 16) 2 F rfl dX5_adds_16 ?_
    refine js_calli (pc := 17) F (c_X5_bucketOf _ hy (s := s) (by omega) (G := G) (hS) (sl := sl) (hsl) (by omega) (t := t) (by omega)) mf_X5_bucketOf gX5_adds_X5_bucketOf rfl (by decide) (by decide) (js_ct_M) rfl rfl rfl (Nat.le_of_ble_eq_true rfl) dX5_adds_17 ?_
    rintro _ _ ⟨rfl, rfl⟩
    refine js_iaddN (pc := 20) (a := 2) (b := jm_hash t sl % 2 ^ B) F dX5_adds_20 ?_
    refine js_aload_n (pc := 21) 0 F rfl dX5_adds_21 ?_
    refine js_iload_n (pc := 22) 1 F rfl dX5_adds_22 ?_
    refine js_iload_n (pc := 23) 2 F rfl dX5_adds_23 ?_
    refine js_calli (pc := 24) F (c_X5_rankIn _ hy (s := s) (by omega) (G := G) (hS) (sl := sl) (hsl) (by omega) (t := t) (by omega)) mf_X5_rankIn gX5_adds_X5_rankIn rfl (by decide) (by decide) (js_ct_M) rfl rfl rfl (Nat.le_of_ble_eq_true rfl) dX5_adds_24 ?_
    rintro _ _ ⟨rfl, rfl⟩
    refine js_callv (pc := 27) F (c_X5_setPart _ hy (G := G) (s := s) (p := 2 + (jm_hash t sl % 2 ^ B)) (v := nI (jm_rank (jm_hash t sl) B)) (by omega)) mf_X5_setPart gX5_adds_X5_setPart rfl (by decide) (by decide) (js_ct_M) rfl rfl rfl (Nat.le_of_ble_eq_true rfl) dX5_adds_27 ?_
    rintro _ rfl
    refine js_aload_n (pc := 30) 0 F rfl dX5_adds_30 ?_
    refine js_iload_n (pc := 31) 1 F rfl dX5_adds_31 ?_
    refine js_iload_n (pc := 32) 2 F rfl dX5_adds_32 ?_
    have hS2 : mr_S (js_st G (192) ((1 + 106 * s) + (2 + (jm_hash t sl % 2 ^ B))) (nI (jm_rank (jm_hash t sl) B))) 192 (1 + 106 * s) B (jm_rs rk (jm_hash t sl % 2 ^ B) (jm_rank (jm_hash t sl) B)) ls := by exact mr_S_raise hS hmod hrk h8
    refine js_callv (pc := 33) F (c_X5_lists _ hy hs hS2 (t := t) ht) mf_X5_lists gX5_adds_X5_lists rfl (by decide) (by decide) (js_ct_M) rfl rfl rfl (Nat.le_of_ble_eq_true rfl) dX5_adds_33 ?_
    rintro G2 ⟨p1, p2⟩
    refine js_iload_n (pc := 36) 3 F rfl dX5_adds_36 ?_
    refine js_if_eqB (pc := 37) (tgt := 44) F dX5_adds_37 (by decide) (fun h37 => ?_) (fun h37 => ?_)
    · skip
      refine js_iconst (pc := 44) (v := nI (0)) F (by decide) dX5_adds_44 ?_
      refine js_iret (pc := 45) F hr (rfl) ?_ dX5_adds_45
      first | exact absurd h8 h37 | exact absurd h37 h8 | exact ⟨by rw [if_neg h37], p1, (mfS.st (by omega)).tr p2⟩
    · skip
      refine js_iconst (pc := 40) (v := nI (1)) F (by decide) dX5_adds_40 ?_
      refine js_goto (pc := 41) (tgt := 45) F dX5_adds_41 (by decide) ?_
      refine js_iret (pc := 45) F hr (rfl) ?_ dX5_adds_45
      first | exact absurd h8 h37 | exact absurd h37 h8 | exact ⟨by rw [if_pos h37], p1, (mfS.st (by omega)).tr p2⟩
