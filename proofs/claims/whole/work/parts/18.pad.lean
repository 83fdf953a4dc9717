theorem in_X1_clear_1 : ∀ w ∈ wsX10, w ∈ wsX1_clear := by decide +kernel
theorem lk_X1_clear_fieldLink_RX1_15_JoinedSketches_Pad_length_I : Cond.fieldLink RX1 15 "JoinedSketches$Pad" "length" "I" ∈ wsX1_clear := by decide +kernel
theorem mf_X1_clear : js_M yX1_clear cX1_clear 1 none wsX1_clear 0 := ⟨⟨_, rfl⟩, by decide +kernel, by decide +kernel, by decide +kernel, by decide +kernel⟩
set_option maxHeartbeats 4000000 in
set_option maxRecDepth 100000 in
theorem c_X1_clear (la : Launch) {y : js_L} (hy : js_Dy y) {G : js_G} : js_Cv la y yX1_clear wsX1_clear 1 12 [.ref (js_ad y (187))] G (fun G' => js_st G 187 1 (nI 0) = G') := by
  refine js_ofv mf_X1_clear (Nat.le_of_ble_eq_true rfl) hy (fun X F hr => ?_)
  replace F : js_F X y cX1_clear 1 RX1 wsX1_clear 1 12 := F
  show js_W X y 1 _ G 0 [(0, .ref (js_ad y (187)))] []
  refine js_aload_n (pc := 0) 0 F rfl dX1_clear_0 ?_
  refine js_iconst (pc := 1) (v := nI (0)) F (by decide) dX1_clear_1 ?_
  refine jp_P_length (pc := 2) (v := nI (0)) F in_X1_clear_1 (lk_X1_clear_fieldLink_RX1_15_JoinedSketches_Pad_length_I) dX1_clear_2 ?_
  refine js_vret (pc := 5) F hr ?_ dX1_clear_5
  exact rfl
theorem in_X1_goToStart_1 : ∀ w ∈ wsX10, w ∈ wsX1_goToStart := by decide +kernel
theorem lk_X1_goToStart_fieldLink_RX1_19_JoinedSketches_Pad_at_I : Cond.fieldLink RX1 19 "JoinedSketches$Pad" "at" "I" ∈ wsX1_goToStart := by decide +kernel
theorem mf_X1_goToStart : js_M yX1_goToStart cX1_goToStart 1 none wsX1_goToStart 0 := ⟨⟨_, rfl⟩, by decide +kernel, by decide +kernel, by decide +kernel, by decide +kernel⟩
set_option maxHeartbeats 4000000 in
set_option maxRecDepth 100000 in
theorem c_X1_goToStart (la : Launch) {y : js_L} (hy : js_Dy y) {G : js_G} : js_Cv la y yX1_goToStart wsX1_goToStart 1 12 [.ref (js_ad y (187))] G (fun G' => js_st G 187 2 (nI 0) = G') := by
  refine js_ofv mf_X1_goToStart (Nat.le_of_ble_eq_true rfl) hy (fun X F hr => ?_)
  replace F : js_F X y cX1_goToStart 1 RX1 wsX1_goToStart 1 12 := F
  show js_W X y 1 _ G 0 [(0, .ref (js_ad y (187)))] []
  refine js_aload_n (pc := 0) 0 F rfl dX1_goToStart_0 ?_
  refine js_iconst (pc := 1) (v := nI (0)) F (by decide) dX1_goToStart_1 ?_
  refine jp_P_at (pc := 2) (v := nI (0)) F in_X1_goToStart_1 (lk_X1_goToStart_fieldLink_RX1_19_JoinedSketches_Pad_at_I) dX1_goToStart_2 ?_
  refine js_vret (pc := 5) F hr ?_ dX1_goToStart_5
  exact rfl
theorem in_X1_append_1 : ∀ w ∈ wsX10, w ∈ wsX1_append := by decide +kernel
theorem lk_X1_append_fieldLink_RX1_15_JoinedSketches_Pad_length_I : Cond.fieldLink RX1 15 "JoinedSketches$Pad" "length" "I" ∈ wsX1_append := by decide +kernel
theorem lk_X1_append_fieldLink_RX1_9_JoinedSketches_Pad_signs_C : Cond.fieldLink RX1 9 "JoinedSketches$Pad" "signs" "[C" ∈ wsX1_append := by decide +kernel
theorem mf_X1_append : js_M yX1_append cX1_append 2 none wsX1_append 1 := ⟨⟨_, rfl⟩, by decide +kernel, by decide +kernel, by decide +kernel, by decide +kernel⟩
set_option maxHeartbeats 4000000 in
set_option maxRecDepth 100000 in
theorem c_X1_append (la : Launch) {y : js_L} (hy : js_Dy y) {G : js_G} {p : List Nat} (hP : jr_P G p) {q : Nat} (hq : q ≤ 126) (hl : p.length < 80) : js_Cv la y yX1_append wsX1_append 1 12 [.ref (js_ad y (187)), .int (nI (q))] G (fun G' => js_st (js_st G 188 p.length (nI q)) 187 1 (nI (p.length + 1)) = G') := by
  have hpl := hP.2.1
  refine js_ofv mf_X1_append (Nat.le_of_ble_eq_true rfl) hy (fun X F hr => ?_)
  replace F : js_F X y cX1_append 2 RX1 wsX1_append 1 12 := F
  show js_W X y 2 _ G 0 [(0, .ref (js_ad y (187))), (1, .int (nI (q)))] []
  refine js_aload_n (pc := 0) 0 F rfl dX1_append_0 ?_
  refine jg_P_length (pc := 1) (v := nI (p.length)) F in_X1_append_1 (lk_X1_append_fieldLink_RX1_15_JoinedSketches_Pad_length_I) (hP.1) dX1_append_1 ?_
  refine js_aload_n (pc := 4) 0 F rfl dX1_append_4 ?_
  refine jg_P_signs (pc := 5) F in_X1_append_1 (lk_X1_append_fieldLink_RX1_9_JoinedSketches_Pad_signs_C) dX1_append_5 ?_
  refine js_alen (pc := 8) (t0 := 1) F (by decide) (js_ct_Sg) rfl dX1_append_8 ?_
  refine js_icmp_geN (pc := 9) (a := p.length) (b := 80) (tgt := 32) F (by omega) (by decide) dX1_append_9 (by decide) (fun h9 => by exfalso; omega) (fun h9 => ?_)
  refine js_aload_n (pc := 12) 0 F rfl dX1_append_12 ?_
  refine jg_P_signs (pc := 13) F in_X1_append_1 (lk_X1_append_fieldLink_RX1_9_JoinedSketches_Pad_signs_C) dX1_append_13 ?_
  refine js_aload_n (pc := 16) 0 F rfl dX1_append_16 ?_
  refine jg_P_length (pc := 17) (v := nI (p.length)) F in_X1_append_1 (lk_X1_append_fieldLink_RX1_15_JoinedSketches_Pad_length_I) (hP.1) dX1_append_17 ?_
  refine js_iload_n (pc := 20) 1 F rfl dX1_append_20 ?_
  refine js_cast (pc := 21) (j := p.length) F (by decide) (fun _ => js_ct_Sg) rfl (by omega) (by decide) (by unfold vp_nar; rw [jn_narC hq]) dX1_append_21 ?_
  refine js_aload_n (pc := 22) 0 F rfl dX1_append_22 ?_
  refine js_dup (pc := 23) rfl F dX1_append_23 ?_
  refine jg_P_length (pc := 24) (v := nI (p.length)) F in_X1_append_1 (lk_X1_append_fieldLink_RX1_15_JoinedSketches_Pad_length_I) (by rw [js_st_n (by decide)]; all_goals exact (hP.1)) dX1_append_24 ?_
  refine js_iconst (pc := 27) (v := nI (1)) F (by decide) dX1_append_27 ?_
  refine js_iaddN (pc := 28) (a := p.length) (b := 1) F dX1_append_28 ?_
  refine jp_P_length (pc := 29) (v := nI (p.length + 1)) F in_X1_append_1 (lk_X1_append_fieldLink_RX1_15_JoinedSketches_Pad_length_I) dX1_append_29 ?_
  refine js_vret (pc := 32) F hr ?_ dX1_append_32
  exact rfl
theorem in_X1_keepNumber_1 : ∀ w ∈ wsX10, w ∈ wsX1_keepNumber := by decide +kernel
theorem lk_X1_keepNumber_fieldLink_RX1_28_JoinedSketches_Pad_numbers_I : Cond.fieldLink RX1 28 "JoinedSketches$Pad" "numbers" "[I" ∈ wsX1_keepNumber := by decide +kernel
theorem lk_X1_keepNumber_fieldLink_RX1_32_JoinedSketches_Pad_many_I : Cond.fieldLink RX1 32 "JoinedSketches$Pad" "many" "I" ∈ wsX1_keepNumber := by decide +kernel
theorem mf_X1_keepNumber : js_M yX1_keepNumber cX1_keepNumber 2 none wsX1_keepNumber 1 := ⟨⟨_, rfl⟩, by decide +kernel, by decide +kernel, by decide +kernel, by decide +kernel⟩
set_option maxHeartbeats 4000000 in
set_option maxRecDepth 100000 in
theorem c_X1_keepNumber (la : Launch) {y : js_L} (hy : js_Dy y) {G : js_G} {m v : Nat} (hm : G 187 6 = nI m) (hm8 : m < 80) : js_Cv la y yX1_keepNumber wsX1_keepNumber 1 12 [.ref (js_ad y (187)), .int (nI (v))] G (fun G' => js_st (js_st G 189 m (nI v)) 187 6 (nI (m + 1)) = G') := by
  refine js_ofv mf_X1_keepNumber (Nat.le_of_ble_eq_true rfl) hy (fun X F hr => ?_)
  replace F : js_F X y cX1_keepNumber 2 RX1 wsX1_keepNumber 1 12 := F
  show js_W X y 2 _ G 0 [(0, .ref (js_ad y (187))), (1, .int (nI (v)))] []
  refine js_aload_n (pc := 0) 0 F rfl dX1_keepNumber_0 ?_
  refine jg_P_many (pc := 1) (v := nI (m)) F in_X1_keepNumber_1 (lk_X1_keepNumber_fieldLink_RX1_32_JoinedSketches_Pad_many_I) (hm) dX1_keepNumber_1 ?_
  refine js_aload_n (pc := 4) 0 F rfl dX1_keepNumber_4 ?_
  refine jg_P_numbers (pc := 5) F in_X1_keepNumber_1 (lk_X1_keepNumber_fieldLink_RX1_28_JoinedSketches_Pad_numbers_I) dX1_keepNumber_5 ?_
  refine js_alen (pc := 8) (t0 := 0) F (by decide) (js_ct_Nu) rfl dX1_keepNumber_8 ?_
  refine js_icmp_geN (pc := 9) (a := m) (b := 80) (tgt := 32) F (by omega) (by decide) dX1_keepNumber_9 (by decide) (fun h9 => by exfalso; omega) (fun h9 => ?_)
  refine js_aload_n (pc := 12) 0 F rfl dX1_keepNumber_12 ?_
  refine jg_P_numbers (pc := 13) F in_X1_keepNumber_1 (lk_X1_keepNumber_fieldLink_RX1_28_JoinedSketches_Pad_numbers_I) dX1_keepNumber_13 ?_
  refine js_aload_n (pc := 16) 0 F rfl dX1_keepNumber_16 ?_
  refine jg_P_many (pc := 17) (v := nI (m)) F in_X1_keepNumber_1 (lk_X1_keepNumber_fieldLink_RX1_32_JoinedSketches_Pad_many_I) (hm) dX1_keepNumber_17 ?_
  refine js_iload_n (pc := 20) 1 F rfl dX1_keepNumber_20 ?_
  refine js_iast (pc := 21) (j := m) F (by decide) (fun _ => js_ct_Nu) rfl (by omega) (by decide) dX1_keepNumber_21 ?_
  refine js_aload_n (pc := 22) 0 F rfl dX1_keepNumber_22 ?_
  refine js_dup (pc := 23) rfl F dX1_keepNumber_23 ?_
  refine jg_P_many (pc := 24) (v := nI (m)) F in_X1_keepNumber_1 (lk_X1_keepNumber_fieldLink_RX1_32_JoinedSketches_Pad_many_I) (by rw [js_st_n (by decide)]; all_goals exact (hm)) dX1_keepNumber_24 ?_
  refine js_iconst (pc := 27) (v := nI (1)) F (by decide) dX1_keepNumber_27 ?_
  refine js_iaddN (pc := 28) (a := m) (b := 1) F dX1_keepNumber_28 ?_
  refine jp_P_many (pc := 29) (v := nI (m + 1)) F in_X1_keepNumber_1 (lk_X1_keepNumber_fieldLink_RX1_32_JoinedSketches_Pad_many_I) dX1_keepNumber_29 ?_
  refine js_vret (pc := 32) F hr ?_ dX1_keepNumber_32
  exact rfl
theorem in_X1_numberAt_1 : ∀ w ∈ wsX10, w ∈ wsX1_numberAt := by decide +kernel
theorem lk_X1_numberAt_fieldLink_RX1_28_JoinedSketches_Pad_numbers_I : Cond.fieldLink RX1 28 "JoinedSketches$Pad" "numbers" "[I" ∈ wsX1_numberAt := by decide +kernel
theorem lk_X1_numberAt_fieldLink_RX1_32_JoinedSketches_Pad_many_I : Cond.fieldLink RX1 32 "JoinedSketches$Pad" "many" "I" ∈ wsX1_numberAt := by decide +kernel
theorem mf_X1_numberAt : js_M yX1_numberAt cX1_numberAt 2 (some .int) wsX1_numberAt 1 := ⟨⟨_, rfl⟩, by decide +kernel, by decide +kernel, by decide +kernel, by decide +kernel⟩
set_option maxHeartbeats 4000000 in
set_option maxRecDepth 100000 in
theorem c_X1_numberAt (la : Launch) {y : js_L} (hy : js_Dy y) {G : js_G} {ns : List Nat} (hN : jr_N G ns) (hl : ns.length ≤ 80) {k : Nat} (hk : k < ns.length) : js_Ci la y yX1_numberAt wsX1_numberAt 1 12 [.ref (js_ad y (187)), .int (nI (k))] G (fun r G' => r = nI (ns.getD k 0) ∧ G = G') := by
  refine js_ofi mf_X1_numberAt (Nat.le_of_ble_eq_true rfl) hy (fun X F hr => ?_)
  replace F : js_F X y cX1_numberAt 2 RX1 wsX1_numberAt 1 12 := F
  show js_W X y 2 _ G 0 [(0, .ref (js_ad y (187))), (1, .int (nI (k)))] []
  refine js_iload_n (pc := 0) 1 F rfl dX1_numberAt_0 ?_
  refine js_if_ltN (pc := 1) (a := k) (tgt := 30) F (by omega) dX1_numberAt_1 (by decide) (fun h1 => by exact absurd h1 (Nat.not_lt_zero _)) (fun h1 => ?_)
  refine js_iload_n (pc := 4) 1 F rfl dX1_numberAt_4 ?_
  refine js_aload_n (pc := 5) 0 F rfl dX1_numberAt_5 ?_
  refine jg_P_many (pc := 6) (v := nI (ns.length)) F in_X1_numberAt_1 (lk_X1_numberAt_fieldLink_RX1_32_JoinedSketches_Pad_many_I) (hN.1) dX1_numberAt_6 ?_
  refine js_icmp_geN (pc := 9) (a := k) (b := ns.length) (tgt := 30) F (by omega) (by omega) dX1_numberAt_9 (by decide) (fun h9 => by exfalso; omega) (fun h9 => ?_)
  refine js_iload_n (pc := 12) 1 F rfl dX1_numberAt_12 ?_
  refine js_aload_n (pc := 13) 0 F rfl dX1_numberAt_13 ?_
  refine jg_P_numbers (pc := 14) F in_X1_numberAt_1 (lk_X1_numberAt_fieldLink_RX1_28_JoinedSketches_Pad_numbers_I) dX1_numberAt_14 ?_
  refine js_alen (pc := 17) (t0 := 0) F (by decide) (js_ct_Nu) rfl dX1_numberAt_17 ?_
  refine js_icmp_geN (pc := 18) (a := k) (b := 80) (tgt := 30) F (by omega) (by decide) dX1_numberAt_18 (by decide) (fun h18 => by exfalso; omega) (fun h18 => ?_)
  refine js_aload_n (pc := 21) 0 F rfl dX1_numberAt_21 ?_
  refine jg_P_numbers (pc := 22) F in_X1_numberAt_1 (lk_X1_numberAt_fieldLink_RX1_28_JoinedSketches_Pad_numbers_I) dX1_numberAt_22 ?_
  refine js_iload_n (pc := 25) 1 F rfl dX1_numberAt_25 ?_
  refine js_iald (pc := 26) (j := k) (v := nI (ns.getD (k) 0)) F (by decide) (js_ct_Nu) rfl (by omega) (by decide) (hN.2 _ (by omega)) dX1_numberAt_26 ?_
  refine js_goto (pc := 27) (tgt := 31) F dX1_numberAt_27 (by decide) ?_
  refine js_iret (pc := 31) F hr (rfl) ?_ dX1_numberAt_31
  exact ⟨rfl, rfl⟩
theorem in_X1_sign_1 : ∀ w ∈ wsX10, w ∈ wsX1_sign := by decide +kernel
theorem lk_X1_sign_fieldLink_RX1_15_JoinedSketches_Pad_length_I : Cond.fieldLink RX1 15 "JoinedSketches$Pad" "length" "I" ∈ wsX1_sign := by decide +kernel
theorem lk_X1_sign_fieldLink_RX1_19_JoinedSketches_Pad_at_I : Cond.fieldLink RX1 19 "JoinedSketches$Pad" "at" "I" ∈ wsX1_sign := by decide +kernel
theorem lk_X1_sign_fieldLink_RX1_9_JoinedSketches_Pad_signs_C : Cond.fieldLink RX1 9 "JoinedSketches$Pad" "signs" "[C" ∈ wsX1_sign := by decide +kernel
theorem mf_X1_sign : js_M yX1_sign cX1_sign 1 (some .char) wsX1_sign 0 := ⟨⟨_, rfl⟩, by decide +kernel, by decide +kernel, by decide +kernel, by decide +kernel⟩
set_option maxHeartbeats 4000000 in
set_option maxRecDepth 100000 in
theorem c_X1_sign (la : Launch) {y : js_L} (hy : js_Dy y) {G : js_G} {p : List Nat} (hP : jr_P G p) {a : Nat} (ha : G 187 2 = nI a) (ha2 : a ≤ 80) : js_Ci la y yX1_sign wsX1_sign 1 12 [.ref (js_ad y (187))] G (fun r G' => r = nI (jq p a) ∧ G = G') := by
  have hpl := hP.2.1
  refine js_ofi mf_X1_sign (Nat.le_of_ble_eq_true rfl) hy (fun X F hr => ?_)
  replace F : js_F X y cX1_sign 1 RX1 wsX1_sign 1 12 := F
  show js_W X y 1 _ G 0 [(0, .ref (js_ad y (187)))] []
  refine js_aload_n (pc := 0) 0 F rfl dX1_sign_0 ?_
  refine jg_P_at (pc := 1) (v := nI (a)) F in_X1_sign_1 (lk_X1_sign_fieldLink_RX1_19_JoinedSketches_Pad_at_I) (ha) dX1_sign_1 ?_
  refine js_if_ltN (pc := 4) (a := a) (tgt := 42) F (by omega) dX1_sign_4 (by decide) (fun h4 => by exact absurd h4 (Nat.not_lt_zero _)) (fun h4 => ?_)
  refine js_aload_n (pc := 7) 0 F rfl dX1_sign_7 ?_
  refine jg_P_at (pc := 8) (v := nI (a)) F in_X1_sign_1 (lk_X1_sign_fieldLink_RX1_19_JoinedSketches_Pad_at_I) (ha) dX1_sign_8 ?_
  refine js_aload_n (pc := 11) 0 F rfl dX1_sign_11 ?_
  refine jg_P_length (pc := 12) (v := nI (p.length)) F in_X1_sign_1 (lk_X1_sign_fieldLink_RX1_15_JoinedSketches_Pad_length_I) (hP.1) dX1_sign_12 ?_
  refine js_icmp_geN (pc := 15) (a := a) (b := p.length) (tgt := 42) F (by omega) (by omega) dX1_sign_15 (by decide) (fun h15 => ?_) (fun h15 => ?_)
  · skip
    refine js_iconst (pc := 42) (v := nI (0)) F (by decide) dX1_sign_42 ?_
    refine js_iret (pc := 43) F hr (by first | exact jn_narC (hP.q _) | rfl) ?_ dX1_sign_43
    exact ⟨by rw [jr_P.q0 (by omega)], rfl⟩
  · skip
    refine js_aload_n (pc := 18) 0 F rfl dX1_sign_18 ?_
    refine jg_P_at (pc := 19) (v := nI (a)) F in_X1_sign_1 (lk_X1_sign_fieldLink_RX1_19_JoinedSketches_Pad_at_I) (ha) dX1_sign_19 ?_
    refine js_aload_n (pc := 22) 0 F rfl dX1_sign_22 ?_
    refine jg_P_signs (pc := 23) F in_X1_sign_1 (lk_X1_sign_fieldLink_RX1_9_JoinedSketches_Pad_signs_C) dX1_sign_23 ?_
    refine js_alen (pc := 26) (t0 := 1) F (by decide) (js_ct_Sg) rfl dX1_sign_26 ?_
    refine js_icmp_geN (pc := 27) (a := a) (b := 80) (tgt := 42) F (by omega) (by decide) dX1_sign_27 (by decide) (fun h27 => ?_) (fun h27 => ?_)
    · skip
      refine js_iconst (pc := 42) (v := nI (0)) F (by decide) dX1_sign_42 ?_
      refine js_iret (pc := 43) F hr (by first | exact jn_narC (hP.q _) | rfl) ?_ dX1_sign_43
      exact ⟨by rw [jr_P.q0 (by omega)], rfl⟩
    · skip
      refine js_aload_n (pc := 30) 0 F rfl dX1_sign_30 ?_
      refine jg_P_signs (pc := 31) F in_X1_sign_1 (lk_X1_sign_fieldLink_RX1_9_JoinedSketches_Pad_signs_C) dX1_sign_31 ?_
      refine js_aload_n (pc := 34) 0 F rfl dX1_sign_34 ?_
      refine jg_P_at (pc := 35) (v := nI (a)) F in_X1_sign_1 (lk_X1_sign_fieldLink_RX1_19_JoinedSketches_Pad_at_I) (ha) dX1_sign_35 ?_
      refine js_cald (pc := 38) (j := a) (v := nI (jq p (a))) F (by decide) (js_ct_Sg) rfl (by omega) (by decide) (hP.at (by omega)) dX1_sign_38 ?_
      refine js_goto (pc := 39) (tgt := 43) F dX1_sign_39 (by decide) ?_
      refine js_iret (pc := 43) F hr (by first | exact jn_narC (hP.q _) | rfl) ?_ dX1_sign_43
      exact ⟨rfl, rfl⟩
theorem mf_X1_digit : js_M yX1_digit cX1_digit 2 (some .int) wsX1_digit 0 := ⟨⟨_, rfl⟩, by decide +kernel, by decide +kernel, by decide +kernel, by decide +kernel⟩
set_option maxHeartbeats 4000000 in
set_option maxRecDepth 100000 in
theorem c_X1_digit (la : Launch) {y : js_L} (hy : js_Dy y) {G : js_G} {p : List Nat} (hP : jr_P G p) {a : Nat} (ha : G 187 2 = nI a) (ha2 : a ≤ 80) : js_Ci la y yX1_digit wsX1_digit 2 32 [.ref (js_ad y (187))] G (fun r G' => ((jp_d (jq p a) ∧ r = nI (jq p a - 48)) ∨ (¬ jp_d (jq p a) ∧ r = -1)) ∧ G = G') := by
  have hpl := hP.2.1
  have hq := hP.q a
  refine js_ofi mf_X1_digit (Nat.le_of_ble_eq_true rfl) hy (fun X F hr => ?_)
  replace F : js_F X y cX1_digit 2 RX1 wsX1_digit 2 32 := F
  show js_W X y 2 _ G 0 [(0, .ref (js_ad y (187)))] []
  refine js_aload_n (pc := 0) 0 F rfl dX1_digit_0 ?_
  refine js_calli (pc := 1) F (c_X1_sign _ hy (G := G) (p := p) (hP) (a := a) (ha) (by omega)) mf_X1_sign gX1_digit_X1_sign rfl (by decide) (by decide) (js_ct_P) rfl rfl rfl (Nat.le_of_ble_eq_true rfl) dX1_digit_1 ?_
  rintro _ _ ⟨rfl, rfl⟩
  refine js_istore_n (pc := 4) (lv2 := [(0, .ref (js_ad y (187))), (1, .int (nI (jq p (a))))]) F dX1_digit_4 (by decide) [1, 0] rfl ?_
  refine js_iload_n (pc := 5) 1 F rfl dX1_digit_5 ?_
  refine js_bipush (pc := 6) (v := nI (48)) F (by decide) dX1_digit_6 ?_
  refine js_icmp_ltN (pc := 8) (a := jq p (a)) (b := 48) (tgt := 24) F (by omega) (by decide) dX1_digit_8 (by decide) (fun h8 => ?_) (fun h8 => ?_)
  · skip
    refine js_iconst (pc := 24) (v := (-1)) F (by decide) dX1_digit_24 ?_
    refine js_iret (pc := 25) F hr (rfl) ?_ dX1_digit_25
    exact ⟨Or.inr ⟨fun z => by have := z.1; have := z.2; omega, rfl⟩, rfl⟩
  · skip
    refine js_iload_n (pc := 11) 1 F rfl dX1_digit_11 ?_
    refine js_bipush (pc := 12) (v := nI (57)) F (by decide) dX1_digit_12 ?_
    refine js_icmp_gtN (pc := 14) (a := jq p (a)) (b := 57) (tgt := 24) F (by omega) (by decide) dX1_digit_14 (by decide) (fun h14 => ?_) (fun h14 => ?_)
    · skip
      refine js_iconst (pc := 24) (v := (-1)) F (by decide) dX1_digit_24 ?_
      refine js_iret (pc := 25) F hr (rfl) ?_ dX1_digit_25
      exact ⟨Or.inr ⟨fun z => by have := z.1; have := z.2; omega, rfl⟩, rfl⟩
    · skip
      refine js_iload_n (pc := 17) 1 F rfl dX1_digit_17 ?_
      refine js_bipush (pc := 18) (v := nI (48)) F (by decide) dX1_digit_18 ?_
      refine js_isubN (pc := 20) (a := jq p (a)) (b := 48) F (by omega) dX1_digit_20 ?_
      refine js_goto (pc := 21) (tgt := 25) F dX1_digit_21 (by decide) ?_
      refine js_iret (pc := 25) F hr (rfl) ?_ dX1_digit_25
      exact ⟨Or.inl ⟨⟨by omega, by omega⟩, rfl⟩, rfl⟩
theorem mf_X1_standsAtSketch : js_M yX1_standsAtSketch cX1_standsAtSketch 2 (some .boolean) wsX1_standsAtSketch 0 := ⟨⟨_, rfl⟩, by decide +kernel, by decide +kernel, by decide +kernel, by decide +kernel⟩
set_option maxHeartbeats 4000000 in
set_option maxRecDepth 100000 in
theorem c_X1_standsAtSketch (la : Launch) {y : js_L} (hy : js_Dy y) {G : js_G} {p : List Nat} (hP : jr_P G p) {a : Nat} (ha : G 187 2 = nI a) (ha2 : a ≤ 80) : js_Ci la y yX1_standsAtSketch wsX1_standsAtSketch 3 53 [.ref (js_ad y (187))] G (fun r G' => r = nI (if jp_s (jq p a) then 1 else 0) ∧ G = G') := by
  have hpl := hP.2.1
  have hq := hP.q a
  refine js_ofi mf_X1_standsAtSketch (Nat.le_of_ble_eq_true rfl) hy (fun X F hr => ?_)
  replace F : js_F X y cX1_standsAtSketch 2 RX1 wsX1_standsAtSketch 3 53 := F
  show js_W X y 2 _ G 0 [(0, .ref (js_ad y (187)))] []
  refine js_aload_n (pc := 0) 0 F rfl dX1_standsAtSketch_0 ?_
  refine js_calli (pc := 1) F (c_X1_digit _ hy (G := G) (p := p) (hP) (a := a) (ha) (by omega)) mf_X1_digit gX1_standsAtSketch_X1_digit rfl (by decide) (by decide) (js_ct_P) rfl rfl rfl (Nat.le_of_ble_eq_true rfl) dX1_standsAtSketch_1 ?_
  rintro _ _ ⟨⟨d1, rfl⟩ | ⟨d1, rfl⟩, rfl⟩
  · skip
    have d1a := d1.1; have d1b := d1.2
    refine js_istore_n (pc := 4) (lv2 := [(0, .ref (js_ad y (187))), (1, .int (nI (jq p (a) - 48)))]) F dX1_standsAtSketch_4 (by decide) [1, 0] rfl ?_
    refine js_iload_n (pc := 5) 1 F rfl dX1_standsAtSketch_5 ?_
    refine js_if_ltN (pc := 6) (a := jq p (a) - 48) (tgt := 19) F (by omega) dX1_standsAtSketch_6 (by decide) (fun h6 => ?_) (fun h6 => ?_)
    · skip
      refine js_iconst (pc := 19) (v := nI (0)) F (by decide) dX1_standsAtSketch_19 ?_
      refine js_iret (pc := 20) F hr (rfl) ?_ dX1_standsAtSketch_20
      exact ⟨by rw [if_neg (fun z => by first | (have := z.1; have := z.2; omega) | (exact d1 ⟨z.1, by have := z.2; omega⟩))], rfl⟩
    · skip
      refine js_iload_n (pc := 9) 1 F rfl dX1_standsAtSketch_9 ?_
      refine js_bipush (pc := 10) (v := nI (6)) F (by decide) dX1_standsAtSketch_10 ?_
      refine js_icmp_geN (pc := 12) (a := jq p (a) - 48) (b := 6) (tgt := 19) F (by omega) (by decide) dX1_standsAtSketch_12 (by decide) (fun h12 => ?_) (fun h12 => ?_)
      · skip
        refine js_iconst (pc := 19) (v := nI (0)) F (by decide) dX1_standsAtSketch_19 ?_
        refine js_iret (pc := 20) F hr (rfl) ?_ dX1_standsAtSketch_20
        exact ⟨by rw [if_neg (fun z => by first | (have := z.1; have := z.2; omega) | (exact d1 ⟨z.1, by have := z.2; omega⟩))], rfl⟩
      · skip
        refine js_iconst (pc := 15) (v := nI (1)) F (by decide) dX1_standsAtSketch_15 ?_
        refine js_goto (pc := 16) (tgt := 20) F dX1_standsAtSketch_16 (by decide) ?_
        refine js_iret (pc := 20) F hr (rfl) ?_ dX1_standsAtSketch_20
        exact ⟨by rw [if_pos ⟨by omega, by omega⟩], rfl⟩
  · skip
    refine js_istore_n (pc := 4) (lv2 := [(0, .ref (js_ad y (187))), (1, .int (-1))]) F dX1_standsAtSketch_4 (by decide) [1, 0] rfl ?_
    refine js_iload_n (pc := 5) 1 F rfl dX1_standsAtSketch_5 ?_
    refine js_if_lt (pc := 6) (tgt := 19) F dX1_standsAtSketch_6 (by decide) (fun _ => ?_) (fun h6 => absurd (by decide) h6)
    refine js_iconst (pc := 19) (v := nI (0)) F (by decide) dX1_standsAtSketch_19 ?_
    refine js_iret (pc := 20) F hr (rfl) ?_ dX1_standsAtSketch_20
    exact ⟨by rw [if_neg (fun z => by first | (have := z.1; have := z.2; omega) | (exact d1 ⟨z.1, by have := z.2; omega⟩))], rfl⟩
theorem in_X1_accept_1 : ∀ w ∈ wsX10, w ∈ wsX1_accept := by decide +kernel
theorem lk_X1_accept_fieldLink_RX1_19_JoinedSketches_Pad_at_I : Cond.fieldLink RX1 19 "JoinedSketches$Pad" "at" "I" ∈ wsX1_accept := by decide +kernel
theorem mf_X1_accept : js_M yX1_accept cX1_accept 2 (some .boolean) wsX1_accept 1 := ⟨⟨_, rfl⟩, by decide +kernel, by decide +kernel, by decide +kernel, by decide +kernel⟩
set_option maxHeartbeats 4000000 in
set_option maxRecDepth 100000 in
theorem c_X1_accept (la : Launch) {y : js_L} (hy : js_Dy y) {G : js_G} {p : List Nat} (hP : jr_P G p) {a : Nat} (ha : G 187 2 = nI a) (ha2 : a ≤ 80) {w : Nat} (hw : w ≤ 126) : js_Ci la y yX1_accept wsX1_accept 2 32 [.ref (js_ad y (187)), .int (nI (w))] G (fun r G' => (jq p a = w ∧ r = nI 1 ∧ js_st G 187 2 (nI (a + 1)) = G') ∨ (¬ jq p a = w ∧ r = nI 0 ∧ G = G')) := by
  have hpl := hP.2.1
  have hq := hP.q a
  refine js_ofi mf_X1_accept (Nat.le_of_ble_eq_true rfl) hy (fun X F hr => ?_)
  replace F : js_F X y cX1_accept 2 RX1 wsX1_accept 2 32 := F
  show js_W X y 2 _ G 0 [(0, .ref (js_ad y (187))), (1, .int (nI (w)))] []
  refine js_aload_n (pc := 0) 0 F rfl dX1_accept_0 ?_
  refine js_calli (pc := 1) F (c_X1_sign _ hy (G := G) (p := p) (hP) (a := a) (ha) (by omega)) mf_X1_sign gX1_accept_X1_sign rfl (by decide) (by decide) (js_ct_P) rfl rfl rfl (Nat.le_of_ble_eq_true rfl) dX1_accept_1 ?_
  rintro _ _ ⟨rfl, rfl⟩
  refine js_iload_n (pc := 4) 1 F rfl dX1_accept_4 ?_
  refine js_icmp_eqN (pc := 5) (a := jq p (a)) (b := w) (tgt := 10) F (by omega) (by omega) dX1_accept_5 (by decide) (fun h5 => ?_) (fun h5 => ?_)
  · skip
    refine js_aload_n (pc := 10) 0 F rfl dX1_accept_10 ?_
    refine js_dup (pc := 11) rfl F dX1_accept_11 ?_
    refine jg_P_at (pc := 12) (v := nI (a)) F in_X1_accept_1 (lk_X1_accept_fieldLink_RX1_19_JoinedSketches_Pad_at_I) (ha) dX1_accept_12 ?_
    refine js_iconst (pc := 15) (v := nI (1)) F (by decide) dX1_accept_15 ?_
    refine js_iaddN (pc := 16) (a := a) (b := 1) F dX1_accept_16 ?_
    refine jp_P_at (pc := 17) (v := nI (a + 1)) F in_X1_accept_1 (lk_X1_accept_fieldLink_RX1_19_JoinedSketches_Pad_at_I) dX1_accept_17 ?_
    refine js_iconst (pc := 20) (v := nI (1)) F (by decide) dX1_accept_20 ?_
    refine js_iret (pc := 21) F hr (rfl) ?_ dX1_accept_21
    exact Or.inl ⟨h5, rfl, rfl⟩
  · skip
    refine js_iconst (pc := 8) (v := nI (0)) F (by decide) dX1_accept_8 ?_
    refine js_iret (pc := 9) F hr (rfl) ?_ dX1_accept_9
    exact Or.inr ⟨h5, rfl, rfl⟩
theorem in_X1_readNumber_1 : ∀ w ∈ wsX10, w ∈ wsX1_readNumber := by decide +kernel
theorem lk_X1_readNumber_constant_RX1_70_100000 : Cond.constant RX1 70 (100000) ∈ wsX1_readNumber := by decide +kernel
theorem lk_X1_readNumber_fieldLink_RX1_19_JoinedSketches_Pad_at_I : Cond.fieldLink RX1 19 "JoinedSketches$Pad" "at" "I" ∈ wsX1_readNumber := by decide +kernel
theorem mf_X1_readNumber : js_M yX1_readNumber cX1_readNumber 4 (some .boolean) wsX1_readNumber 0 := ⟨⟨_, rfl⟩, by decide +kernel, by decide +kernel, by decide +kernel, by decide +kernel⟩
set_option maxHeartbeats 4000000 in
set_option maxRecDepth 100000 in
theorem c_X1_readNumber (la : Launch) {y : js_L} (hy : js_Dy y) {G : js_G} {p : List Nat} (hP : jr_P G p) {a : Nat} (ha : G 187 2 = nI a) (ha2 : a ≤ 80) {ns : List Nat} (hN : jr_N G ns) (hn8 : ns.length < 80) : js_Ci la y yX1_readNumber wsX1_readNumber 3 53 [.ref (js_ad y (187))] G (fun r G' => (jp_num p a = none ∧ r = nI 0 ∧ G = G') ∨ (∃ v z, jp_num p a = some (v, z) ∧ r = nI 1 ∧ G' 187 2 = nI z ∧ jr_N G' (ns ++ [v]) ∧ js_fp G G' ∧ G' 187 3 = G 187 3 ∧ G' 187 4 = G 187 4)) := by
  have hpl := hP.2.1
  have hq := hP.q a
  refine js_ofi mf_X1_readNumber (Nat.le_of_ble_eq_true rfl) hy (fun X F hr => ?_)
  replace F : js_F X y cX1_readNumber 4 RX1 wsX1_readNumber 3 53 := F
  show js_W X y 4 _ G 0 [(0, .ref (js_ad y (187)))] []
  refine js_aload_n (pc := 0) 0 F rfl dX1_readNumber_0 ?_
  refine js_calli (pc := 1) F (c_X1_digit _ hy (G := G) (p := p) (hP) (a := a) (ha) (by omega)) mf_X1_digit gX1_readNumber_X1_digit rfl (by decide) (by decide) (js_ct_P) rfl rfl rfl (Nat.le_of_ble_eq_true rfl) dX1_readNumber_1 ?_
  rintro _ _ ⟨⟨d1, rfl⟩ | ⟨d1, rfl⟩, rfl⟩
  · skip
    have d1a := d1.1; have d1b := d1.2
    refine js_istore_n (pc := 4) (lv2 := [(0, .ref (js_ad y (187))), (1, .int (nI (jq p (a) - 48)))]) F dX1_readNumber_4 (by decide) [1, 0] rfl ?_
    refine js_iload_n (pc := 5) 1 F rfl dX1_readNumber_5 ?_
    refine js_if_geN (pc := 6) (a := jq p (a) - 48) (tgt := 11) F (by first | omega | (have := d34b; omega)) dX1_readNumber_6 (by decide) (fun h6 => ?_) (fun h6 => ?_)
    · skip
      refine js_aload_n (pc := 11) 0 F rfl dX1_readNumber_11 ?_
      refine js_dup (pc := 12) rfl F dX1_readNumber_12 ?_
      refine jg_P_at (pc := 13) (v := nI (a)) F in_X1_readNumber_1 (lk_X1_readNumber_fieldLink_RX1_19_JoinedSketches_Pad_at_I) (ha) dX1_readNumber_13 ?_
      refine js_iconst (pc := 16) (v := nI (1)) F (by decide) dX1_readNumber_16 ?_
      refine js_iaddN (pc := 17) (a := a) (b := 1) F dX1_readNumber_17 ?_
      refine jp_P_at (pc := 18) (v := nI (a + 1)) F in_X1_readNumber_1 (lk_X1_readNumber_fieldLink_RX1_19_JoinedSketches_Pad_at_I) dX1_readNumber_18 ?_
      refine js_iconst (pc := 21) (v := nI (1)) F (by decide) dX1_readNumber_21 ?_
      refine js_istore_n (pc := 22) (lv2 := [(0, .ref (js_ad y (187))), (1, .int (nI (jq p (a) - 48))), (2, .int (nI (1)))]) F dX1_readNumber_22 (by decide) [1, 2, 0] rfl ?_
      have L23 : ∀ (fu23 : Nat) (k : Nat) (v : Nat) (b : Nat) (G1 : js_G) (hk1 : 1 ≤ k) (hk : k ≤ 80) (hv : v < 100000) (hbp : b ≤ p.length) (hm : jp_more p 79 (jq p a - 48) (a + 1) = jp_more p (80 - k) v b) (hP1 : jr_P G1 p) (hb : G1 187 2 = nI b) (hN1 : jr_N G1 ns) (hf : js_fp G G1 ∧ G1 187 3 = G 187 3 ∧ G1 187 4 = G 187 4) (hfu23 : 80 - k < fu23), js_W X y 4 (js_Qi X y (fun r G' => (jp_num p a = none ∧ r = nI 0 ∧ G = G') ∨ (∃ v z, jp_num p a = some (v, z) ∧ r = nI 1 ∧ G' 187 2 = nI z ∧ jr_N G' (ns ++ [v]) ∧ js_fp G G' ∧ G' 187 3 = G 187 3 ∧ G' 187 4 = G 187 4))) G1 23 [(0, .ref (js_ad y (187))), (1, .int (nI (v))), (2, .int (nI (k)))] [] := by
        intro fu23
        induction fu23 with
        | zero => intro k v b G1 hk1 hk hv hbp hm hP1 hb hN1 hf hfu23; exact absurd hfu23 (Nat.not_lt_zero _)
        | succ fu23 ih23 =>
          intro k v b G1 hk1 hk hv hbp hm hP1 hb hN1 hf hfu23
          refine js_iload_n (pc := 23) 2 F rfl dX1_readNumber_23 ?_
          refine js_bipush (pc := 24) (v := nI (80)) F (by decide) dX1_readNumber_24 ?_
          refine js_icmp_geN (pc := 26) (a := k) (b := 80) (tgt := 77) F (by first | omega | (have := d34b; omega)) (by decide) dX1_readNumber_26 (by decide) (fun h26 => ?_) (fun h26 => ?_)
          · skip
            refine js_aload_n (pc := 77) 0 F rfl dX1_readNumber_77 ?_
            refine js_iload_n (pc := 78) 1 F rfl dX1_readNumber_78 ?_
            refine js_callv (pc := 79) F (c_X1_keepNumber _ hy (G := G1) (m := ns.length) (v := v) hN1.1 hn8) mf_X1_keepNumber gX1_readNumber_X1_keepNumber rfl (by decide) (by decide) (js_ct_P) rfl rfl rfl (Nat.le_of_ble_eq_true rfl) dX1_readNumber_79 ?_
            rintro G9 hG9
            refine js_iconst (pc := 82) (v := nI (1)) F (by decide) dX1_readNumber_82 ?_
            refine js_iret (pc := 83) F hr (rfl) ?_ dX1_readNumber_83
            refine Or.inr ⟨v, b, ?_, rfl, ?_, ?_, ?_, ?_, ?_⟩
            · unfold jp_num; rw [if_pos d1, hm]; first | (rw [show 80 - k = 0 by omega]; rfl) | (rw [show 80 - k = (80 - (k + 1)) + 1 by omega]; exact congrArg some (if_neg (fun z => by first | (exact absurd z.1 (by omega)) | (exact d34 z.2.1) | (have := z.2.2; omega))))
            · rw [← hG9, js_st_s]; simp only [upd]; rw [if_neg (by decide), js_st_n (by decide)]; exact hb
            · rw [← hG9]; exact hN1.push
            · rw [← hG9]; exact hf.1.tr (js_fp.tr js_fp.stn (js_fp.st (by decide)))
            · rw [← hG9, js_st_s]; simp only [upd]; rw [if_neg (by decide), js_st_n (by decide)]; exact hf.2.1
            · rw [← hG9, js_st_s]; simp only [upd]; rw [if_neg (by decide), js_st_n (by decide)]; exact hf.2.2
          · skip
            refine js_iload_n (pc := 29) 1 F rfl dX1_readNumber_29 ?_
            refine js_if_leN (pc := 30) (a := v) (tgt := 77) F (by first | omega | (have := d34b; omega)) dX1_readNumber_30 (by decide) (fun h30 => ?_) (fun h30 => ?_)
            · skip
              refine js_aload_n (pc := 77) 0 F rfl dX1_readNumber_77 ?_
              refine js_iload_n (pc := 78) 1 F rfl dX1_readNumber_78 ?_
              refine js_callv (pc := 79) F (c_X1_keepNumber _ hy (G := G1) (m := ns.length) (v := v) hN1.1 hn8) mf_X1_keepNumber gX1_readNumber_X1_keepNumber rfl (by decide) (by decide) (js_ct_P) rfl rfl rfl (Nat.le_of_ble_eq_true rfl) dX1_readNumber_79 ?_
              rintro G9 hG9
              refine js_iconst (pc := 82) (v := nI (1)) F (by decide) dX1_readNumber_82 ?_
              refine js_iret (pc := 83) F hr (rfl) ?_ dX1_readNumber_83
              refine Or.inr ⟨v, b, ?_, rfl, ?_, ?_, ?_, ?_, ?_⟩
              · unfold jp_num; rw [if_pos d1, hm]; first | (rw [show 80 - k = 0 by omega]; rfl) | (rw [show 80 - k = (80 - (k + 1)) + 1 by omega]; exact congrArg some (if_neg (fun z => by first | (exact absurd z.1 (by omega)) | (exact d34 z.2.1) | (have := z.2.2; omega))))
              · rw [← hG9, js_st_s]; simp only [upd]; rw [if_neg (by decide), js_st_n (by decide)]; exact hb
              · rw [← hG9]; exact hN1.push
              · rw [← hG9]; exact hf.1.tr (js_fp.tr js_fp.stn (js_fp.st (by decide)))
              · rw [← hG9, js_st_s]; simp only [upd]; rw [if_neg (by decide), js_st_n (by decide)]; exact hf.2.1
              · rw [← hG9, js_st_s]; simp only [upd]; rw [if_neg (by decide), js_st_n (by decide)]; exact hf.2.2
            · skip
              refine js_aload_n (pc := 33) 0 F rfl dX1_readNumber_33 ?_
              refine js_calli (pc := 34) F (c_X1_digit _ hy (G := G1) (p := p) (hP1) (a := b) (hb) (by omega)) mf_X1_digit gX1_readNumber_X1_digit rfl (by decide) (by decide) (js_ct_P) rfl rfl rfl (Nat.le_of_ble_eq_true rfl) dX1_readNumber_34 ?_
              rintro _ _ ⟨⟨d34, rfl⟩ | ⟨d34, rfl⟩, rfl⟩
              · skip
                have d34a := d34.1; have d34b := d34.2
                refine js_if_ltN (pc := 37) (a := jq p (b) - 48) (tgt := 77) F (by first | omega | (have := d34b; omega)) dX1_readNumber_37 (by decide) (fun h37 => ?_) (fun h37 => ?_)
                · skip
                  refine js_aload_n (pc := 77) 0 F rfl dX1_readNumber_77 ?_
                  refine js_iload_n (pc := 78) 1 F rfl dX1_readNumber_78 ?_
                  refine js_callv (pc := 79) F (c_X1_keepNumber _ hy (G := G1) (m := ns.length) (v := v) hN1.1 hn8) mf_X1_keepNumber gX1_readNumber_X1_keepNumber rfl (by decide) (by decide) (js_ct_P) rfl rfl rfl (Nat.le_of_ble_eq_true rfl) dX1_readNumber_79 ?_
                  rintro G9 hG9
                  refine js_iconst (pc := 82) (v := nI (1)) F (by decide) dX1_readNumber_82 ?_
                  refine js_iret (pc := 83) F hr (rfl) ?_ dX1_readNumber_83
                  refine Or.inr ⟨v, b, ?_, rfl, ?_, ?_, ?_, ?_, ?_⟩
                  · unfold jp_num; rw [if_pos d1, hm]; first | (rw [show 80 - k = 0 by omega]; rfl) | (rw [show 80 - k = (80 - (k + 1)) + 1 by omega]; exact congrArg some (if_neg (fun z => by first | (exact absurd z.1 (by omega)) | (exact d34 z.2.1) | (have := z.2.2; omega))))
                  · rw [← hG9, js_st_s]; simp only [upd]; rw [if_neg (by decide), js_st_n (by decide)]; exact hb
                  · rw [← hG9]; exact hN1.push
                  · rw [← hG9]; exact hf.1.tr (js_fp.tr js_fp.stn (js_fp.st (by decide)))
                  · rw [← hG9, js_st_s]; simp only [upd]; rw [if_neg (by decide), js_st_n (by decide)]; exact hf.2.1
                  · rw [← hG9, js_st_s]; simp only [upd]; rw [if_neg (by decide), js_st_n (by decide)]; exact hf.2.2
                · skip
                  refine js_iload_n (pc := 40) 1 F rfl dX1_readNumber_40 ?_
                  refine js_bipush (pc := 41) (v := nI (10)) F (by decide) dX1_readNumber_41 ?_
                  refine js_imulN (pc := 43) (a := v) (b := 10) F dX1_readNumber_43 ?_
                  refine js_aload_n (pc := 44) 0 F rfl dX1_readNumber_44 ?_
                  refine js_calli (pc := 45) F (c_X1_digit _ hy (G := G1) (p := p) (hP1) (a := b) (hb) (by omega)) mf_X1_digit gX1_readNumber_X1_digit rfl (by decide) (by decide) (js_ct_P) rfl rfl rfl (Nat.le_of_ble_eq_true rfl) dX1_readNumber_45 ?_
                  rintro _ _ ⟨⟨_, rfl⟩ | ⟨q45, rfl⟩, rfl⟩
                  rotate_left
                  · exact absurd d34 q45
                  refine js_iaddN (pc := 48) (a := v * 10) (b := jq p (b) - 48) F dX1_readNumber_48 ?_
                  refine js_istore_n (pc := 49) (lv2 := [(0, .ref (js_ad y (187))), (1, .int (nI (v))), (2, .int (nI (k))), (3, .int (nI ((v * 10) + (jq p (b) - 48))))]) F dX1_readNumber_49 (by decide) [1, 2, 3, 0] rfl ?_
                  refine js_iload_n (pc := 50) 3 F rfl dX1_readNumber_50 ?_
                  refine js_ldc (pc := 51) (v := nI (100000)) F (lk_X1_readNumber_constant_RX1_70_100000) dX1_readNumber_51 ?_
                  refine js_icmp_ltN (pc := 53) (a := (v * 10) + (jq p (b) - 48)) (b := 100000) (tgt := 59) F (by first | omega | (have := d34b; omega)) (by decide) dX1_readNumber_53 (by decide) (fun h53 => ?_) (fun h53 => ?_)
                  · skip
                    refine js_iload_n (pc := 59) 3 F rfl dX1_readNumber_59 ?_
                    refine js_istore_n (pc := 60) (lv2 := [(0, .ref (js_ad y (187))), (1, .int (nI ((v * 10) + (jq p (b) - 48)))), (2, .int (nI (k))), (3, .int (nI ((v * 10) + (jq p (b) - 48))))]) F dX1_readNumber_60 (by decide) [1, 0, 2, 3] rfl ?_
                    refine js_aload_n (pc := 61) 0 F rfl dX1_readNumber_61 ?_
                    refine js_dup (pc := 62) rfl F dX1_readNumber_62 ?_
                    refine jg_P_at (pc := 63) (v := nI (b)) F in_X1_readNumber_1 (lk_X1_readNumber_fieldLink_RX1_19_JoinedSketches_Pad_at_I) (hb) dX1_readNumber_63 ?_
                    refine js_iconst (pc := 66) (v := nI (1)) F (by decide) dX1_readNumber_66 ?_
                    refine js_iaddN (pc := 67) (a := b) (b := 1) F dX1_readNumber_67 ?_
                    refine jp_P_at (pc := 68) (v := nI (b + 1)) F in_X1_readNumber_1 (lk_X1_readNumber_fieldLink_RX1_19_JoinedSketches_Pad_at_I) dX1_readNumber_68 ?_
                    refine js_iinc (pc := 71) (v := nI (k + 1)) (lv2 := [(0, .ref (js_ad y (187))), (1, .int (nI ((v * 10) + (jq p (b) - 48)))), (2, .int (nI (k + 1))), (3, .int (nI ((v * 10) + (jq p (b) - 48))))]) F dX1_readNumber_71 2 rfl (nI_add _ _) (by decide) [1, 2, 0, 3] rfl ?_
                    refine js_goto (pc := 74) (tgt := 23) F dX1_readNumber_74 (by decide) ?_
                    refine js_sub (lv2 := [(0, .ref (js_ad y (187))), (1, .int (nI ((v * 10) + (jq p (b) - 48)))), (2, .int (nI (k + 1)))]) [0, 1, 2] rfl ?_
                    exact ih23 (k + 1) ((v * 10) + (jq p (b) - 48)) (b + 1) (js_st G1 (187) (2) (nI (b + 1))) (by omega) (by omega) (by omega) (jq_lt (by have := d34a; omega)) (by rw [hm, show 80 - k = (80 - (k + 1)) + 1 by omega]; exact if_pos ⟨by omega, d34, by omega⟩) ((js_fp.st (by decide)).P hP1) (by rw [js_st_s]; simp [upd]) (hN1.st (by decide)) (⟨hf.1.tr (js_fp.st (by decide)), by rw [js_st_s]; simp [upd]; exact hf.2.1, by rw [js_st_s]; simp [upd]; exact hf.2.2⟩) (by omega)
                  · skip
                    refine js_goto (pc := 56) (tgt := 77) F dX1_readNumber_56 (by decide) ?_
                    refine js_aload_n (pc := 77) 0 F rfl dX1_readNumber_77 ?_
                    refine js_iload_n (pc := 78) 1 F rfl dX1_readNumber_78 ?_
                    refine js_callv (pc := 79) F (c_X1_keepNumber _ hy (G := G1) (m := ns.length) (v := v) hN1.1 hn8) mf_X1_keepNumber gX1_readNumber_X1_keepNumber rfl (by decide) (by decide) (js_ct_P) rfl rfl rfl (Nat.le_of_ble_eq_true rfl) dX1_readNumber_79 ?_
                    rintro G9 hG9
                    refine js_iconst (pc := 82) (v := nI (1)) F (by decide) dX1_readNumber_82 ?_
                    refine js_iret (pc := 83) F hr (rfl) ?_ dX1_readNumber_83
                    refine Or.inr ⟨v, b, ?_, rfl, ?_, ?_, ?_, ?_, ?_⟩
                    · unfold jp_num; rw [if_pos d1, hm]; first | (rw [show 80 - k = 0 by omega]; rfl) | (rw [show 80 - k = (80 - (k + 1)) + 1 by omega]; exact congrArg some (if_neg (fun z => by first | (exact absurd z.1 (by omega)) | (exact d34 z.2.1) | (have := z.2.2; omega))))
                    · rw [← hG9, js_st_s]; simp only [upd]; rw [if_neg (by decide), js_st_n (by decide)]; exact hb
                    · rw [← hG9]; exact hN1.push
                    · rw [← hG9]; exact hf.1.tr (js_fp.tr js_fp.stn (js_fp.st (by decide)))
                    · rw [← hG9, js_st_s]; simp only [upd]; rw [if_neg (by decide), js_st_n (by decide)]; exact hf.2.1
                    · rw [← hG9, js_st_s]; simp only [upd]; rw [if_neg (by decide), js_st_n (by decide)]; exact hf.2.2
              · skip
                refine js_if_lt (pc := 37) (tgt := 77) F dX1_readNumber_37 (by decide) (fun _ => ?_) (fun h37 => absurd (by decide) h37)
                refine js_aload_n (pc := 77) 0 F rfl dX1_readNumber_77 ?_
                refine js_iload_n (pc := 78) 1 F rfl dX1_readNumber_78 ?_
                refine js_callv (pc := 79) F (c_X1_keepNumber _ hy (G := G1) (m := ns.length) (v := v) hN1.1 hn8) mf_X1_keepNumber gX1_readNumber_X1_keepNumber rfl (by decide) (by decide) (js_ct_P) rfl rfl rfl (Nat.le_of_ble_eq_true rfl) dX1_readNumber_79 ?_
                rintro G9 hG9
                refine js_iconst (pc := 82) (v := nI (1)) F (by decide) dX1_readNumber_82 ?_
                refine js_iret (pc := 83) F hr (rfl) ?_ dX1_readNumber_83
                refine Or.inr ⟨v, b, ?_, rfl, ?_, ?_, ?_, ?_, ?_⟩
                · unfold jp_num; rw [if_pos d1, hm]; first | (rw [show 80 - k = 0 by omega]; rfl) | (rw [show 80 - k = (80 - (k + 1)) + 1 by omega]; exact congrArg some (if_neg (fun z => by first | (exact absurd z.1 (by omega)) | (exact d34 z.2.1) | (have := z.2.2; omega))))
                · rw [← hG9, js_st_s]; simp only [upd]; rw [if_neg (by decide), js_st_n (by decide)]; exact hb
                · rw [← hG9]; exact hN1.push
                · rw [← hG9]; exact hf.1.tr (js_fp.tr js_fp.stn (js_fp.st (by decide)))
                · rw [← hG9, js_st_s]; simp only [upd]; rw [if_neg (by decide), js_st_n (by decide)]; exact hf.2.1
                · rw [← hG9, js_st_s]; simp only [upd]; rw [if_neg (by decide), js_st_n (by decide)]; exact hf.2.2
      exact L23 (_ + 1) 1 (jq p (a) - 48) (a + 1) (js_st G (187) (2) (nI (a + 1))) (by decide) (by decide) (by have := d1b; omega) (jq_lt (by omega)) (rfl) ((js_fp.st (by decide)).P hP) (by rw [js_st_s]; simp [upd]) (hN.st (by decide)) (⟨js_fp.st (by decide), by rw [js_st_s]; simp [upd], by rw [js_st_s]; simp [upd]⟩) (Nat.lt_succ_self _)
    · skip
      refine js_iconst (pc := 9) (v := nI (0)) F (by decide) dX1_readNumber_9 ?_
      refine js_iret (pc := 10) F hr (rfl) ?_ dX1_readNumber_10
      first | exact Or.inl ⟨if_neg d1, rfl, rfl⟩ | (exfalso; omega)
  · skip
    refine js_istore_n (pc := 4) (lv2 := [(0, .ref (js_ad y (187))), (1, .int (-1))]) F dX1_readNumber_4 (by decide) [1, 0] rfl ?_
    refine js_iload_n (pc := 5) 1 F rfl dX1_readNumber_5 ?_
    refine js_if_ge (pc := 6) (tgt := 11) F dX1_readNumber_6 (by decide) (fun h6 => absurd h6 (by decide)) (fun _ => ?_)
    refine js_iconst (pc := 9) (v := nI (0)) F (by decide) dX1_readNumber_9 ?_
    refine js_iret (pc := 10) F hr (rfl) ?_ dX1_readNumber_10
    first | exact Or.inl ⟨if_neg d1, rfl, rfl⟩ | (exfalso; omega)
theorem mf_X1_readThings : js_M yX1_readThings cX1_readThings 2 (some .boolean) wsX1_readThings 0 := ⟨⟨_, rfl⟩, by decide +kernel, by decide +kernel, by decide +kernel, by decide +kernel⟩
set_option maxHeartbeats 4000000 in
set_option maxRecDepth 100000 in
theorem c_X1_readThings (la : Launch) {y : js_L} (hy : js_Dy y) {G : js_G} {p : List Nat} (hP : jr_P G p) {a : Nat} (ha : G 187 2 = nI a) (ha2 : a ≤ 80) (hN : jr_N G []) : js_Ci la y yX1_readThings wsX1_readThings 4 76 [.ref (js_ad y (187))] G (fun r G' => jp_post (jp_things p 80 a []) r G G') := by
  have hpl := hP.2.1
  have hq := hP.q a
  refine js_ofi mf_X1_readThings (Nat.le_of_ble_eq_true rfl) hy (fun X F hr => ?_)
  replace F : js_F X y cX1_readThings 2 RX1 wsX1_readThings 4 76 := F
  show js_W X y 2 _ G 0 [(0, .ref (js_ad y (187)))] []
  refine js_iconst (pc := 0) (v := nI (0)) F (by decide) dX1_readThings_0 ?_
  refine js_istore_n (pc := 1) (lv2 := [(0, .ref (js_ad y (187))), (1, .int (nI (0)))]) F dX1_readThings_1 (by decide) [1, 0] rfl ?_
  have L2 : ∀ (fu2 : Nat) (k : Nat) (b : Nat) (ns : List Nat) (G1 : js_G) (hk : k ≤ 80) (hl : ns.length = k) (hb8 : b ≤ 80) (hm : jp_things p 80 a [] = jp_things p (80 - k) b ns) (hP1 : jr_P G1 p) (hb : G1 187 2 = nI b) (hN1 : jr_N G1 ns) (hf : js_fp G G1 ∧ G1 187 3 = G 187 3 ∧ G1 187 4 = G 187 4) (hfu2 : 80 - k < fu2), js_W X y 2 (js_Qi X y (fun r G' => jp_post (jp_things p 80 a []) r G G')) G1 2 [(0, .ref (js_ad y (187))), (1, .int (nI (k)))] [] := by
    intro fu2
    induction fu2 with
    | zero => intro k b ns G1 hk hl hb8 hm hP1 hb hN1 hf hfu2; exact absurd hfu2 (Nat.not_lt_zero _)
    | succ fu2 ih2 =>
      intro k b ns G1 hk hl hb8 hm hP1 hb hN1 hf hfu2
      refine js_iload_n (pc := 2) 1 F rfl dX1_readThings_2 ?_
      refine js_bipush (pc := 3) (v := nI (80)) F (by decide) dX1_readThings_3 ?_
      refine js_icmp_geN (pc := 5) (a := k) (b := 80) (tgt := 34) F (by omega) (by decide) dX1_readThings_5 (by decide) (fun h5 => ?_) (fun h5 => ?_)
      · skip
        refine js_iconst (pc := 34) (v := nI (0)) F (by decide) dX1_readThings_34 ?_
        refine js_iret (pc := 35) F hr (rfl) ?_ dX1_readThings_35
        rw [hm, show 80 - k = 0 by omega]
        exact ⟨rfl, hb, fun z => (by cases z), hf.1, hf.2⟩
      · skip
        refine js_aload_n (pc := 8) 0 F rfl dX1_readThings_8 ?_
        refine js_calli (pc := 9) F (c_X1_readNumber _ hy (G := G1) (p := p) (hP1) (a := b) (hb) (by omega) (ns := ns) (hN1) (by omega)) mf_X1_readNumber gX1_readThings_X1_readNumber rfl (by decide) (by decide) (js_ct_P) rfl rfl rfl (Nat.le_of_ble_eq_true rfl) dX1_readThings_9 ?_
        rintro _ G9 (⟨n9, rfl, rfl⟩ | ⟨v9, z9, n9, rfl, b9, N9, f9, s9, w9⟩)
        · skip
          refine js_if_neN (pc := 12) (a := 0) (tgt := 17) F (by decide) dX1_readThings_12 (by decide) (fun h12 => by exfalso; revert h12; decide) (fun _ => ?_)
          refine js_iconst (pc := 15) (v := nI (0)) F (by decide) dX1_readThings_15 ?_
          refine js_iret (pc := 16) F hr (rfl) ?_ dX1_readThings_16
          first | (exfalso; omega) | (rw [hm, show 80 - k = (80 - (k + 1)) + 1 by omega, jp_things_no n9]; exact ⟨rfl, hb, fun z => (by cases z), hf.1, hf.2⟩)
        · skip
          have P9 := f9.P (hP1)
          obtain ⟨k9a, k9b, k9c⟩ := jp_num_le n9
          refine js_if_neN (pc := 12) (a := 1) (tgt := 17) F (by decide) dX1_readThings_12 (by decide) (fun _ => ?_) (fun h12 => by exfalso; revert h12; decide)
          refine js_aload_n (pc := 17) 0 F rfl dX1_readThings_17 ?_
          refine js_bipush (pc := 18) (v := nI (44)) F (by decide) dX1_readThings_18 ?_
          refine js_calli (pc := 20) F (c_X1_accept _ hy (G := G9) (p := p) (P9) (a := z9) (b9) (by omega) (w := 44) (by decide)) mf_X1_accept gX1_readThings_X1_accept rfl (by decide) (by decide) (js_ct_P) rfl rfl rfl (Nat.le_of_ble_eq_true rfl) dX1_readThings_20 ?_
          rintro _ _ (⟨a20, rfl, rfl⟩ | ⟨a20, rfl, rfl⟩)
          · skip
            refine js_if_neN (pc := 23) (a := 1) (tgt := 28) F (by decide) dX1_readThings_23 (by decide) (fun _ => ?_) (fun h23 => by exfalso; revert h23; decide)
            refine js_iinc (pc := 28) (v := nI (k + 1)) (lv2 := [(0, .ref (js_ad y (187))), (1, .int (nI (k + 1)))]) F dX1_readThings_28 1 rfl (nI_add _ _) (by decide) [1, 0] rfl ?_
            refine js_goto (pc := 31) (tgt := 2) F dX1_readThings_31 (by decide) ?_
            exact ih2 (k + 1) (z9 + 1) (ns ++ [v9]) (js_st G9 (187) (2) (nI (z9 + 1))) (by omega) (by simp; omega) (by have := jq_lt (p := p) (a := z9) (by omega); omega) (by rw [hm, show 80 - k = (80 - (k + 1)) + 1 by omega, jp_things_go n9 a20]) ((js_fp.st (by decide)).P P9) (by rw [js_st_s]; simp [upd]) (N9.st (by decide)) (⟨hf.1.tr (f9.tr (js_fp.st (by decide))), by rw [js_st_s]; simp [upd]; exact s9.trans hf.2.1, by rw [js_st_s]; simp [upd]; exact w9.trans hf.2.2⟩) (by omega)
          · skip
            refine js_if_neN (pc := 23) (a := 0) (tgt := 28) F (by decide) dX1_readThings_23 (by decide) (fun h23 => by exfalso; revert h23; decide) (fun _ => ?_)
            refine js_iconst (pc := 26) (v := nI (1)) F (by decide) dX1_readThings_26 ?_
            refine js_iret (pc := 27) F hr (rfl) ?_ dX1_readThings_27
            first | (exfalso; omega) | (rw [hm, show 80 - k = (80 - (k + 1)) + 1 by omega, jp_things_end n9 a20]; exact ⟨rfl, b9, fun _ => N9, hf.1.tr f9, s9.trans hf.2.1, w9.trans hf.2.2⟩)
  exact L2 (_ + 1) 0 a ([]) G (by decide) (rfl) (ha2) (rfl) (hP) (ha) (hN) (⟨js_fp.rf, rfl, rfl⟩) (Nat.lt_succ_self _)
theorem in_X1_readOther_1 : ∀ w ∈ wsX10, w ∈ wsX1_readOther := by decide +kernel
theorem lk_X1_readOther_fieldLink_RX1_19_JoinedSketches_Pad_at_I : Cond.fieldLink RX1 19 "JoinedSketches$Pad" "at" "I" ∈ wsX1_readOther := by decide +kernel
theorem mf_X1_readOther : js_M yX1_readOther cX1_readOther 1 (some .boolean) wsX1_readOther 0 := ⟨⟨_, rfl⟩, by decide +kernel, by decide +kernel, by decide +kernel, by decide +kernel⟩
set_option maxHeartbeats 4000000 in
set_option maxRecDepth 100000 in
theorem c_X1_readOther (la : Launch) {y : js_L} (hy : js_Dy y) {G : js_G} {p : List Nat} (hP : jr_P G p) {a : Nat} (ha : G 187 2 = nI a) (ha2 : a ≤ 80) (hN : jr_N G []) : js_Ci la y yX1_readOther wsX1_readOther 4 74 [.ref (js_ad y (187))] G (fun r G' => jp_post (jp_oth p a) r G G') := by
  have hpl := hP.2.1
  have hq := hP.q a
  refine js_ofi mf_X1_readOther (Nat.le_of_ble_eq_true rfl) hy (fun X F hr => ?_)
  replace F : js_F X y cX1_readOther 1 RX1 wsX1_readOther 4 74 := F
  show js_W X y 1 _ G 0 [(0, .ref (js_ad y (187)))] []
  refine js_aload_n (pc := 0) 0 F rfl dX1_readOther_0 ?_
  refine js_calli (pc := 1) F (c_X1_standsAtSketch _ hy (G := G) (p := p) (hP) (a := a) (ha) (by omega)) mf_X1_standsAtSketch gX1_readOther_X1_standsAtSketch rfl (by decide) (by decide) (js_ct_P) rfl rfl rfl (Nat.le_of_ble_eq_true rfl) dX1_readOther_1 ?_
  rintro _ _ ⟨rfl, rfl⟩
  refine js_if_neB (pc := 4) (tgt := 9) F dX1_readOther_4 (by decide) (fun h4 => ?_) (fun h4 => ?_)
  · skip
    refine js_aload_n (pc := 9) 0 F rfl dX1_readOther_9 ?_
    refine js_aload_n (pc := 10) 0 F rfl dX1_readOther_10 ?_
    refine js_calli (pc := 11) F (c_X1_digit _ hy (G := G) (p := p) (hP) (a := a) (ha) (by omega)) mf_X1_digit gX1_readOther_X1_digit rfl (by decide) (by decide) (js_ct_P) rfl rfl rfl (Nat.le_of_ble_eq_true rfl) dX1_readOther_11 ?_
    rintro _ _ ⟨⟨_, rfl⟩ | ⟨q11, rfl⟩, rfl⟩
    rotate_left
    · exact absurd ⟨h4.1, by have := h4.2; omega⟩ q11
    refine js_callv (pc := 14) F (c_X1_keepNumber _ hy (G := G) (m := 0) (v := jq p (a) - 48) (hN.1) (by omega)) mf_X1_keepNumber gX1_readOther_X1_keepNumber rfl (by decide) (by decide) (js_ct_P) rfl rfl rfl (Nat.le_of_ble_eq_true rfl) dX1_readOther_14 ?_
    rintro _ rfl
    refine js_aload_n (pc := 17) 0 F rfl dX1_readOther_17 ?_
    refine js_dup (pc := 18) rfl F dX1_readOther_18 ?_
    refine jg_P_at (pc := 19) (v := nI (a)) F in_X1_readOther_1 (lk_X1_readOther_fieldLink_RX1_19_JoinedSketches_Pad_at_I) (by rw [js_st_s, upd, if_neg (by decide)]; all_goals exact (by rw [js_st_n (by decide)]; all_goals exact (ha))) dX1_readOther_19 ?_
    refine js_iconst (pc := 22) (v := nI (1)) F (by decide) dX1_readOther_22 ?_
    refine js_iaddN (pc := 23) (a := a) (b := 1) F dX1_readOther_23 ?_
    refine jp_P_at (pc := 24) (v := nI (a + 1)) F in_X1_readOther_1 (lk_X1_readOther_fieldLink_RX1_19_JoinedSketches_Pad_at_I) dX1_readOther_24 ?_
    refine js_iconst (pc := 27) (v := nI (1)) F (by decide) dX1_readOther_27 ?_
    refine js_iret (pc := 28) F hr (rfl) ?_ dX1_readOther_28
    rw [show jp_oth p a = (true, a + 1, [jq p a - 48]) from if_pos h4]
    exact ⟨rfl, by simp [js_st_s, js_st_n, upd], fun _ => (hN.push).st (by decide), js_fp.stn.tr ((js_fp.st (by decide)).tr (js_fp.st (by decide))), by simp [js_st_s, js_st_n, upd], by simp [js_st_s, js_st_n, upd]⟩
  · skip
    refine js_iconst (pc := 7) (v := nI (0)) F (by decide) dX1_readOther_7 ?_
    refine js_iret (pc := 8) F hr (rfl) ?_ dX1_readOther_8
    rw [show jp_oth p a = (false, a, []) from if_neg h4]
    exact ⟨rfl, ha, fun z => (by cases z), js_fp.rf, rfl, rfl⟩
theorem in_X1_readOrder_1 : ∀ w ∈ wsX10, w ∈ wsX1_readOrder := by decide +kernel
theorem lk_X1_readOrder_fieldLink_RX1_19_JoinedSketches_Pad_at_I : Cond.fieldLink RX1 19 "JoinedSketches$Pad" "at" "I" ∈ wsX1_readOrder := by decide +kernel
theorem lk_X1_readOrder_fieldLink_RX1_22_JoinedSketches_Pad_sketch_I : Cond.fieldLink RX1 22 "JoinedSketches$Pad" "sketch" "I" ∈ wsX1_readOrder := by decide +kernel
theorem lk_X1_readOrder_fieldLink_RX1_25_JoinedSketches_Pad_verb_I : Cond.fieldLink RX1 25 "JoinedSketches$Pad" "verb" "I" ∈ wsX1_readOrder := by decide +kernel
theorem lk_X1_readOrder_fieldLink_RX1_32_JoinedSketches_Pad_many_I : Cond.fieldLink RX1 32 "JoinedSketches$Pad" "many" "I" ∈ wsX1_readOrder := by decide +kernel
theorem mf_X1_readOrder : js_M yX1_readOrder cX1_readOrder 1 (some .boolean) wsX1_readOrder 0 := ⟨⟨_, rfl⟩, by decide +kernel, by decide +kernel, by decide +kernel, by decide +kernel⟩
set_option maxHeartbeats 4000000 in
set_option maxRecDepth 100000 in
theorem c_X1_readOrder (la : Launch) {y : js_L} (hy : js_Dy y) {G : js_G} {p : List Nat} (hP : jr_P G p) {a : Nat} (ha : G 187 2 = nI a) (ha2 : a ≤ 80) : js_Ci la y yX1_readOrder wsX1_readOrder 5 97 [.ref (js_ad y (187))] G (fun r G' => jp_po p a r G G') := by
  have hpl := hP.2.1
  have hq := hP.q a
  have hq1 := hP.q (a + 1)
  refine js_ofi mf_X1_readOrder (Nat.le_of_ble_eq_true rfl) hy (fun X F hr => ?_)
  replace F : js_F X y cX1_readOrder 1 RX1 wsX1_readOrder 5 97 := F
  show js_W X y 1 _ G 0 [(0, .ref (js_ad y (187)))] []
  refine js_aload_n (pc := 0) 0 F rfl dX1_readOrder_0 ?_
  refine js_iconst (pc := 1) (v := nI (0)) F (by decide) dX1_readOrder_1 ?_
  refine jp_P_many (pc := 2) (v := nI (0)) F in_X1_readOrder_1 (lk_X1_readOrder_fieldLink_RX1_32_JoinedSketches_Pad_many_I) dX1_readOrder_2 ?_
  refine js_aload_n (pc := 5) 0 F rfl dX1_readOrder_5 ?_
  refine js_calli (pc := 6) F (c_X1_standsAtSketch _ hy (G := (js_st G (187) (6) (nI (0)))) (p := p) (((js_fp.st (by decide))).P (hP)) (a := a) (by rw [js_st_s, upd, if_neg (by decide)]; all_goals exact (ha)) (by omega)) mf_X1_standsAtSketch gX1_readOrder_X1_standsAtSketch rfl (by decide) (by decide) (js_ct_P) rfl rfl rfl (Nat.le_of_ble_eq_true rfl) dX1_readOrder_6 ?_
  rintro _ _ ⟨rfl, rfl⟩
  refine js_if_neB (pc := 9) (tgt := 14) F dX1_readOrder_9 (by decide) (fun h9 => ?_) (fun h9 => ?_)
  · skip
    have g1 : a < p.length := jq_lt (by have := h9.1; omega)
    refine js_aload_n (pc := 14) 0 F rfl dX1_readOrder_14 ?_
    refine js_aload_n (pc := 15) 0 F rfl dX1_readOrder_15 ?_
    refine js_calli (pc := 16) F (c_X1_digit _ hy (G := (js_st G (187) (6) (nI (0)))) (p := p) (((js_fp.st (by decide))).P (hP)) (a := a) (by rw [js_st_s, upd, if_neg (by decide)]; all_goals exact (ha)) (by omega)) mf_X1_digit gX1_readOrder_X1_digit rfl (by decide) (by decide) (js_ct_P) rfl rfl rfl (Nat.le_of_ble_eq_true rfl) dX1_readOrder_16 ?_
    rintro _ _ ⟨⟨_, rfl⟩ | ⟨q16, rfl⟩, rfl⟩
    rotate_left
    · exact absurd ⟨h9.1, by have := h9.2; omega⟩ q16
    refine jp_P_sketch (pc := 19) (v := nI (jq p (a) - 48)) F in_X1_readOrder_1 (lk_X1_readOrder_fieldLink_RX1_22_JoinedSketches_Pad_sketch_I) dX1_readOrder_19 ?_
    refine js_aload_n (pc := 22) 0 F rfl dX1_readOrder_22 ?_
    refine js_dup (pc := 23) rfl F dX1_readOrder_23 ?_
    refine jg_P_at (pc := 24) (v := nI (a)) F in_X1_readOrder_1 (lk_X1_readOrder_fieldLink_RX1_19_JoinedSketches_Pad_at_I) (by rw [js_st_s, upd, if_neg (by decide)]; all_goals exact (by rw [js_st_s, upd, if_neg (by decide)]; all_goals exact (ha))) dX1_readOrder_24 ?_
    refine js_iconst (pc := 27) (v := nI (1)) F (by decide) dX1_readOrder_27 ?_
    refine js_iaddN (pc := 28) (a := a) (b := 1) F dX1_readOrder_28 ?_
    refine jp_P_at (pc := 29) (v := nI (a + 1)) F in_X1_readOrder_1 (lk_X1_readOrder_fieldLink_RX1_19_JoinedSketches_Pad_at_I) dX1_readOrder_29 ?_
    refine js_aload_n (pc := 32) 0 F rfl dX1_readOrder_32 ?_
    refine js_aload_n (pc := 33) 0 F rfl dX1_readOrder_33 ?_
    refine js_calli (pc := 34) F (c_X1_sign _ hy (G := (js_st (js_st (js_st G (187) (6) (nI (0))) (187) (3) (nI (jq p (a) - 48))) (187) (2) (nI (a + 1)))) (p := p) ((js_fp.tr (js_fp.tr ((js_fp.st (by decide))) (js_fp.st (by decide))) (js_fp.st (by decide))).P (hP)) (a := a + 1) (by rw [js_st_s]; simp [upd]) (by omega)) mf_X1_sign gX1_readOrder_X1_sign rfl (by decide) (by decide) (js_ct_P) rfl rfl rfl (Nat.le_of_ble_eq_true rfl) dX1_readOrder_34 ?_
    rintro _ _ ⟨rfl, rfl⟩
    refine jp_P_verb (pc := 37) (v := nI (jq p (a + 1))) F in_X1_readOrder_1 (lk_X1_readOrder_fieldLink_RX1_25_JoinedSketches_Pad_verb_I) dX1_readOrder_37 ?_
    refine js_aload_n (pc := 40) 0 F rfl dX1_readOrder_40 ?_
    refine jg_P_verb (pc := 41) (v := nI (jq p (a + 1))) F in_X1_readOrder_1 (lk_X1_readOrder_fieldLink_RX1_25_JoinedSketches_Pad_verb_I) (by rw [js_st_s]; simp [upd]) dX1_readOrder_41 ?_
    rcases (show jq p (a + 1) = 58 ∨ jq p (a + 1) = 38 ∨ jq p (a + 1) = 42 ∨ jq p (a + 1) = 33 ∨ jq p (a + 1) = 47 ∨ (jq p (a + 1) ≠ 58 ∧ jq p (a + 1) ≠ 38 ∧ jq p (a + 1) ≠ 42 ∧ jq p (a + 1) ≠ 33 ∧ jq p (a + 1) ≠ 47) by omega) with v44 | v44 | v44 | v44 | v44 | v44
    · skip
      refine js_lookup (pc := 44) (off := 52) (tgt := 96) F dX1_readOrder_44 (by decide) (by rw [v44]; decide) (by decide) ?_
      have g2 : a + 1 < p.length := jq_lt (by omega)
      refine js_aload_n (pc := 96) 0 F rfl dX1_readOrder_96 ?_
      refine js_dup (pc := 97) rfl F dX1_readOrder_97 ?_
      refine jg_P_at (pc := 98) (v := nI (a + 1)) F in_X1_readOrder_1 (lk_X1_readOrder_fieldLink_RX1_19_JoinedSketches_Pad_at_I) (by rw [js_st_s, upd, if_neg (by decide)]; all_goals exact (by rw [js_st_s]; simp [upd])) dX1_readOrder_98 ?_
      refine js_iconst (pc := 101) (v := nI (1)) F (by decide) dX1_readOrder_101 ?_
      refine js_iaddN (pc := 102) (a := a + 1) (b := 1) F dX1_readOrder_102 ?_
      refine jp_P_at (pc := 103) (v := nI ((a + 1) + 1)) F in_X1_readOrder_1 (lk_X1_readOrder_fieldLink_RX1_19_JoinedSketches_Pad_at_I) dX1_readOrder_103 ?_
      refine js_aload_n (pc := 106) 0 F rfl dX1_readOrder_106 ?_
      refine js_calli (pc := 107) F (c_X1_readThings _ hy (G := (js_st (js_st (js_st (js_st (js_st G (187) (6) (nI (0))) (187) (3) (nI (jq p (a) - 48))) (187) (2) (nI (a + 1))) (187) (4) (nI (jq p (a + 1)))) (187) (2) (nI ((a + 1) + 1)))) (p := p) ((js_fp.tr (js_fp.tr (js_fp.tr (js_fp.tr ((js_fp.st (by decide))) (js_fp.st (by decide))) (js_fp.st (by decide))) (js_fp.st (by decide))) (js_fp.st (by decide))).P (hP)) (a := (a + 1) + 1) (by rw [js_st_s]; simp [upd]) (by omega) (jr_N.nil (by simp [js_st_s, js_st_n, upd]))) mf_X1_readThings gX1_readOrder_X1_readThings rfl (by decide) (by decide) (js_ct_P) rfl rfl rfl (Nat.le_of_ble_eq_true rfl) dX1_readOrder_107 ?_
      rintro _ G107 ⟨rfl, b107, n107, f107, s107, w107⟩
      have P107 := f107.P ((js_fp.tr (js_fp.tr (js_fp.tr (js_fp.tr ((js_fp.st (by decide))) (js_fp.st (by decide))) (js_fp.st (by decide))) (js_fp.st (by decide))) (js_fp.st (by decide))).P (hP))
      refine js_iret (pc := 110) F hr (jn_narB) ?_ dX1_readOrder_110
      exact jp_po_of (jp_ord_t h9 v44) ⟨rfl, b107, fun z => ⟨n107 z, s107.trans (by simp [js_st_s, js_st_n, upd]), w107.trans (by simp [js_st_s, js_st_n, upd])⟩, js_fp.tr ((js_fp.st (by decide)).tr ((js_fp.st (by decide)).tr ((js_fp.st (by decide)).tr ((js_fp.st (by decide)).tr (js_fp.st (by decide)))))) f107⟩
    · skip
      refine js_lookup (pc := 44) (off := 67) (tgt := 111) F dX1_readOrder_44 (by decide) (by rw [v44]; decide) (by decide) ?_
      have g2 : a + 1 < p.length := jq_lt (by omega)
      refine js_aload_n (pc := 111) 0 F rfl dX1_readOrder_111 ?_
      refine js_dup (pc := 112) rfl F dX1_readOrder_112 ?_
      refine jg_P_at (pc := 113) (v := nI (a + 1)) F in_X1_readOrder_1 (lk_X1_readOrder_fieldLink_RX1_19_JoinedSketches_Pad_at_I) (by rw [js_st_s, upd, if_neg (by decide)]; all_goals exact (by rw [js_st_s]; simp [upd])) dX1_readOrder_113 ?_
      refine js_iconst (pc := 116) (v := nI (1)) F (by decide) dX1_readOrder_116 ?_
      refine js_iaddN (pc := 117) (a := a + 1) (b := 1) F dX1_readOrder_117 ?_
      refine jp_P_at (pc := 118) (v := nI ((a + 1) + 1)) F in_X1_readOrder_1 (lk_X1_readOrder_fieldLink_RX1_19_JoinedSketches_Pad_at_I) dX1_readOrder_118 ?_
      refine js_aload_n (pc := 121) 0 F rfl dX1_readOrder_121 ?_
      refine js_calli (pc := 122) F (c_X1_readOther _ hy (G := (js_st (js_st (js_st (js_st (js_st G (187) (6) (nI (0))) (187) (3) (nI (jq p (a) - 48))) (187) (2) (nI (a + 1))) (187) (4) (nI (jq p (a + 1)))) (187) (2) (nI ((a + 1) + 1)))) (p := p) ((js_fp.tr (js_fp.tr (js_fp.tr (js_fp.tr ((js_fp.st (by decide))) (js_fp.st (by decide))) (js_fp.st (by decide))) (js_fp.st (by decide))) (js_fp.st (by decide))).P (hP)) (a := (a + 1) + 1) (by rw [js_st_s]; simp [upd]) (by omega) (jr_N.nil (by simp [js_st_s, js_st_n, upd]))) mf_X1_readOther gX1_readOrder_X1_readOther rfl (by decide) (by decide) (js_ct_P) rfl rfl rfl (Nat.le_of_ble_eq_true rfl) dX1_readOrder_122 ?_
      rintro _ G122 ⟨rfl, b122, n122, f122, s122, w122⟩
      have P122 := f122.P ((js_fp.tr (js_fp.tr (js_fp.tr (js_fp.tr ((js_fp.st (by decide))) (js_fp.st (by decide))) (js_fp.st (by decide))) (js_fp.st (by decide))) (js_fp.st (by decide))).P (hP))
      refine js_iret (pc := 125) F hr (jn_narB) ?_ dX1_readOrder_125
      exact jp_po_of (jp_ord_o h9 v44) ⟨rfl, b122, fun z => ⟨n122 z, s122.trans (by simp [js_st_s, js_st_n, upd]), w122.trans (by simp [js_st_s, js_st_n, upd])⟩, js_fp.tr ((js_fp.st (by decide)).tr ((js_fp.st (by decide)).tr ((js_fp.st (by decide)).tr ((js_fp.st (by decide)).tr (js_fp.st (by decide)))))) f122⟩
    · skip
      refine js_lookup (pc := 44) (off := 82) (tgt := 126) F dX1_readOrder_44 (by decide) (by rw [v44]; decide) (by decide) ?_
      have g2 : a + 1 < p.length := jq_lt (by omega)
      refine js_aload_n (pc := 126) 0 F rfl dX1_readOrder_126 ?_
      refine js_dup (pc := 127) rfl F dX1_readOrder_127 ?_
      refine jg_P_at (pc := 128) (v := nI (a + 1)) F in_X1_readOrder_1 (lk_X1_readOrder_fieldLink_RX1_19_JoinedSketches_Pad_at_I) (by rw [js_st_s, upd, if_neg (by decide)]; all_goals exact (by rw [js_st_s]; simp [upd])) dX1_readOrder_128 ?_
      refine js_iconst (pc := 131) (v := nI (1)) F (by decide) dX1_readOrder_131 ?_
      refine js_iaddN (pc := 132) (a := a + 1) (b := 1) F dX1_readOrder_132 ?_
      refine jp_P_at (pc := 133) (v := nI ((a + 1) + 1)) F in_X1_readOrder_1 (lk_X1_readOrder_fieldLink_RX1_19_JoinedSketches_Pad_at_I) dX1_readOrder_133 ?_
      refine js_aload_n (pc := 136) 0 F rfl dX1_readOrder_136 ?_
      refine js_calli (pc := 137) F (c_X1_readNumber _ hy (G := (js_st (js_st (js_st (js_st (js_st G (187) (6) (nI (0))) (187) (3) (nI (jq p (a) - 48))) (187) (2) (nI (a + 1))) (187) (4) (nI (jq p (a + 1)))) (187) (2) (nI ((a + 1) + 1)))) (p := p) ((js_fp.tr (js_fp.tr (js_fp.tr (js_fp.tr ((js_fp.st (by decide))) (js_fp.st (by decide))) (js_fp.st (by decide))) (js_fp.st (by decide))) (js_fp.st (by decide))).P (hP)) (a := (a + 1) + 1) (by rw [js_st_s]; simp [upd]) (by omega) (ns := []) (jr_N.nil (by simp [js_st_s, js_st_n, upd])) (by decide)) mf_X1_readNumber gX1_readOrder_X1_readNumber rfl (by decide) (by decide) (js_ct_P) rfl rfl rfl (Nat.le_of_ble_eq_true rfl) dX1_readOrder_137 ?_
      rintro _ G137 (⟨n137, rfl, rfl⟩ | ⟨v137, z137, n137, rfl, b137, N137, f137, s137, w137⟩)
      · skip
        refine js_if_eqN (pc := 140) (a := 0) (tgt := 163) F (by decide) dX1_readOrder_140 (by decide) (fun _ => ?_) (fun h140 => by exfalso; revert h140; decide)
        refine js_iconst (pc := 163) (v := nI (0)) F (by decide) dX1_readOrder_163 ?_
        refine js_iret (pc := 164) F hr (rfl) ?_ dX1_readOrder_164
        first
          | exact jp_po_of (jp_ord_r0 h9 v44 n137) ⟨rfl, by simp [js_st_s, js_st_n, upd], fun z => (by cases z), (js_fp.st (by decide)).tr ((js_fp.st (by decide)).tr ((js_fp.st (by decide)).tr ((js_fp.st (by decide)).tr (js_fp.st (by decide)))))⟩
          | exact jp_po_of (jp_ord_r1 h9 v44 n137 a146) ⟨rfl, b137, fun z => (by cases z), js_fp.tr ((js_fp.st (by decide)).tr ((js_fp.st (by decide)).tr ((js_fp.st (by decide)).tr ((js_fp.st (by decide)).tr (js_fp.st (by decide)))))) f137⟩
          | exact jp_po_of (jp_ord_r2 h9 v44 n137 a146 n153) ⟨rfl, by simp [js_st_s, js_st_n, upd], fun z => (by cases z), js_fp.tr ((js_fp.st (by decide)).tr ((js_fp.st (by decide)).tr ((js_fp.st (by decide)).tr ((js_fp.st (by decide)).tr (js_fp.st (by decide)))))) (f137.tr (js_fp.st (by decide)))⟩
          | exact jp_po_of (jp_ord_r3 h9 v44 n137 a146 n153) ⟨rfl, b153, fun _ => ⟨N153, s153.trans ((by simp [js_st_s, js_st_n, upd] : js_st G137 187 2 _ 187 3 = G137 187 3).trans (s137.trans (by simp [js_st_s, js_st_n, upd]))), w153.trans ((by simp [js_st_s, js_st_n, upd] : js_st G137 187 2 _ 187 4 = G137 187 4).trans (w137.trans (by simp [js_st_s, js_st_n, upd])))⟩, js_fp.tr ((js_fp.st (by decide)).tr ((js_fp.st (by decide)).tr ((js_fp.st (by decide)).tr ((js_fp.st (by decide)).tr (js_fp.st (by decide)))))) (f137.tr ((js_fp.st (by decide)).tr f153))⟩
      · skip
        have P137 := f137.P ((js_fp.tr (js_fp.tr (js_fp.tr (js_fp.tr ((js_fp.st (by decide))) (js_fp.st (by decide))) (js_fp.st (by decide))) (js_fp.st (by decide))) (js_fp.st (by decide))).P (hP))
        obtain ⟨k137a, k137b, k137c⟩ := jp_num_le n137
        refine js_if_eqN (pc := 140) (a := 1) (tgt := 163) F (by decide) dX1_readOrder_140 (by decide) (fun h140 => by exfalso; revert h140; decide) (fun _ => ?_)
        refine js_aload_n (pc := 143) 0 F rfl dX1_readOrder_143 ?_
        refine js_bipush (pc := 144) (v := nI (43)) F (by decide) dX1_readOrder_144 ?_
        refine js_calli (pc := 146) F (c_X1_accept _ hy (G := G137) (p := p) (P137) (a := z137) (b137) (by omega) (w := 43) (by decide)) mf_X1_accept gX1_readOrder_X1_accept rfl (by decide) (by decide) (js_ct_P) rfl rfl rfl (Nat.le_of_ble_eq_true rfl) dX1_readOrder_146 ?_
        rintro _ _ (⟨a146, rfl, rfl⟩ | ⟨a146, rfl, rfl⟩)
        · skip
          refine js_if_eqN (pc := 149) (a := 1) (tgt := 163) F (by decide) dX1_readOrder_149 (by decide) (fun h149 => by exfalso; revert h149; decide) (fun _ => ?_)
          have g3 := jq_lt (p := p) (a := z137) (by omega)
          refine js_aload_n (pc := 152) 0 F rfl dX1_readOrder_152 ?_
          refine js_calli (pc := 153) F (c_X1_readNumber _ hy (G := (js_st G137 (187) (2) (nI (z137 + 1)))) (p := p) (((js_fp.st (by decide))).P (P137)) (a := z137 + 1) (by rw [js_st_s]; simp [upd]) (by omega) (ns := [v137]) (N137.st (by decide)) (by simp)) mf_X1_readNumber gX1_readOrder_X1_readNumber rfl (by decide) (by decide) (js_ct_P) rfl rfl rfl (Nat.le_of_ble_eq_true rfl) dX1_readOrder_153 ?_
          rintro _ G153 (⟨n153, rfl, rfl⟩ | ⟨v153, z153, n153, rfl, b153, N153, f153, s153, w153⟩)
          · skip
            refine js_if_eqN (pc := 156) (a := 0) (tgt := 163) F (by decide) dX1_readOrder_156 (by decide) (fun _ => ?_) (fun h156 => by exfalso; revert h156; decide)
            refine js_iconst (pc := 163) (v := nI (0)) F (by decide) dX1_readOrder_163 ?_
            refine js_iret (pc := 164) F hr (rfl) ?_ dX1_readOrder_164
            first
              | exact jp_po_of (jp_ord_r0 h9 v44 n137) ⟨rfl, by simp [js_st_s, js_st_n, upd], fun z => (by cases z), (js_fp.st (by decide)).tr ((js_fp.st (by decide)).tr ((js_fp.st (by decide)).tr ((js_fp.st (by decide)).tr (js_fp.st (by decide)))))⟩
              | exact jp_po_of (jp_ord_r1 h9 v44 n137 a146) ⟨rfl, b137, fun z => (by cases z), js_fp.tr ((js_fp.st (by decide)).tr ((js_fp.st (by decide)).tr ((js_fp.st (by decide)).tr ((js_fp.st (by decide)).tr (js_fp.st (by decide)))))) f137⟩
              | exact jp_po_of (jp_ord_r2 h9 v44 n137 a146 n153) ⟨rfl, by simp [js_st_s, js_st_n, upd], fun z => (by cases z), js_fp.tr ((js_fp.st (by decide)).tr ((js_fp.st (by decide)).tr ((js_fp.st (by decide)).tr ((js_fp.st (by decide)).tr (js_fp.st (by decide)))))) (f137.tr (js_fp.st (by decide)))⟩
              | exact jp_po_of (jp_ord_r3 h9 v44 n137 a146 n153) ⟨rfl, b153, fun _ => ⟨N153, s153.trans ((by simp [js_st_s, js_st_n, upd] : js_st G137 187 2 _ 187 3 = G137 187 3).trans (s137.trans (by simp [js_st_s, js_st_n, upd]))), w153.trans ((by simp [js_st_s, js_st_n, upd] : js_st G137 187 2 _ 187 4 = G137 187 4).trans (w137.trans (by simp [js_st_s, js_st_n, upd])))⟩, js_fp.tr ((js_fp.st (by decide)).tr ((js_fp.st (by decide)).tr ((js_fp.st (by decide)).tr ((js_fp.st (by decide)).tr (js_fp.st (by decide)))))) (f137.tr ((js_fp.st (by decide)).tr f153))⟩
          · skip
            have P153 := f153.P (((js_fp.st (by decide))).P (P137))
            obtain ⟨k153a, k153b, k153c⟩ := jp_num_le n153
            refine js_if_eqN (pc := 156) (a := 1) (tgt := 163) F (by decide) dX1_readOrder_156 (by decide) (fun h156 => by exfalso; revert h156; decide) (fun _ => ?_)
            refine js_iconst (pc := 159) (v := nI (1)) F (by decide) dX1_readOrder_159 ?_
            refine js_goto (pc := 160) (tgt := 164) F dX1_readOrder_160 (by decide) ?_
            refine js_iret (pc := 164) F hr (rfl) ?_ dX1_readOrder_164
            first
              | exact jp_po_of (jp_ord_r0 h9 v44 n137) ⟨rfl, by simp [js_st_s, js_st_n, upd], fun z => (by cases z), (js_fp.st (by decide)).tr ((js_fp.st (by decide)).tr ((js_fp.st (by decide)).tr ((js_fp.st (by decide)).tr (js_fp.st (by decide)))))⟩
              | exact jp_po_of (jp_ord_r1 h9 v44 n137 a146) ⟨rfl, b137, fun z => (by cases z), js_fp.tr ((js_fp.st (by decide)).tr ((js_fp.st (by decide)).tr ((js_fp.st (by decide)).tr ((js_fp.st (by decide)).tr (js_fp.st (by decide)))))) f137⟩
              | exact jp_po_of (jp_ord_r2 h9 v44 n137 a146 n153) ⟨rfl, by simp [js_st_s, js_st_n, upd], fun z => (by cases z), js_fp.tr ((js_fp.st (by decide)).tr ((js_fp.st (by decide)).tr ((js_fp.st (by decide)).tr ((js_fp.st (by decide)).tr (js_fp.st (by decide)))))) (f137.tr (js_fp.st (by decide)))⟩
              | exact jp_po_of (jp_ord_r3 h9 v44 n137 a146 n153) ⟨rfl, b153, fun _ => ⟨N153, s153.trans ((by simp [js_st_s, js_st_n, upd] : js_st G137 187 2 _ 187 3 = G137 187 3).trans (s137.trans (by simp [js_st_s, js_st_n, upd]))), w153.trans ((by simp [js_st_s, js_st_n, upd] : js_st G137 187 2 _ 187 4 = G137 187 4).trans (w137.trans (by simp [js_st_s, js_st_n, upd])))⟩, js_fp.tr ((js_fp.st (by decide)).tr ((js_fp.st (by decide)).tr ((js_fp.st (by decide)).tr ((js_fp.st (by decide)).tr (js_fp.st (by decide)))))) (f137.tr ((js_fp.st (by decide)).tr f153))⟩
        · skip
          refine js_if_eqN (pc := 149) (a := 0) (tgt := 163) F (by decide) dX1_readOrder_149 (by decide) (fun _ => ?_) (fun h149 => by exfalso; revert h149; decide)
          refine js_iconst (pc := 163) (v := nI (0)) F (by decide) dX1_readOrder_163 ?_
          refine js_iret (pc := 164) F hr (rfl) ?_ dX1_readOrder_164
          first
            | exact jp_po_of (jp_ord_r0 h9 v44 n137) ⟨rfl, by simp [js_st_s, js_st_n, upd], fun z => (by cases z), (js_fp.st (by decide)).tr ((js_fp.st (by decide)).tr ((js_fp.st (by decide)).tr ((js_fp.st (by decide)).tr (js_fp.st (by decide)))))⟩
            | exact jp_po_of (jp_ord_r1 h9 v44 n137 a146) ⟨rfl, b137, fun z => (by cases z), js_fp.tr ((js_fp.st (by decide)).tr ((js_fp.st (by decide)).tr ((js_fp.st (by decide)).tr ((js_fp.st (by decide)).tr (js_fp.st (by decide)))))) f137⟩
            | exact jp_po_of (jp_ord_r2 h9 v44 n137 a146 n153) ⟨rfl, by simp [js_st_s, js_st_n, upd], fun z => (by cases z), js_fp.tr ((js_fp.st (by decide)).tr ((js_fp.st (by decide)).tr ((js_fp.st (by decide)).tr ((js_fp.st (by decide)).tr (js_fp.st (by decide)))))) (f137.tr (js_fp.st (by decide)))⟩
            | exact jp_po_of (jp_ord_r3 h9 v44 n137 a146 n153) ⟨rfl, b153, fun _ => ⟨N153, s153.trans ((by simp [js_st_s, js_st_n, upd] : js_st G137 187 2 _ 187 3 = G137 187 3).trans (s137.trans (by simp [js_st_s, js_st_n, upd]))), w153.trans ((by simp [js_st_s, js_st_n, upd] : js_st G137 187 2 _ 187 4 = G137 187 4).trans (w137.trans (by simp [js_st_s, js_st_n, upd])))⟩, js_fp.tr ((js_fp.st (by decide)).tr ((js_fp.st (by decide)).tr ((js_fp.st (by decide)).tr ((js_fp.st (by decide)).tr (js_fp.st (by decide)))))) (f137.tr ((js_fp.st (by decide)).tr f153))⟩
    · skip
      refine js_lookup (pc := 44) (off := 121) (tgt := 165) F dX1_readOrder_44 (by decide) (by rw [v44]; decide) (by decide) ?_
      have g2 : a + 1 < p.length := jq_lt (by omega)
      refine js_aload_n (pc := 165) 0 F rfl dX1_readOrder_165 ?_
      refine js_dup (pc := 166) rfl F dX1_readOrder_166 ?_
      refine jg_P_at (pc := 167) (v := nI (a + 1)) F in_X1_readOrder_1 (lk_X1_readOrder_fieldLink_RX1_19_JoinedSketches_Pad_at_I) (by rw [js_st_s, upd, if_neg (by decide)]; all_goals exact (by rw [js_st_s]; simp [upd])) dX1_readOrder_167 ?_
      refine js_iconst (pc := 170) (v := nI (1)) F (by decide) dX1_readOrder_170 ?_
      refine js_iaddN (pc := 171) (a := a + 1) (b := 1) F dX1_readOrder_171 ?_
      refine jp_P_at (pc := 172) (v := nI ((a + 1) + 1)) F in_X1_readOrder_1 (lk_X1_readOrder_fieldLink_RX1_19_JoinedSketches_Pad_at_I) dX1_readOrder_172 ?_
      refine js_iconst (pc := 175) (v := nI (1)) F (by decide) dX1_readOrder_175 ?_
      refine js_iret (pc := 176) F hr (rfl) ?_ dX1_readOrder_176
      first | exact jp_po_of (jp_ord_e h9 v44) ⟨rfl, by simp [js_st_s, js_st_n, upd], fun _ => ⟨jr_N.nil (by simp [js_st_s, js_st_n, upd]), by simp [js_st_s, js_st_n, upd], by simp [js_st_s, js_st_n, upd]⟩, (js_fp.st (by decide)).tr ((js_fp.st (by decide)).tr ((js_fp.st (by decide)).tr ((js_fp.st (by decide)).tr (js_fp.st (by decide)))))⟩ | exact jp_po_of (jp_ord_f h9 v44) ⟨rfl, by simp [js_st_s, js_st_n, upd], fun _ => ⟨jr_N.nil (by simp [js_st_s, js_st_n, upd]), by simp [js_st_s, js_st_n, upd], by simp [js_st_s, js_st_n, upd]⟩, (js_fp.st (by decide)).tr ((js_fp.st (by decide)).tr ((js_fp.st (by decide)).tr ((js_fp.st (by decide)).tr (js_fp.st (by decide)))))⟩
    · skip
      refine js_lookup (pc := 44) (off := 121) (tgt := 165) F dX1_readOrder_44 (by decide) (by rw [v44]; decide) (by decide) ?_
      have g2 : a + 1 < p.length := jq_lt (by omega)
      refine js_aload_n (pc := 165) 0 F rfl dX1_readOrder_165 ?_
      refine js_dup (pc := 166) rfl F dX1_readOrder_166 ?_
      refine jg_P_at (pc := 167) (v := nI (a + 1)) F in_X1_readOrder_1 (lk_X1_readOrder_fieldLink_RX1_19_JoinedSketches_Pad_at_I) (by rw [js_st_s, upd, if_neg (by decide)]; all_goals exact (by rw [js_st_s]; simp [upd])) dX1_readOrder_167 ?_
      refine js_iconst (pc := 170) (v := nI (1)) F (by decide) dX1_readOrder_170 ?_
      refine js_iaddN (pc := 171) (a := a + 1) (b := 1) F dX1_readOrder_171 ?_
      refine jp_P_at (pc := 172) (v := nI ((a + 1) + 1)) F in_X1_readOrder_1 (lk_X1_readOrder_fieldLink_RX1_19_JoinedSketches_Pad_at_I) dX1_readOrder_172 ?_
      refine js_iconst (pc := 175) (v := nI (1)) F (by decide) dX1_readOrder_175 ?_
      refine js_iret (pc := 176) F hr (rfl) ?_ dX1_readOrder_176
      first | exact jp_po_of (jp_ord_e h9 v44) ⟨rfl, by simp [js_st_s, js_st_n, upd], fun _ => ⟨jr_N.nil (by simp [js_st_s, js_st_n, upd]), by simp [js_st_s, js_st_n, upd], by simp [js_st_s, js_st_n, upd]⟩, (js_fp.st (by decide)).tr ((js_fp.st (by decide)).tr ((js_fp.st (by decide)).tr ((js_fp.st (by decide)).tr (js_fp.st (by decide)))))⟩ | exact jp_po_of (jp_ord_f h9 v44) ⟨rfl, by simp [js_st_s, js_st_n, upd], fun _ => ⟨jr_N.nil (by simp [js_st_s, js_st_n, upd]), by simp [js_st_s, js_st_n, upd], by simp [js_st_s, js_st_n, upd]⟩, (js_fp.st (by decide)).tr ((js_fp.st (by decide)).tr ((js_fp.st (by decide)).tr ((js_fp.st (by decide)).tr (js_fp.st (by decide)))))⟩
    · skip
      refine js_lookup (pc := 44) (off := 133) (tgt := 177) F dX1_readOrder_44 (by decide) (show Op.lookupswitch.offset [(33, 121), (38, 67), (42, 82), (47, 121), (58, 52)] 133 (nI (jq p (a + 1))).toInt = 133 by rw [nI_toInt (by omega)]; simp only [Op.lookupswitch.offset]; repeat rw [if_neg (by omega)]) (by decide) ?_
      refine js_iconst (pc := 177) (v := nI (0)) F (by decide) dX1_readOrder_177 ?_
      refine js_iret (pc := 178) F hr (rfl) ?_ dX1_readOrder_178
      exact jp_po_of (jp_ord_x h9 v44) ⟨rfl, by simp [js_st_s, js_st_n, upd], fun z => (by cases z), (js_fp.st (by decide)).tr ((js_fp.st (by decide)).tr ((js_fp.st (by decide)).tr (js_fp.st (by decide))))⟩
  · skip
    refine js_iconst (pc := 12) (v := nI (0)) F (by decide) dX1_readOrder_12 ?_
    refine js_iret (pc := 13) F hr (rfl) ?_ dX1_readOrder_13
    exact jp_po_of (if_neg h9) ⟨rfl, by simp [js_st_s, upd]; exact ha, fun z => (by cases z), js_fp.st (by decide)⟩
theorem in_X1_faultPlace_1 : ∀ w ∈ wsX10, w ∈ wsX1_faultPlace := by decide +kernel
theorem lk_X1_faultPlace_fieldLink_RX1_15_JoinedSketches_Pad_length_I : Cond.fieldLink RX1 15 "JoinedSketches$Pad" "length" "I" ∈ wsX1_faultPlace := by decide +kernel
theorem lk_X1_faultPlace_fieldLink_RX1_19_JoinedSketches_Pad_at_I : Cond.fieldLink RX1 19 "JoinedSketches$Pad" "at" "I" ∈ wsX1_faultPlace := by decide +kernel
theorem mf_X1_faultPlace : js_M yX1_faultPlace cX1_faultPlace 2 (some .int) wsX1_faultPlace 0 := ⟨⟨_, rfl⟩, by decide +kernel, by decide +kernel, by decide +kernel, by decide +kernel⟩
set_option maxHeartbeats 4000000 in
set_option maxRecDepth 100000 in
theorem c_X1_faultPlace (la : Launch) {y : js_L} (hy : js_Dy y) {G : js_G} {p : List Nat} (hP : jr_P G p) : js_Ci la y yX1_faultPlace wsX1_faultPlace 6 117 [.ref (js_ad y (187))] G (fun r G' => r = jp_fa p ∧ js_fp G G') := by
  have hpl := hP.2.1
  refine js_ofi mf_X1_faultPlace (Nat.le_of_ble_eq_true rfl) hy (fun X F hr => ?_)
  replace F : js_F X y cX1_faultPlace 2 RX1 wsX1_faultPlace 6 117 := F
  show js_W X y 2 _ G 0 [(0, .ref (js_ad y (187)))] []
  refine js_aload_n (pc := 0) 0 F rfl dX1_faultPlace_0 ?_
  refine js_callv (pc := 1) F (c_X1_goToStart _ hy (G := G)) mf_X1_goToStart gX1_faultPlace_X1_goToStart rfl (by decide) (by decide) (js_ct_P) rfl rfl rfl (Nat.le_of_ble_eq_true rfl) dX1_faultPlace_1 ?_
  rintro _ rfl
  refine js_iconst (pc := 4) (v := nI (0)) F (by decide) dX1_faultPlace_4 ?_
  refine js_istore_n (pc := 5) (lv2 := [(0, .ref (js_ad y (187))), (1, .int (nI (0)))]) F dX1_faultPlace_5 (by decide) [1, 0] rfl ?_
  have L6 : ∀ (fu6 : Nat) (k : Nat) (b : Nat) (G1 : js_G) (hk : k ≤ 80) (hb8 : b ≤ p.length) (hm : jp_fault p 80 0 = jp_fault p (80 - k) b) (hP1 : jr_P G1 p) (hb : G1 187 2 = nI b) (hf : js_fp G G1) (hfu6 : 80 - k < fu6), js_W X y 2 (js_Qi X y (fun r G' => r = jp_fa p ∧ js_fp G G')) G1 6 [(0, .ref (js_ad y (187))), (1, .int (nI (k)))] [] := by
    intro fu6
    induction fu6 with
    | zero => intro k b G1 hk hb8 hm hP1 hb hf hfu6; exact absurd hfu6 (Nat.not_lt_zero _)
    | succ fu6 ih6 =>
      intro k b G1 hk hb8 hm hP1 hb hf hfu6
      refine js_iload_n (pc := 6) 1 F rfl dX1_faultPlace_6 ?_
      refine js_bipush (pc := 7) (v := nI (80)) F (by decide) dX1_faultPlace_7 ?_
      refine js_icmp_geN (pc := 9) (a := k) (b := 80) (tgt := 60) F (by omega) (by decide) dX1_faultPlace_9 (by decide) (fun h9 => ?_) (fun h9 => ?_)
      · skip
        refine js_aload_n (pc := 60) 0 F rfl dX1_faultPlace_60 ?_
        refine jg_P_at (pc := 61) (v := nI (b)) F in_X1_faultPlace_1 (lk_X1_faultPlace_fieldLink_RX1_19_JoinedSketches_Pad_at_I) (hb) dX1_faultPlace_61 ?_
        refine js_iret (pc := 64) F hr (rfl) ?_ dX1_faultPlace_64
        exact ⟨by unfold jp_fa; rw [hm, show 80 - k = 0 by omega]; rfl, hf⟩
      · skip
        refine js_aload_n (pc := 12) 0 F rfl dX1_faultPlace_12 ?_
        refine js_calli (pc := 13) F (c_X1_readOrder _ hy (G := G1) (p := p) (hP1) (a := b) (hb) (by omega)) mf_X1_readOrder gX1_faultPlace_X1_readOrder rfl (by decide) (by decide) (js_ct_P) rfl rfl rfl (Nat.le_of_ble_eq_true rfl) dX1_faultPlace_13 ?_
        rintro _ G13 ⟨rfl, e13, n13, f13⟩
        have P13 := f13.P (hP1)
        obtain ⟨l13a, l13b, l13c⟩ := jp_ord_le (p := p) (a := b) (by omega)
        refine js_if_neB (pc := 16) (tgt := 24) F dX1_faultPlace_16 (by decide) (fun h16 => ?_) (fun h16 => ?_)
        · skip
          refine js_aload_n (pc := 24) 0 F rfl dX1_faultPlace_24 ?_
          refine js_bipush (pc := 25) (v := nI (59)) F (by decide) dX1_faultPlace_25 ?_
          refine js_calli (pc := 27) F (c_X1_accept _ hy (G := G13) (p := p) (P13) (a := (jp_ord p b).2.1) (e13) (by omega) (w := 59) (by decide)) mf_X1_accept gX1_faultPlace_X1_accept rfl (by decide) (by decide) (js_ct_P) rfl rfl rfl (Nat.le_of_ble_eq_true rfl) dX1_faultPlace_27 ?_
          rintro _ _ (⟨a27, rfl, rfl⟩ | ⟨a27, rfl, rfl⟩)
          · skip
            refine js_if_neN (pc := 30) (a := 1) (tgt := 54) F (by decide) dX1_faultPlace_30 (by decide) (fun _ => ?_) (fun h30 => by exfalso; revert h30; decide)
            refine js_iinc (pc := 54) (v := nI (k + 1)) (lv2 := [(0, .ref (js_ad y (187))), (1, .int (nI (k + 1)))]) F dX1_faultPlace_54 1 rfl (nI_add _ _) (by decide) [1, 0] rfl ?_
            refine js_goto (pc := 57) (tgt := 6) F dX1_faultPlace_57 (by decide) ?_
            exact ih6 (k + 1) ((jp_ord p b).2.1 + 1) (js_st G13 (187) (2) (nI (((jp_ord p b).2.1) + 1))) (by omega) (jq_lt (by omega)) (by rw [hm, show 80 - k = (80 - (k + 1)) + 1 by omega, jp_fault_go h16 a27]) ((js_fp.st (by decide)).P P13) (by rw [js_st_s]; simp [upd]) (hf.tr (f13.tr (js_fp.st (by decide)))) (by omega)
          · skip
            refine js_if_neN (pc := 30) (a := 0) (tgt := 54) F (by decide) dX1_faultPlace_30 (by decide) (fun h30 => by exfalso; revert h30; decide) (fun _ => ?_)
            refine js_aload_n (pc := 33) 0 F rfl dX1_faultPlace_33 ?_
            refine jg_P_at (pc := 34) (v := nI ((jp_ord p b).2.1)) F in_X1_faultPlace_1 (lk_X1_faultPlace_fieldLink_RX1_19_JoinedSketches_Pad_at_I) (e13) dX1_faultPlace_34 ?_
            refine js_aload_n (pc := 37) 0 F rfl dX1_faultPlace_37 ?_
            refine jg_P_length (pc := 38) (v := nI (p.length)) F in_X1_faultPlace_1 (lk_X1_faultPlace_fieldLink_RX1_15_JoinedSketches_Pad_length_I) (P13.1) dX1_faultPlace_38 ?_
            refine js_icmp_neN (pc := 41) (a := (jp_ord p b).2.1) (b := p.length) (tgt := 49) F (by omega) (by omega) dX1_faultPlace_41 (by decide) (fun h41 => ?_) (fun h41 => ?_)
            · skip
              refine js_aload_n (pc := 49) 0 F rfl dX1_faultPlace_49 ?_
              refine jg_P_at (pc := 50) (v := nI ((jp_ord p b).2.1)) F in_X1_faultPlace_1 (lk_X1_faultPlace_fieldLink_RX1_19_JoinedSketches_Pad_at_I) (e13) dX1_faultPlace_50 ?_
              refine js_iret (pc := 53) F hr (rfl) ?_ dX1_faultPlace_53
              first | (exfalso; omega) | exact ⟨by unfold jp_fa; rw [hm, show 80 - k = (80 - (k + 1)) + 1 by omega, jp_fault_end h16 a27]; first | (rw [if_pos h41]; rfl) | (rw [if_neg h41]; rfl), hf.tr f13⟩
            · skip
              refine js_bipush (pc := 44) (v := (-6)) F (by decide) dX1_faultPlace_44 ?_
              refine js_goto (pc := 46) (tgt := 53) F dX1_faultPlace_46 (by decide) ?_
              refine js_iret (pc := 53) F hr (rfl) ?_ dX1_faultPlace_53
              first | (exfalso; omega) | exact ⟨by unfold jp_fa; rw [hm, show 80 - k = (80 - (k + 1)) + 1 by omega, jp_fault_end h16 a27]; first | (rw [if_pos h41]; rfl) | (rw [if_neg h41]; rfl), hf.tr f13⟩
        · skip
          refine js_aload_n (pc := 19) 0 F rfl dX1_faultPlace_19 ?_
          refine jg_P_at (pc := 20) (v := nI ((jp_ord p b).2.1)) F in_X1_faultPlace_1 (lk_X1_faultPlace_fieldLink_RX1_19_JoinedSketches_Pad_at_I) (e13) dX1_faultPlace_20 ?_
          refine js_iret (pc := 23) F hr (rfl) ?_ dX1_faultPlace_23
          exact ⟨by unfold jp_fa; rw [hm, show 80 - k = (80 - (k + 1)) + 1 by omega, jp_fault_no h16]; rfl, hf.tr f13⟩
  exact L6 (_ + 1) 0 0 (js_st G (187) (2) (nI (0))) (by decide) (Nat.zero_le _) (rfl) ((js_fp.st (by decide)).P hP) (by rw [js_st_s]; simp [upd]) (js_fp.st (by decide)) (Nat.lt_succ_self _)
