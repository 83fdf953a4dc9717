theorem in_X1_clear_1 : ∀ w ∈ wsX10, w ∈ wsX1_clear := by decide +kernel
theorem lk_X1_clear_fieldLink_RX1_15_JoinedSketches_Pad_length_I : Cond.fieldLink RX1 15 "JoinedSketches$Pad" "length" "I" ∈ wsX1_clear := by decide +kernel
theorem mf_X1_clear : js_M yX1_clear cX1_clear 1 none wsX1_clear 0 := ⟨⟨_, rfl⟩, by decide +kernel, by decide +kernel, by decide +kernel, by decide +kernel⟩
set_option maxHeartbeats 4000000 in
set_option maxRecDepth 100000 in
theorem c_X1_clear (la : Launch) {y : js_L} (hy : js_Dy y) {G : js_G} : js_Cv la y yX1_clear wsX1_clear 1 12 [.ref (js_ad y (187))] G (fun G' => js_st G 187 1 (nI 0) = G') := by
  refine js_ofv mf_X1_clear (Nat.le_of_ble_eq_true rfl) hy (fun X F hr => ?_)
  replace F : js_F X y cX1_clear 1 RX1 wsX1_clear 1 12 := F
  show js_W X y 1 _ G 0 [(0, .ref (js_ad y (187)))] []
  refine js_aload_n (pc := 0) 0 F rfl dX1_clear_0 ?_
  refine js_iconst (pc := 1) (v := nI (0)) F (by decide) dX1_clear_1 ?_
  refine jp_P_length (pc := 2) (v := nI (0)) F in_X1_clear_1 (lk_X1_clear_fieldLink_RX1_15_JoinedSketches_Pad_length_I) dX1_clear_2 ?_
  refine js_vret (pc := 5) F hr ?_ dX1_clear_5
  exact rfl
theorem in_X1_goToStart_1 : ∀ w ∈ wsX10, w ∈ wsX1_goToStart := by decide +kernel
theorem lk_X1_goToStart_fieldLink_RX1_19_JoinedSketches_Pad_at_I : Cond.fieldLink RX1 19 "JoinedSketches$Pad" "at" "I" ∈ wsX1_goToStart := by decide +kernel
theorem mf_X1_goToStart : js_M yX1_goToStart cX1_goToStart 1 none wsX1_goToStart 0 := ⟨⟨_, rfl⟩, by decide +kernel, by decide +kernel, by decide +kernel, by decide +kernel⟩
set_option maxHeartbeats 4000000 in
set_option maxRecDepth 100000 in
theorem c_X1_goToStart (la : Launch) {y : js_L} (hy : js_Dy y) {G : js_G} : js_Cv la y yX1_goToStart wsX1_goToStart 1 12 [.ref (js_ad y (187))] G (fun G' => js_st G 187 2 (nI 0) = G') := by
  refine js_ofv mf_X1_goToStart (Nat.le_of_ble_eq_true rfl) hy (fun X F hr => ?_)
  replace F : js_F X y cX1_goToStart 1 RX1 wsX1_goToStart 1 12 := F
  show js_W X y 1 _ G 0 [(0, .ref (js_ad y (187)))] []
  refine js_aload_n (pc := 0) 0 F rfl dX1_goToStart_0 ?_
  refine js_iconst (pc := 1) (v := nI (0)) F (by decide) dX1_goToStart_1 ?_
  refine jp_P_at (pc := 2) (v := nI (0)) F in_X1_goToStart_1 (lk_X1_goToStart_fieldLink_RX1_19_JoinedSketches_Pad_at_I) dX1_goToStart_2 ?_
  refine js_vret (pc := 5) F hr ?_ dX1_goToStart_5
  exact rfl
theorem in_X1_append_1 : ∀ w ∈ wsX10, w ∈ wsX1_append := by decide +kernel
theorem lk_X1_append_fieldLink_RX1_15_JoinedSketches_Pad_length_I : Cond.fieldLink RX1 15 "JoinedSketches$Pad" "length" "I" ∈ wsX1_append := by decide +kernel
theorem lk_X1_append_fieldLink_RX1_9_JoinedSketches_Pad_signs_C : Cond.fieldLink RX1 9 "JoinedSketches$Pad" "signs" "[C" ∈ wsX1_append := by decide +kernel
theorem mf_X1_append : js_M yX1_append cX1_append 2 none wsX1_append 1 := ⟨⟨_, rfl⟩, by decide +kernel, by decide +kernel, by decide +kernel, by decide +kernel⟩
set_option maxHeartbeats 4000000 in
set_option maxRecDepth 100000 in
theorem c_X1_append (la : Launch) {y : js_L} (hy : js_Dy y) {G : js_G} {p : List Nat} (hP : jr_P G p) {q : Nat} (hq : q ≤ 126) (hl : p.length < 80) : js_Cv la y yX1_append wsX1_append 1 12 [.ref (js_ad y (187)), .int (nI (q))] G (fun G' => js_st (js_st G 188 p.length (nI q)) 187 1 (nI (p.length + 1)) = G') := by
  have hpl := hP.2.1
  refine js_ofv mf_X1_append (Nat.le_of_ble_eq_true rfl) hy (fun X F hr => ?_)
  replace F : js_F X y cX1_append 2 RX1 wsX1_append 1 12 := F
  show js_W X y 2 _ G 0 [(0, .ref (js_ad y (187))), (1, .int (nI (q)))] []
  refine js_aload_n (pc := 0) 0 F rfl dX1_append_0 ?_
  refine jg_P_length (pc := 1) (v := nI (p.length)) F in_X1_append_1 (lk_X1_append_fieldLink_RX1_15_JoinedSketches_Pad_length_I) (hP.1) dX1_append_1 ?_
  refine js_aload_n (pc := 4) 0 F rfl dX1_append_4 ?_
  refine jg_P_signs (pc := 5) F in_X1_append_1 (lk_X1_append_fieldLink_RX1_9_JoinedSketches_Pad_signs_C) dX1_append_5 ?_
  refine js_alen (pc := 8) (t0 := 1) F (by decide) (js_ct_Sg) rfl dX1_append_8 ?_
  refine js_icmp_geN (pc := 9) (a := p.length) (b := 80) (tgt := 32) F (by omega) (by decide) dX1_append_9 (by decide) (fun h9 => by exfalso; omega) (fun h9 => ?_)
  refine js_aload_n (pc := 12) 0 F rfl dX1_append_12 ?_
  refine jg_P_signs (pc := 13) F in_X1_append_1 (lk_X1_append_fieldLink_RX1_9_JoinedSketches_Pad_signs_C) dX1_append_13 ?_
  refine js_aload_n (pc := 16) 0 F rfl dX1_append_16 ?_
  refine jg_P_length (pc := 17) (v := nI (p.length)) F in_X1_append_1 (lk_X1_append_fieldLink_RX1_15_JoinedSketches_Pad_length_I) (hP.1) dX1_append_17 ?_
  refine js_iload_n (pc := 20) 1 F rfl dX1_append_20 ?_
  refine js_cast (pc := 21) (j := p.length) F (by decide) (fun _ => js_ct_Sg) rfl (by omega) (by decide) (by unfold vp_nar; rw [jn_narC hq]) dX1_append_21 ?_
  refine js_aload_n (pc := 22) 0 F rfl dX1_append_22 ?_
  refine js_dup (pc := 23) rfl F dX1_append_23 ?_
  refine jg_P_length (pc := 24) (v := nI (p.length)) F in_X1_append_1 (lk_X1_append_fieldLink_RX1_15_JoinedSketches_Pad_length_I) (by rw [js_st_n (by decide)]; all_goals exact (hP.1)) dX1_append_24 ?_
  refine js_iconst (pc := 27) (v := nI (1)) F (by decide) dX1_append_27 ?_
  refine js_iaddN (pc := 28) (a := p.length) (b := 1) F dX1_append_28 ?_
  refine jp_P_length (pc := 29) (v := nI (p.length + 1)) F in_X1_append_1 (lk_X1_append_fieldLink_RX1_15_JoinedSketches_Pad_length_I) dX1_append_29 ?_
  refine js_vret (pc := 32) F hr ?_ dX1_append_32
  exact rfl
theorem in_X1_keepNumber_1 : ∀ w ∈ wsX10, w ∈ wsX1_keepNumber := by decide +kernel
theorem lk_X1_keepNumber_fieldLink_RX1_28_JoinedSketches_Pad_numbers_I : Cond.fieldLink RX1 28 "JoinedSketches$Pad" "numbers" "[I" ∈ wsX1_keepNumber := by decide +kernel
theorem lk_X1_keepNumber_fieldLink_RX1_32_JoinedSketches_Pad_many_I : Cond.fieldLink RX1 32 "JoinedSketches$Pad" "many" "I" ∈ wsX1_keepNumber := by decide +kernel
theorem mf_X1_keepNumber : js_M yX1_keepNumber cX1_keepNumber 2 none wsX1_keepNumber 1 := ⟨⟨_, rfl⟩, by decide +kernel, by decide +kernel, by decide +kernel, by decide +kernel⟩
set_option maxHeartbeats 4000000 in
set_option maxRecDepth 100000 in
theorem c_X1_keepNumber (la : Launch) {y : js_L} (hy : js_Dy y) {G : js_G} {m v : Nat} (hm : G 187 6 = nI m) (hm8 : m < 80) : js_Cv la y yX1_keepNumber wsX1_keepNumber 1 12 [.ref (js_ad y (187)), .int (nI (v))] G (fun G' => js_st (js_st G 189 m (nI v)) 187 6 (nI (m + 1)) = G') := by
  refine js_ofv mf_X1_keepNumber (Nat.le_of_ble_eq_true rfl) hy (fun X F hr => ?_)
  replace F : js_F X y cX1_keepNumber 2 RX1 wsX1_keepNumber 1 12 := F
  show js_W X y 2 _ G 0 [(0, .ref (js_ad y (187))), (1, .int (nI (v)))] []
  refine js_aload_n (pc := 0) 0 F rfl dX1_keepNumber_0 ?_
  refine jg_P_many (pc := 1) (v := nI (m)) F in_X1_keepNumber_1 (lk_X1_keepNumber_fieldLink_RX1_32_JoinedSketches_Pad_many_I) (hm) dX1_keepNumber_1 ?_
  refine js_aload_n (pc := 4) 0 F rfl dX1_keepNumber_4 ?_
  refine jg_P_numbers (pc := 5) F in_X1_keepNumber_1 (lk_X1_keepNumber_fieldLink_RX1_28_JoinedSketches_Pad_numbers_I) dX1_keepNumber_5 ?_
  refine js_alen (pc := 8) (t0 := 0) F (by decide) (js_ct_Nu) rfl dX1_keepNumber_8 ?_
  refine js_icmp_geN (pc := 9) (a := m) (b := 80) (tgt := 32) F (by omega) (by decide) dX1_keepNumber_9 (by decide) (fun h9 => by exfalso; omega) (fun h9 => ?_)
  refine js_aload_n (pc := 12) 0 F rfl dX1_keepNumber_12 ?_
  refine jg_P_numbers (pc := 13) F in_X1_keepNumber_1 (lk_X1_keepNumber_fieldLink_RX1_28_JoinedSketches_Pad_numbers_I) dX1_keepNumber_13 ?_
  refine js_aload_n (pc := 16) 0 F rfl dX1_keepNumber_16 ?_
  refine jg_P_many (pc := 17) (v := nI (m)) F in_X1_keepNumber_1 (lk_X1_keepNumber_fieldLink_RX1_32_JoinedSketches_Pad_many_I) (hm) dX1_keepNumber_17 ?_
  refine js_iload_n (pc := 20) 1 F rfl dX1_keepNumber_20 ?_
  refine js_iast (pc := 21) (j := m) F (by decide) (fun _ => js_ct_Nu) rfl (by omega) (by decide) dX1_keepNumber_21 ?_
  refine js_aload_n (pc := 22) 0 F rfl dX1_keepNumber_22 ?_
  refine js_dup (pc := 23) rfl F dX1_keepNumber_23 ?_
  refine jg_P_many (pc := 24) (v := nI (m)) F in_X1_keepNumber_1 (lk_X1_keepNumber_fieldLink_RX1_32_JoinedSketches_Pad_many_I) (by rw [js_st_n (by decide)]; all_goals exact (hm)) dX1_keepNumber_24 ?_
  refine js_iconst (pc := 27) (v := nI (1)) F (by decide) dX1_keepNumber_27 ?_
  refine js_iaddN (pc := 28) (a := m) (b := 1) F dX1_keepNumber_28 ?_
  refine jp_P_many (pc := 29) (v := nI (m + 1)) F in_X1_keepNumber_1 (lk_X1_keepNumber_fieldLink_RX1_32_JoinedSketches_Pad_many_I) dX1_keepNumber_29 ?_
  refine js_vret (pc := 32) F hr ?_ dX1_keepNumber_32
  exact rfl
theorem in_X1_numberAt_1 : ∀ w ∈ wsX10, w ∈ wsX1_numberAt := by decide +kernel
theorem lk_X1_numberAt_fieldLink_RX1_28_JoinedSketches_Pad_numbers_I : Cond.fieldLink RX1 28 "JoinedSketches$Pad" "numbers" "[I" ∈ wsX1_numberAt := by decide +kernel
theorem lk_X1_numberAt_fieldLink_RX1_32_JoinedSketches_Pad_many_I : Cond.fieldLink RX1 32 "JoinedSketches$Pad" "many" "I" ∈ wsX1_numberAt := by decide +kernel
theorem mf_X1_numberAt : js_M yX1_numberAt cX1_numberAt 2 (some .int) wsX1_numberAt 1 := ⟨⟨_, rfl⟩, by decide +kernel, by decide +kernel, by decide +kernel, by decide +kernel⟩
set_option maxHeartbeats 4000000 in
set_option maxRecDepth 100000 in
theorem c_X1_numberAt (la : Launch) {y : js_L} (hy : js_Dy y) {G : js_G} {ns : List Nat} (hN : jr_N G ns) (hl : ns.length ≤ 80) {k : Nat} (hk : k < ns.length) : js_Ci la y yX1_numberAt wsX1_numberAt 1 12 [.ref (js_ad y (187)), .int (nI (k))] G (fun r G' => r = nI (ns.getD k 0) ∧ G = G') := by
  refine js_ofi mf_X1_numberAt (Nat.le_of_ble_eq_true rfl) hy (fun X F hr => ?_)
  replace F : js_F X y cX1_numberAt 2 RX1 wsX1_numberAt 1 12 := F
  show js_W X y 2 _ G 0 [(0, .ref (js_ad y (187))), (1, .int (nI (k)))] []
  refine js_iload_n (pc := 0) 1 F rfl dX1_numberAt_0 ?_
  refine js_if_ltN (pc := 1) (a := k) (tgt := 30) F (by omega) dX1_numberAt_1 (by decide) (fun h1 => by exact absurd h1 (Nat.not_lt_zero _)) (fun h1 => ?_)
  refine js_iload_n (pc := 4) 1 F rfl dX1_numberAt_4 ?_
  refine js_aload_n (pc := 5) 0 F rfl dX1_numberAt_5 ?_
  refine jg_P_many (pc := 6) (v := nI (ns.length)) F in_X1_numberAt_1 (lk_X1_numberAt_fieldLink_RX1_32_JoinedSketches_Pad_many_I) (hN.1) dX1_numberAt_6 ?_
  refine js_icmp_geN (pc := 9) (a := k) (b := ns.length) (tgt := 30) F (by omega) (by omega) dX1_numberAt_9 (by decide) (fun h9 => by exfalso; omega) (fun h9 => ?_)
  refine js_iload_n (pc := 12) 1 F rfl dX1_numberAt_12 ?_
  refine js_aload_n (pc := 13) 0 F rfl dX1_numberAt_13 ?_
  refine jg_P_numbers (pc := 14) F in_X1_numberAt_1 (lk_X1_numberAt_fieldLink_RX1_28_JoinedSketches_Pad_numbers_I) dX1_numberAt_14 ?_
  refine js_alen (pc := 17) (t0 := 0) F (by decide) (js_ct_Nu) rfl dX1_numberAt_17 ?_
  refine js_icmp_geN (pc := 18) (a := k) (b := 80) (tgt := 30) F (by omega) (by decide) dX1_numberAt_18 (by decide) (fun h18 => by exfalso; omega) (fun h18 => ?_)
  refine js_aload_n (pc := 21) 0 F rfl dX1_numberAt_21 ?_
  refine jg_P_numbers (pc := 22) F in_X1_numberAt_1 (lk_X1_numberAt_fieldLink_RX1_28_JoinedSketches_Pad_numbers_I) dX1_numberAt_22 ?_
  refine js_iload_n (pc := 25) 1 F rfl dX1_numberAt_25 ?_
  refine js_iald (pc := 26) (j := k) (v := nI (ns.getD (k) 0)) F (by decide) (js_ct_Nu) rfl (by omega) (by decide) (hN.2 _ (by omega)) dX1_numberAt_26 ?_
  refine js_goto (pc := 27) (tgt := 31) F dX1_numberAt_27 (by decide) ?_
  refine js_iret (pc := 31) F hr (rfl) ?_ dX1_numberAt_31
  exact ⟨rfl, rfl⟩
theorem in_X1_sign_1 : ∀ w ∈ wsX10, w ∈ wsX1_sign := by decide +kernel
theorem lk_X1_sign_fieldLink_RX1_15_JoinedSketches_Pad_length_I : Cond.fieldLink RX1 15 "JoinedSketches$Pad" "length" "I" ∈ wsX1_sign := by decide +kernel
theorem lk_X1_sign_fieldLink_RX1_19_JoinedSketches_Pad_at_I : Cond.fieldLink RX1 19 "JoinedSketches$Pad" "at" "I" ∈ wsX1_sign := by decide +kernel
theorem lk_X1_sign_fieldLink_RX1_9_JoinedSketches_Pad_signs_C : Cond.fieldLink RX1 9 "JoinedSketches$Pad" "signs" "[C" ∈ wsX1_sign := by decide +kernel
theorem mf_X1_sign : js_M yX1_sign cX1_sign 1 (some .char) wsX1_sign 0 := ⟨⟨_, rfl⟩, by decide +kernel, by decide +kernel, by decide +kernel, by decide +kernel⟩
set_option maxHeartbeats 4000000 in
set_option maxRecDepth 100000 in
theorem c_X1_sign (la : Launch) {y : js_L} (hy : js_Dy y) {G : js_G} {p : List Nat} (hP : jr_P G p) {a : Nat} (ha : G 187 2 = nI a) (ha2 : a ≤ 80) : js_Ci la y yX1_sign wsX1_sign 1 12 [.ref (js_ad y (187))] G (fun r G' => r = nI (jq p a) ∧ G = G') := by
  have hpl := hP.2.1
  refine js_ofi mf_X1_sign (Nat.le_of_ble_eq_true rfl) hy (fun X F hr => ?_)
  replace F : js_F X y cX1_sign 1 RX1 wsX1_sign 1 12 := F
  show js_W X y 1 _ G 0 [(0, .ref (js_ad y (187)))] []
  refine js_aload_n (pc := 0) 0 F rfl dX1_sign_0 ?_
  refine jg_P_at (pc := 1) (v := nI (a)) F in_X1_sign_1 (lk_X1_sign_fieldLink_RX1_19_JoinedSketches_Pad_at_I) (ha) dX1_sign_1 ?_
  refine js_if_ltN (pc := 4) (a := a) (tgt := 42) F (by omega) dX1_sign_4 (by decide) (fun h4 => by exact absurd h4 (Nat.not_lt_zero _)) (fun h4 => ?_)
  refine js_aload_n (pc := 7) 0 F rfl dX1_sign_7 ?_
  refine jg_P_at (pc := 8) (v := nI (a)) F in_X1_sign_1 (lk_X1_sign_fieldLink_RX1_19_JoinedSketches_Pad_at_I) (ha) dX1_sign_8 ?_
  refine js_aload_n (pc := 11) 0 F rfl dX1_sign_11 ?_
  refine jg_P_length (pc := 12) (v := nI (p.length)) F in_X1_sign_1 (lk_X1_sign_fieldLink_RX1_15_JoinedSketches_Pad_length_I) (hP.1) dX1_sign_12 ?_
  refine js_icmp_geN (pc := 15) (a := a) (b := p.length) (tgt := 42) F (by omega) (by omega) dX1_sign_15 (by decide) (fun h15 => ?_) (fun h15 => ?_)
  · skip
    refine js_iconst (pc := 42) (v := nI (0)) F (by decide) dX1_sign_42 ?_
    refine js_iret (pc := 43) F hr (by first | exact jn_narC (hP.q _) | rfl) ?_ dX1_sign_43
    exact ⟨by rw [jr_P.q0 (by omega)], rfl⟩
  · skip
    refine js_aload_n (pc := 18) 0 F rfl dX1_sign_18 ?_
    refine jg_P_at (pc := 19) (v := nI (a)) F in_X1_sign_1 (lk_X1_sign_fieldLink_RX1_19_JoinedSketches_Pad_at_I) (ha) dX1_sign_19 ?_
    refine js_aload_n (pc := 22) 0 F rfl dX1_sign_22 ?_
    refine jg_P_signs (pc := 23) F in_X1_sign_1 (lk_X1_sign_fieldLink_RX1_9_JoinedSketches_Pad_signs_C) dX1_sign_23 ?_
    refine js_alen (pc := 26) (t0 := 1) F (by decide) (js_ct_Sg) rfl dX1_sign_26 ?_
    refine js_icmp_geN (pc := 27) (a := a) (b := 80) (tgt := 42) F (by omega) (by decide) dX1_sign_27 (by decide) (fun h27 => ?_) (fun h27 => ?_)
    · skip
      refine js_iconst (pc := 42) (v := nI (0)) F (by decide) dX1_sign_42 ?_
      refine js_iret (pc := 43) F hr (by first | exact jn_narC (hP.q _) | rfl) ?_ dX1_sign_43
      exact ⟨by rw [jr_P.q0 (by omega)], rfl⟩
    · skip
      refine js_aload_n (pc := 30) 0 F rfl dX1_sign_30 ?_
      refine jg_P_signs (pc := 31) F in_X1_sign_1 (lk_X1_sign_fieldLink_RX1_9_JoinedSketches_Pad_signs_C) dX1_sign_31 ?_
      refine js_aload_n (pc := 34) 0 F rfl dX1_sign_34 ?_
      refine jg_P_at (pc := 35) (v := nI (a)) F in_X1_sign_1 (lk_X1_sign_fieldLink_RX1_19_JoinedSketches_Pad_at_I) (ha) dX1_sign_35 ?_
      refine js_cald (pc := 38) (j := a) (v := nI (jq p (a))) F (by decide) (js_ct_Sg) rfl (by omega) (by decide) (hP.at (by omega)) dX1_sign_38 ?_
      refine js_goto (pc := 39) (tgt := 43) F dX1_sign_39 (by decide) ?_
      refine js_iret (pc := 43) F hr (by first | exact jn_narC (hP.q _) | rfl) ?_ dX1_sign_43
      exact ⟨rfl, rfl⟩
theorem mf_X1_digit : js_M yX1_digit cX1_digit 2 (some .int) wsX1_digit 0 := ⟨⟨_, rfl⟩, by decide +kernel, by decide +kernel, by decide +kernel, by decide +kernel⟩
set_option maxHeartbeats 4000000 in
set_option maxRecDepth 100000 in
theorem c_X1_digit (la : Launch) {y : js_L} (hy : js_Dy y) {G : js_G} {p : List Nat} (hP : jr_P G p) {a : Nat} (ha : G 187 2 = nI a) (ha2 : a ≤ 80) : js_Ci la y yX1_digit wsX1_digit 2 32 [.ref (js_ad y (187))] G (fun r G' => ((jp_d (jq p a) ∧ r = nI (jq p a - 48)) ∨ (¬ jp_d (jq p a) ∧ r = -1)) ∧ G = G') := by
  have hpl := hP.2.1
  have hq := hP.q a
  refine js_ofi mf_X1_digit (Nat.le_of_ble_eq_true rfl) hy (fun X F hr => ?_)
  replace F : js_F X y cX1_digit 2 RX1 wsX1_digit 2 32 := F
  show js_W X y 2 _ G 0 [(0, .ref (js_ad y (187)))] []
  refine js_aload_n (pc := 0) 0 F rfl dX1_digit_0 ?_
  refine js_calli (pc := 1) F (c_X1_sign _ hy (G := G) (p := p) (hP) (a := a) (ha) (by omega)) mf_X1_sign gX1_digit_X1_sign rfl (by decide) (by decide) (js_ct_P) rfl rfl rfl (Nat.le_of_ble_eq_true rfl) dX1_digit_1 ?_
  rintro _ _ ⟨rfl, rfl⟩
  refine js_istore_n (pc := 4) (lv2 := [(0, .ref (js_ad y (187))), (1, .int (nI (jq p (a))))]) F dX1_digit_4 (by decide) [1, 0] rfl ?_
  refine js_iload_n (pc := 5) 1 F rfl dX1_digit_5 ?_
  refine js_bipush (pc := 6) (v := nI (48)) F (by decide) dX1_digit_6 ?_
  refine js_icmp_ltN (pc := 8) (a := jq p (a)) (b := 48) (tgt := 24) F (by omega) (by decide) dX1_digit_8 (by decide) (fun h8 => ?_) (fun h8 => ?_)
  · skip
    refine js_iconst (pc := 24) (v := (-1)) F (by decide) dX1_digit_24 ?_
    refine js_iret (pc := 25) F hr (rfl) ?_ dX1_digit_25
    exact ⟨Or.inr ⟨fun z => by have := z.1; have := z.2; omega, rfl⟩, rfl⟩
  · skip
    refine js_iload_n (pc := 11) 1 F rfl dX1_digit_11 ?_
    refine js_bipush (pc := 12) (v := nI (57)) F (by decide) dX1_digit_12 ?_
    refine js_icmp_gtN (pc := 14) (a := jq p (a)) (b := 57) (tgt := 24) F (by omega) (by decide) dX1_digit_14 (by decide) (fun h14 => ?_) (fun h14 => ?_)
    · skip
      refine js_iconst (pc := 24) (v := (-1)) F (by decide) dX1_digit_24 ?_
      refine js_iret (pc := 25) F hr (rfl) ?_ dX1_digit_25
      exact ⟨Or.inr ⟨fun z => by have := z.1; have := z.2; omega, rfl⟩, rfl⟩
    · skip
      refine js_iload_n (pc := 17) 1 F rfl dX1_digit_17 ?_
      refine js_bipush (pc := 18) (v := nI (48)) F (by decide) dX1_digit_18 ?_
      refine js_isubN (pc := 20) (a := jq p (a)) (b := 48) F (by omega) dX1_digit_20 ?_
      refine js_goto (pc := 21) (tgt := 25) F dX1_digit_21 (by decide) ?_
      refine js_iret (pc := 25) F hr (rfl) ?_ dX1_digit_25
      exact ⟨Or.inl ⟨⟨by omega, by omega⟩, rfl⟩, rfl⟩
theorem mf_X1_standsAtSketch : js_M yX1_standsAtSketch cX1_standsAtSketch 2 (some .boolean) wsX1_standsAtSketch 0 := ⟨⟨_, rfl⟩, by decide +kernel, by decide +kernel, by decide +kernel, by decide +kernel⟩
set_option maxHeartbeats 4000000 in
set_option maxRecDepth 100000 in
theorem c_X1_standsAtSketch (la : Launch) {y : js_L} (hy : js_Dy y) {G : js_G} {p : List Nat} (hP : jr_P G p) {a : Nat} (ha : G 187 2 = nI a) (ha2 : a ≤ 80) : js_Ci la y yX1_standsAtSketch wsX1_standsAtSketch 3 53 [.ref (js_ad y (187))] G (fun r G' => r = nI (if jp_s (jq p a) then 1 else 0) ∧ G = G') := by
  have hpl := hP.2.1
  have hq := hP.q a
  refine js_ofi mf_X1_standsAtSketch (Nat.le_of_ble_eq_true rfl) hy (fun X F hr => ?_)
  replace F : js_F X y cX1_standsAtSketch 2 RX1 wsX1_standsAtSketch 3 53 := F
  show js_W X y 2 _ G 0 [(0, .ref (js_ad y (187)))] []
  refine js_aload_n (pc := 0) 0 F rfl dX1_standsAtSketch_0 ?_
  refine js_calli (pc := 1) F (c_X1_digit _ hy (G := G) (p := p) (hP) (a := a) (ha) (by omega)) mf_X1_digit gX1_standsAtSketch_X1_digit rfl (by decide) (by decide) (js_ct_P) rfl rfl rfl (Nat.le_of_ble_eq_true rfl) dX1_standsAtSketch_1 ?_
  rintro _ _ ⟨⟨d1, rfl⟩ | ⟨d1, rfl⟩, rfl⟩
  · skip
    have d1a := d1.1; have d1b := d1.2
    refine js_istore_n (pc := 4) (lv2 := [(0, .ref (js_ad y (187))), (1, .int (nI (jq p (a) - 48)))]) F dX1_standsAtSketch_4 (by decide) [1, 0] rfl ?_
    refine js_iload_n (pc := 5) 1 F rfl dX1_standsAtSketch_5 ?_
    refine js_if_ltN (pc := 6) (a := jq p (a) - 48) (tgt := 19) F (by omega) dX1_standsAtSketch_6 (by decide) (fun h6 => ?_) (fun h6 => ?_)
    · skip
      refine js_iconst (pc := 19) (v := nI (0)) F (by decide) dX1_standsAtSketch_19 ?_
      refine js_iret (pc := 20) F hr (rfl) ?_ dX1_standsAtSketch_20
      exact ⟨by rw [if_neg (fun z => by first | (have := z.1; have := z.2; omega) | (exact d1 ⟨z.1, by have := z.2; omega⟩))], rfl⟩
    · skip
      refine js_iload_n (pc := 9) 1 F rfl dX1_standsAtSketch_9 ?_
      refine js_bipush (pc := 10) (v := nI (6)) F (by decide) dX1_standsAtSketch_10 ?_
      refine js_icmp_geN (pc := 12) (a := jq p (a) - 48) (b := 6) (tgt := 19) F (by omega) (by decide) dX1_standsAtSketch_12 (by decide) (fun h12 => ?_) (fun h12 => ?_)
      · skip
        refine js_iconst (pc := 19) (v := nI (0)) F (by decide) dX1_standsAtSketch_19 ?_
        refine js_iret (pc := 20) F hr (rfl) ?_ dX1_standsAtSketch_20
        exact ⟨by rw [if_neg (fun z => by first | (have := z.1; have := z.2; omega) | (exact d1 ⟨z.1, by have := z.2; omega⟩))], rfl⟩
      · skip
        refine js_iconst (pc := 15) (v := nI (1)) F (by decide) dX1_standsAtSketch_15 ?_
        refine js_goto (pc := 16) (tgt := 20) F dX1_standsAtSketch_16 (by decide) ?_
        refine js_iret (pc := 20) F hr (rfl) ?_ dX1_standsAtSketch_20
        exact ⟨by rw [if_pos ⟨by omega, by omega⟩], rfl⟩
  · skip
    refine js_istore_n (pc := 4) (lv2 := [(0, .ref (js_ad y (187))), (1, .int (-1))]) F dX1_standsAtSketch_4 (by decide) [1, 0] rfl ?_
    refine js_iload_n (pc := 5) 1 F rfl dX1_standsAtSketch_5 ?_
    refine js_if_lt (pc := 6) (tgt := 19) F dX1_standsAtSketch_6 (by decide) (fun _ => ?_) (fun h6 => absurd (by decide) h6)
    refine js_iconst (pc := 19) (v := nI (0)) F (by decide) dX1_standsAtSketch_19 ?_
    refine js_iret (pc := 20) F hr (rfl) ?_ dX1_standsAtSketch_20
    exact ⟨by rw [if_neg (fun z => by first | (have := z.1; have := z.2; omega) | (exact d1 ⟨z.1, by have := z.2; omega⟩))], rfl⟩
theorem in_X1_accept_1 : ∀ w ∈ wsX10, w ∈ wsX1_accept := by decide +kernel
theorem lk_X1_accept_fieldLink_RX1_19_JoinedSketches_Pad_at_I : Cond.fieldLink RX1 19 "JoinedSketches$Pad" "at" "I" ∈ wsX1_accept := by decide +kernel
theorem mf_X1_accept : js_M yX1_accept cX1_accept 2 (some .boolean) wsX1_accept 1 := ⟨⟨_, rfl⟩, by decide +kernel, by decide +kernel, by decide +kernel, by decide +kernel⟩
set_option maxHeartbeats 4000000 in
set_option maxRecDepth 100000 in
theorem c_X1_accept (la : Launch) {y : js_L} (hy : js_Dy y) {G : js_G} {p : List Nat} (hP : jr_P G p) {a : Nat} (ha : G 187 2 = nI a) (ha2 : a ≤ 80) {w : Nat} (hw : w ≤ 126) : js_Ci la y yX1_accept wsX1_accept 2 32 [.ref (js_ad y (187)), .int (nI (w))] G (fun r G' => (jq p a = w ∧ r = nI 1 ∧ js_st G 187 2 (nI (a + 1)) = G') ∨ (¬ jq p a = w ∧ r = nI 0 ∧ G = G')) := by
  have hpl := hP.2.1
  have hq := hP.q a
  refine js_ofi mf_X1_accept (Nat.le_of_ble_eq_true rfl) hy (fun X F hr => ?_)
  replace F : js_F X y cX1_accept 2 RX1 wsX1_accept 2 32 := F
  show js_W X y 2 _ G 0 [(0, .ref (js_ad y (187))), (1, .int (nI (w)))] []
  refine js_aload_n (pc := 0) 0 F rfl dX1_accept_0 ?_
  refine js_calli (pc := 1) F (c_X1_sign _ hy (G := G) (p := p) (hP) (a := a) (ha) (by omega)) mf_X1_sign gX1_accept_X1_sign rfl (by decide) (by decide) (js_ct_P) rfl rfl rfl (Nat.le_of_ble_eq_true rfl) dX1_accept_1 ?_
  rintro _ _ ⟨rfl, rfl⟩
  refine js_iload_n (pc := 4) 1 F rfl dX1_accept_4 ?_
  refine js_icmp_eqN (pc := 5) (a := jq p (a)) (b := w) (tgt := 10) F (by omega) (by omega) dX1_accept_5 (by decide) (fun h5 => ?_) (fun h5 => ?_)
  · skip
    refine js_aload_n (pc := 10) 0 F rfl dX1_accept_10 ?_
    refine js_dup (pc := 11) rfl F dX1_accept_11 ?_
    refine jg_P_at (pc := 12) (v := nI (a)) F in_X1_accept_1 (lk_X1_accept_fieldLink_RX1_19_JoinedSketches_Pad_at_I) (ha) dX1_accept_12 ?_
    refine js_iconst (pc := 15) (v := nI (1)) F (by decide) dX1_accept_15 ?_
    refine js_iaddN (pc := 16) (a := a) (b := 1) F dX1_accept_16 ?_
    refine jp_P_at (pc := 17) (v := nI (a + 1)) F in_X1_accept_1 (lk_X1_accept_fieldLink_RX1_19_JoinedSketches_Pad_at_I) dX1_accept_17 ?_
    refine js_iconst (pc := 20) (v := nI (1)) F (by decide) dX1_accept_20 ?_
    refine js_iret (pc := 21) F hr (rfl) ?_ dX1_accept_21
    exact Or.inl ⟨h5, rfl, rfl⟩
  · skip
    refine js_iconst (pc := 8) (v := nI (0)) F (by decide) dX1_accept_8 ?_
    refine js_iret (pc := 9) F hr (rfl) ?_ dX1_accept_9
    exact Or.inr ⟨h5, rfl, rfl⟩
theorem in_X1_readNumber_1 : ∀ w ∈ wsX10, w ∈ wsX1_readNumber := by decide +kernel
theorem lk_X1_readNumber_constant_RX1_70_100000 : Cond.constant RX1 70 (100000) ∈ wsX1_readNumber := by decide +kernel
theorem lk_X1_readNumber_fieldLink_RX1_19_JoinedSketches_Pad_at_I : Cond.fieldLink RX1 19 "JoinedSketches$Pad" "at" "I" ∈ wsX1_readNumber := by decide +kernel
theorem mf_X1_readNumber : js_M yX1_readNumber cX1_readNumber 4 (some .boolean) wsX1_readNumber 0 := ⟨⟨_, rfl⟩, by decide +kernel, by decide +kernel, by decide +kernel, by decide +kernel⟩
set_option maxHeartbeats 4000000 in
set_option maxRecDepth 100000 in
theorem c_X1_readNumber (la : Launch) {y : js_L} (hy : js_Dy y) {G : js_G} {p : List Nat} (hP : jr_P G p) {a : Nat} (ha : G 187 2 = nI a) (ha2 : a ≤ 80) {ns : List Nat} (hN : jr_N G ns) (hn8 : ns.length < 80) : js_Ci la y yX1_readNumber wsX1_readNumber 3 53 [.ref (js_ad y (187))] G (fun r G' => (jp_num p a = none ∧ r = nI 0 ∧ G = G') ∨ (∃ v z, jp_num p a = some (v, z) ∧ r = nI 1 ∧ G' 187 2 = nI z ∧ jr_N G' (ns ++ [v]) ∧ js_fp G G' ∧ G' 187 3 = G 187 3 ∧ G' 187 4 = G 187 4)) := by
  have hpl := hP.2.1
  have hq := hP.q a
  refine js_ofi mf_X1_readNumber (Nat.le_of_ble_eq_true rfl) hy (fun X F hr => ?_)
  replace F : js_F X y cX1_readNumber 4 RX1 wsX1_readNumber 3 53 := F
  show js_W X y 4 _ G 0 [(0, .ref (js_ad y (187)))] []
  refine js_aload_n (pc := 0) 0 F rfl dX1_readNumber_0 ?_
  refine js_calli (pc := 1) F (c_X1_digit _ hy (G := G) (p := p) (hP) (a := a) (ha) (by omega)) mf_X1_digit gX1_readNumber_X1_digit rfl (by decide) (by decide) (js_ct_P) rfl rfl rfl (Nat.le_of_ble_eq_true rfl) dX1_readNumber_1 ?_
  rintro _ _ ⟨⟨d1, rfl⟩ | ⟨d1, rfl⟩, rfl⟩
  · skip
    have d1a := d1.1; have d1b := d1.2
    refine js_istore_n (pc := 4) (lv2 := [(0, .ref (js_ad y (187))), (1, .int (nI (jq p (a) - 48)))]) F dX1_readNumber_4 (by decide) [1, 0] rfl ?_
    refine js_iload_n (pc := 5) 1 F rfl dX1_readNumber_5 ?_
    refine js_if_geN (pc := 6) (a := jq p (a) - 48) (tgt := 11) F (by first | omega | (have := d34b; omega)) dX1_readNumber_6 (by decide) (fun h6 => ?_) (fun h6 => ?_)
    · skip
      refine js_aload_n (pc := 11) 0 F rfl dX1_readNumber_11 ?_
      refine js_dup (pc := 12) rfl F dX1_readNumber_12 ?_
      refine jg_P_at (pc := 13) (v := nI (a)) F in_X1_readNumber_1 (lk_X1_readNumber_fieldLink_RX1_19_JoinedSketches_Pad_at_I) (ha) dX1_readNumber_13 ?_
      refine js_iconst (pc := 16) (v := nI (1)) F (by decide) dX1_readNumber_16 ?_
      refine js_iaddN (pc := 17) (a := a) (b := 1) F dX1_readNumber_17 ?_
      refine jp_P_at (pc := 18) (v := nI (a + 1)) F in_X1_readNumber_1 (lk_X1_readNumber_fieldLink_RX1_19_JoinedSketches_Pad_at_I) dX1_readNumber_18 ?_
      refine js_iconst (pc := 21) (v := nI (1)) F (by decide) dX1_readNumber_21 ?_
      refine js_istore_n (pc := 22) (lv2 := [(0, .ref (js_ad y (187))), (1, .int (nI (jq p (a) - 48))), (2, .int (nI (1)))]) F dX1_readNumber_22 (by decide) [1, 2, 0] rfl ?_
      have L23 : ∀ (fu23 : Nat) (k : Nat) (v : Nat) (b : Nat) (G1 : js_G) (hk1 : 1 ≤ k) (hk : k ≤ 80) (hv : v < 100000) (hbp : b ≤ p.length) (hm : jp_more p 79 (jq p a - 48) (a + 1) = jp_more p (80 - k) v b) (hP1 : jr_P G1 p) (hb : G1 187 2 = nI b) (hN1 : jr_N G1 ns) (hf : js_fp G G1 ∧ G1 187 3 = G 187 3 ∧ G1 187 4 = G 187 4) (hfu23 : 80 - k < fu23), js_W X y 4 (js_Qi X y (fun r G' => (jp_num p a = none ∧ r = nI 0 ∧ G = G') ∨ (∃ v z, jp_num p a = some (v, z) ∧ r = nI 1 ∧ G' 187 2 = nI z ∧ jr_N G' (ns ++ [v]) ∧ js_fp G G' ∧ G' 187 3 = G 187 3 ∧ G' 187 4 = G 187 4))) G1 23 [(0, .ref (js_ad y (187))), (1, .int (nI (v))), (2, .int (nI (k)))] [] := by
        intro fu23
        induction fu23 with
        | zero => intro k v b G1 hk1 hk hv hbp hm hP1 hb hN1 hf hfu23; exact absurd hfu23 (Nat.not_lt_zero _)
        | succ fu23 ih23 =>
          intro k v b G1 hk1 hk hv hbp hm hP1 hb hN1 hf hfu23
          refine js_iload_n (pc := 23) 2 F rfl dX1_readNumber_23 ?_
          refine js_bipush (pc := 24) (v := nI (80)) F (by decide) dX1_readNumber_24 ?_
          refine js_icmp_geN (pc := 26) (a := k) (b := 80) (tgt := 77) F (by first | omega | (have := d34b; omega)) (by decide) dX1_readNumber_26 (by decide) (fun h26 => ?_) (fun h26 => ?_)
          · skip
            refine js_aload_n (pc := 77) 0 F rfl dX1_readNumber_77 ?_
            refine js_iload_n (pc := 78) 1 F rfl dX1_readNumber_78 ?_
            refine js_callv (pc := 79) F (c_X1_keepNumber _ hy (G := G1) (m := ns.length) (v := v) hN1.1 hn8) mf_X1_keepNumber gX1_readNumber_X1_keepNumber rfl (by decide) (by decide) (js_ct_P) rfl rfl rfl (Nat.le_of_ble_eq_true rfl) dX1_readNumber_79 ?_
            rintro G9 hG9
            refine js_iconst (pc := 82) (v := nI (1)) F (by decide) dX1_readNumber_82 ?_
            refine js_iret (pc := 83) F hr (rfl) ?_ dX1_readNumber_83
            refine Or.inr ⟨v, b, ?_, rfl, ?_, ?_, ?_, ?_, ?_⟩
            · unfold jp_num; rw [if_pos d1, hm]; first | (rw [show 80 - k = 0 by omega]; rfl) | (rw [show 80 - k = (80 - (k + 1)) + 1 by omega]; exact congrArg some (if_neg (fun z => by first | (exact absurd z.1 (by omega)) | (exact d34 z.2.1) | (have := z.2.2; omega))))
            · rw [← hG9, js_st_s]; simp only [upd]; rw [if_neg (by decide), js_st_n (by decide)]; exact hb
            · rw [← hG9]; exact hN1.push
            · rw [← hG9]; exact hf.1.tr (js_fp.tr js_fp.stn (js_fp.st (by decide)))
            · rw [← hG9, js_st_s]; simp only [upd]; rw [if_neg (by decide), js_st_n (by decide)]; exact hf.2.1
            · rw [← hG9, js_st_s]; simp only [upd]; rw [if_neg (by decide), js_st_n (by decide)]; exact hf.2.2
          · skip
            refine js_iload_n (pc := 29) 1 F rfl dX1_readNumber_29 ?_
            refine js_if_leN (pc := 30) (a := v) (tgt := 77) F (by first | omega | (have := d34b; omega)) dX1_readNumber_30 (by decide) (fun h30 => ?_) (fun h30 => ?_)
            · skip
              refine js_aload_n (pc := 77) 0 F rfl dX1_readNumber_77 ?_
              refine js_iload_n (pc := 78) 1 F rfl dX1_readNumber_78 ?_
              refine js_callv (pc := 79) F (c_X1_keepNumber _ hy (G := G1) (m := ns.length) (v := v) hN1.1 hn8) mf_X1_keepNumber gX1_readNumber_X1_keepNumber rfl (by decide) (by decide) (js_ct_P) rfl rfl rfl (Nat.le_of_ble_eq_true rfl) dX1_readNumber_79 ?_
              rintro G9 hG9
              refine js_iconst (pc := 82) (v := nI (1)) F (by decide) dX1_readNumber_82 ?_
              refine js_iret (pc := 83) F hr (rfl) ?_ dX1_readNumber_83
              refine Or.inr ⟨v, b, ?_, rfl, ?_, ?_, ?_, ?_, ?_⟩
              · unfold jp_num; rw [if_pos d1, hm]; first | (rw [show 80 - k = 0 by omega]; rfl) | (rw [show 80 - k = (80 - (k + 1)) + 1 by omega]; exact congrArg some (if_neg (fun z => by first | (exact absurd z.1 (by omega)) | (exact d34 z.2.1) | (have := z.2.2; omega))))
              · rw [← hG9, js_st_s]; simp only [upd]; rw [if_neg (by decide), js_st_n (by decide)]; exact hb
              · rw [← hG9]; exact hN1.push
              · rw [← hG9]; exact hf.1.tr (js_fp.tr js_fp.stn (js_fp.st (by decide)))
              · rw [← hG9, js_st_s]; simp only [upd]; rw [if_neg (by decide), js_st_n (by decide)]; exact hf.2.1
              · rw [← hG9, js_st_s]; simp only [upd]; rw [if_neg (by decide), js_st_n (by decide)]; exact hf.2.2
            · skip
              refine js_aload_n (pc := 33) 0 F rfl dX1_readNumber_33 ?_
              refine js_calli (pc := 34) F (c_X1_digit _ hy (G := G1) (p := p) (hP1) (a := b) (hb) (by omega)) mf_X1_digit gX1_readNumber_X1_digit rfl (by decide) (by decide) (js_ct_P) rfl rfl rfl (Nat.le_of_ble_eq_true rfl) dX1_readNumber_34 ?_
              rintro _ _ ⟨⟨d34, rfl⟩ | ⟨d34, rfl⟩, rfl⟩
              · skip
                have d34a := d34.1; have d34b := d34.2
                refine js_if_ltN (pc := 37) (a := jq p (b) - 48) (tgt := 77) F (by first | omega | (have := d34b; omega)) dX1_readNumber_37 (by decide) (fun h37 => ?_) (fun h37 => ?_)
                · skip
                  refine js_aload_n (pc := 77) 0 F rfl dX1_readNumber_77 ?_
                  refine js_iload_n (pc := 78) 1 F rfl dX1_readNumber_78 ?_
                  refine js_callv (pc := 79) F (c_X1_keepNumber _ hy (G := G1) (m := ns.length) (v := v) hN1.1 hn8) mf_X1_keepNumber gX1_readNumber_X1_keepNumber rfl (by decide) (by decide) (js_ct_P) rfl rfl rfl (Nat.le_of_ble_eq_true rfl) dX1_readNumber_79 ?_
                  rintro G9 hG9
                  refine js_iconst (pc := 82) (v := nI (1)) F (by decide) dX1_readNumber_82 ?_
                  refine js_iret (pc := 83) F hr (rfl) ?_ dX1_readNumber_83
                  refine Or.inr ⟨v, b, ?_, rfl, ?_, ?_, ?_, ?_, ?_⟩
                  · unfold jp_num; rw [if_pos d1, hm]; first | (rw [show 80 - k = 0 by omega]; rfl) | (rw [show 80 - k = (80 - (k + 1)) + 1 by omega]; exact congrArg some (if_neg (fun z => by first | (exact absurd z.1 (by omega)) | (exact d34 z.2.1) | (have := z.2.2; omega))))
                  · rw [← hG9, js_st_s]; simp only [upd]; rw [if_neg (by decide), js_st_n (by decide)]; exact hb
                  · rw [← hG9]; exact hN1.push
                  · rw [← hG9]; exact hf.1.tr (js_fp.tr js_fp.stn (js_fp.st (by decide)))
                  · rw [← hG9, js_st_s]; simp only [upd]; rw [if_neg (by decide), js_st_n (by decide)]; exact hf.2.1
                  · rw [← hG9, js_st_s]; simp only [upd]; rw [if_neg (by decide), js_st_n (by decide)]; exact hf.2.2
                · skip
                  refine js_iload_n (pc := 40) 1 F rfl dX1_readNumber_40 ?_
                  refine js_bipush (pc := 41) (v := nI (10)) F (by decide) dX1_readNumber_41 ?_
                  refine js_imulN (pc := 43) (a := v) (b := 10) F dX1_readNumber_43 ?_
                  refine js_aload_n (pc := 44) 0 F rfl dX1_readNumber_44 ?_
                  refine js_calli (pc := 45) F (c_X1_digit _ hy (G := G1) (p := p) (hP1) (a := b) (hb) (by omega)) mf_X1_digit gX1_readNumber_X1_digit rfl (by decide) (by decide) (js_ct_P) rfl rfl rfl (Nat.le_of_ble_eq_true rfl) dX1_readNumber_45 ?_
                  rintro _ _ ⟨⟨_, rfl⟩ | ⟨q45, rfl⟩, rfl⟩
                  rotate_left
                  · exact absurd d34 q45
                  refine js_iaddN (pc := 48) (a := v * 10) (b := jq p (b) - 48) F dX1_readNumber_48 ?_
                  refine js_istore_n (pc := 49) (lv2 := [(0, .ref (js_ad y (187))), (1, .int (nI (v))), (2, .int (nI (k))), (3, .int (nI ((v * 10) + (jq p (b) - 48))))]) F dX1_readNumber_49 (by decide) [1, 2, 3, 0] rfl ?_
                  refine js_iload_n (pc := 50) 3 F rfl dX1_readNumber_50 ?_
                  refine js_ldc (pc := 51) (v := nI (100000)) F (lk_X1_readNumber_constant_RX1_70_100000) dX1_readNumber_51 ?_
                  refine js_icmp_ltN (pc := 53) (a := (v * 10) + (jq p (b) - 48)) (b := 100000) (tgt := 59) F (by first | omega | (have := d34b; omega)) (by decide) dX1_readNumber_53 (by decide) (fun h53 => ?_) (fun h53 => ?_)
                  · skip
                    refine js_iload_n (pc := 59) 3 F rfl dX1_readNumber_59 ?_
                    refine js_istore_n (pc := 60) (lv2 := [(0, .ref (js_ad y (187))), (1, .int (nI ((v * 10) + (jq p (b) - 48)))), (2, .int (nI (k))), (3, .int (nI ((v * 10) + (jq p (b) - 48))))]) F dX1_readNumber_60 (by decide) [1, 0, 2, 3] rfl ?_
                    refine js_aload_n (pc := 61) 0 F rfl dX1_readNumber_61 ?_
                    refine js_dup (pc := 62) rfl F dX1_readNumber_62 ?_
                    refine jg_P_at (pc := 63) (v := nI (b)) F in_X1_readNumber_1 (lk_X1_readNumber_fieldLink_RX1_19_JoinedSketches_Pad_at_I) (hb) dX1_readNumber_63 ?_
                    refine js_iconst (pc := 66) (v := nI (1)) F (by decide) dX1_readNumber_66 ?_
                    refine js_iaddN (pc := 67) (a := b) (b := 1) F dX1_readNumber_67 ?_
                    refine jp_P_at (pc := 68) (v := nI (b + 1)) F in_X1_readNumber_1 (lk_X1_readNumber_fieldLink_RX1_19_JoinedSketches_Pad_at_I) dX1_readNumber_68 ?_
                    refine js_iinc (pc := 71) (v := nI (k + 1)) (lv2 := [(0, .ref (js_ad y (187))), (1, .int (nI ((v * 10) + (jq p (b) - 48)))), (2, .int (nI (k + 1))), (3, .int (nI ((v * 10) + (jq p (b) - 48))))]) F dX1_readNumber_71 2 rfl (nI_add _ _) (by decide) [1, 2, 0, 3] rfl ?_
                    refine js_goto (pc := 74) (tgt := 23) F dX1_readNumber_74 (by decide) ?_
                    refine js_sub (lv2 := [(0, .ref (js_ad y (187))), (1, .int (nI ((v * 10) + (jq p (b) - 48)))), (2, .int (nI (k + 1)))]) [0, 1, 2] rfl ?_
                    exact ih23 (k + 1) ((v * 10) + (jq p (b) - 48)) (b + 1) (js_st G1 (187) (2) (nI (b + 1))) (by omega) (by omega) (by omega) (jq_lt (by have := d34a; omega)) (by rw [hm, show 80 - k = (80 - (k + 1)) + 1 by omega]; exact if_pos ⟨by omega, d34, by omega⟩) ((js_fp.st (by decide)).P hP1) (by rw [js_st_s]; simp [upd]) (hN1.st (by decide)) (⟨hf.1.tr (js_fp.st (by decide)), by rw [js_st_s]; simp [upd]; exact hf.2.1, by rw [js_st_s]; simp [upd]; exact hf.2.2⟩) (by omega)
                  · skip
                    refine js_goto (pc := 56) (tgt := 77) F dX1_readNumber_56 (by decide) ?_
                    refine js_aload_n (pc := 77) 0 F rfl dX1_readNumber_77 ?_
                    refine js_iload_n (pc := 78) 1 F rfl dX1_readNumber_78 ?_
                    refine js_callv (pc := 79) F (c_X1_keepNumber _ hy (G := G1) (m := ns.length) (v := v) hN1.1 hn8) mf_X1_keepNumber gX1_readNumber_X1_keepNumber rfl (by decide) (by decide) (js_ct_P) rfl rfl rfl (Nat.le_of_ble_eq_true rfl) dX1_readNumber_79 ?_
                    rintro G9 hG9
                    refine js_iconst (pc := 82) (v := nI (1)) F (by decide) dX1_readNumber_82 ?_
                    refine js_iret (pc := 83) F hr (rfl) ?_ dX1_readNumber_83
                    refine Or.inr ⟨v, b, ?_, rfl, ?_, ?_, ?_, ?_, ?_⟩
                    · unfold jp_num; rw [if_pos d1, hm]; first | (rw [show 80 - k = 0 by omega]; rfl) | (rw [show 80 - k = (80 - (k + 1)) + 1 by omega]; exact congrArg some (if_neg (fun z => by first | (exact absurd z.1 (by omega)) | (exact d34 z.2.1) | (have := z.2.2; omega))))
                    · rw [← hG9, js_st_s]; simp only [upd]; rw [if_neg (by decide), js_st_n (by decide)]; exact hb
                    · rw [← hG9]; exact hN1.push
                    · rw [← hG9]; exact hf.1.tr (js_fp.tr js_fp.stn (js_fp.st (by decide)))
                    · rw [← hG9, js_st_s]; simp only [upd]; rw [if_neg (by decide), js_st_n (by decide)]; exact hf.2.1
                    · rw [← hG9, js_st_s]; simp only [upd]; rw [if_neg (by decide), js_st_n (by decide)]; exact hf.2.2
              · skip
                refine js_if_lt (pc := 37) (tgt := 77) F dX1_readNumber_37 (by decide) (fun _ => ?_) (fun h37 => absurd (by decide) h37)
                refine js_aload_n (pc := 77) 0 F rfl dX1_readNumber_77 ?_
                refine js_iload_n (pc := 78) 1 F rfl dX1_readNumber_78 ?_
                refine js_callv (pc := 79) F (c_X1_keepNumber _ hy (G := G1) (m := ns.length) (v := v) hN1.1 hn8) mf_X1_keepNumber gX1_readNumber_X1_keepNumber rfl (by decide) (by decide) (js_ct_P) rfl rfl rfl (Nat.le_of_ble_eq_true rfl) dX1_readNumber_79 ?_
                rintro G9 hG9
                refine js_iconst (pc := 82) (v := nI (1)) F (by decide) dX1_readNumber_82 ?_
                refine js_iret (pc := 83) F hr (rfl) ?_ dX1_readNumber_83
                refine Or.inr ⟨v, b, ?_, rfl, ?_, ?_, ?_, ?_, ?_⟩
                · unfold jp_num; rw [if_pos d1, hm]; first | (rw [show 80 - k = 0 by omega]; rfl) | (rw [show 80 - k = (80 - (k + 1)) + 1 by omega]; exact congrArg some (if_neg (fun z => by first | (exact absurd z.1 (by omega)) | (exact d34 z.2.1) | (have := z.2.2; omega))))
                · rw [← hG9, js_st_s]; simp only [upd]; rw [if_neg (by decide), js_st_n (by decide)]; exact hb
                · rw [← hG9]; exact hN1.push
                · rw [← hG9]; exact hf.1.tr (js_fp.tr js_fp.stn (js_fp.st (by decide)))
                · rw [← hG9, js_st_s]; simp only [upd]; rw [if_neg (by decide), js_st_n (by decide)]; exact hf.2.1
                · rw [← hG9, js_st_s]; simp only [upd]; rw [if_neg (by decide), js_st_n (by decide)]; exact hf.2.2
      exact L23 (_ + 1) 1 (jq p (a) - 48) (a + 1) (js_st G (187) (2) (nI (a + 1))) (by decide) (by decide) (by have := d1b; omega) (jq_lt (by omega)) (rfl) ((js_fp.st (by decide)).P hP) (by rw [js_st_s]; simp [upd]) (hN.st (by decide)) (⟨js_fp.st (by decide), by rw [js_st_s]; simp [upd], by rw [js_st_s]; simp [upd]⟩) (Nat.lt_succ_self _)
    · skip
      refine js_iconst (pc := 9) (v := nI (0)) F (by decide) dX1_readNumber_9 ?_
      refine js_iret (pc := 10) F hr (rfl) ?_ dX1_readNumber_10
      exact Or.inl ⟨if_neg d1, rfl, rfl⟩
  · skip
    refine js_istore_n (pc := 4) (lv2 := [(0, .ref (js_ad y (187))), (1, .int (-1))]) F dX1_readNumber_4 (by decide) [1, 0] rfl ?_
    refine js_iload_n (pc := 5) 1 F rfl dX1_readNumber_5 ?_
    refine js_if_ge (pc := 6) (tgt := 11) F dX1_readNumber_6 (by decide) (fun h6 => absurd h6 (by decide)) (fun _ => ?_)
    refine js_iconst (pc := 9) (v := nI (0)) F (by decide) dX1_readNumber_9 ?_
    refine js_iret (pc := 10) F hr (rfl) ?_ dX1_readNumber_10
    exact Or.inl ⟨if_neg d1, rfl, rfl⟩
