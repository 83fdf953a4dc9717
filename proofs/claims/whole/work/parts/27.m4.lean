theorem in_X5_character_5 : ∀ w ∈ wsX50, w ∈ wsX5_character := by decide +kernel
theorem lk_X5_character_fieldLink_RX5_173_JoinedSketchesModel_padLength_I : Cond.fieldLink RX5 173 "JoinedSketchesModel" "padLength" "I" ∈ wsX5_character := by decide +kernel
theorem lk_X5_character_fieldLink_RX5_22_JoinedSketchesModel_pad_I : Cond.fieldLink RX5 22 "JoinedSketchesModel" "pad" "[I" ∈ wsX5_character := by decide +kernel
theorem mf_X5_character : js_M yX5_character cX5_character 2 (some .int) wsX5_character 1 := ⟨⟨_, rfl⟩, by decide +kernel, by decide +kernel, by decide +kernel, by decide +kernel⟩
set_option maxHeartbeats 4000000 in
set_option maxRecDepth 100000 in
theorem c_X5_character (la : Launch) {y : js_L} (hy : js_Dy y) {G : js_G} {p : List Nat} (hP : mr_P G p) {a : Nat} (ha2 : a < 2 ^ 31) : js_Ci la y yX5_character wsX5_character 1 12 [.ref (js_ad y (191)), .int (nI (a))] G (fun r G' => ((a < p.length ∧ r = nI (jq p a)) ∨ (¬ a < p.length ∧ r = -1)) ∧ G = G') := by
  have hpl := hP.2.1
  refine js_ofi mf_X5_character (Nat.le_of_ble_eq_true rfl) hy (fun X F hr => ?_)
  replace F : js_F X y cX5_character 2 RX5 wsX5_character 1 12 := F
  show js_W X y 2 _ G 0 [(0, .ref (js_ad y (191))), (1, .int (nI (a)))] []
  refine js_iload_n (pc := 0) 1 F rfl dX5_character_0 ?_
  refine js_aload_n (pc := 1) 0 F rfl dX5_character_1 ?_
  refine jg_M_padLength (pc := 2) (v := nI (p.length)) F in_X5_character_5 (lk_X5_character_fieldLink_RX5_173_JoinedSketchesModel_padLength_I) (hP.1) dX5_character_2 ?_
  refine js_icmp_geN (pc := 5) (a := a) (b := p.length) (tgt := 17) F (by omega) (by omega) dX5_character_5 (by decide) (fun h5 => ?_) (fun h5 => ?_)
  · skip
    refine js_iconst (pc := 17) (v := (-1)) F (by decide) dX5_character_17 ?_
    refine js_iret (pc := 18) F hr (rfl) ?_ dX5_character_18
    exact ⟨Or.inr ⟨by omega, rfl⟩, rfl⟩
  · skip
    refine js_aload_n (pc := 8) 0 F rfl dX5_character_8 ?_
    refine jg_M_pad (pc := 9) F in_X5_character_5 (lk_X5_character_fieldLink_RX5_22_JoinedSketchesModel_pad_I) dX5_character_9 ?_
    refine js_iload_n (pc := 12) 1 F rfl dX5_character_12 ?_
    refine js_iald (pc := 13) (j := a) (v := nI (jq p (a))) F (by decide) (js_ct_Mp) rfl (by omega) (by decide) (hP.at (by omega)) dX5_character_13 ?_
    refine js_goto (pc := 14) (tgt := 18) F dX5_character_14 (by decide) ?_
    refine js_iret (pc := 18) F hr (rfl) ?_ dX5_character_18
    exact ⟨Or.inl ⟨by omega, rfl⟩, rfl⟩
theorem in_X5_isNext_5 : ∀ w ∈ wsX50, w ∈ wsX5_isNext := by decide +kernel
theorem lk_X5_isNext_fieldLink_RX5_184_JoinedSketchesModel_at_I : Cond.fieldLink RX5 184 "JoinedSketchesModel" "at" "I" ∈ wsX5_isNext := by decide +kernel
theorem mf_X5_isNext : js_M yX5_isNext cX5_isNext 3 (some .boolean) wsX5_isNext 1 := ⟨⟨_, rfl⟩, by decide +kernel, by decide +kernel, by decide +kernel, by decide +kernel⟩
set_option maxHeartbeats 4000000 in
set_option maxRecDepth 100000 in
theorem c_X5_isNext (la : Launch) {y : js_L} (hy : js_Dy y) {G : js_G} {p : List Nat} (hP : mr_P G p) {a : Nat} (ha : G 191 8 = nI a) (ha2 : a < 2 ^ 30) {w : Nat} (hw : 1 ≤ w) (hw2 : w ≤ 126) : js_Ci la y yX5_isNext wsX5_isNext 2 33 [.ref (js_ad y (191)), .int (nI (w))] G (fun r G' => (jq p a = w ∧ r = nI 1 ∧ js_st G 191 8 (nI (a + 1)) = G') ∨ (¬ jq p a = w ∧ r = nI 0 ∧ G = G')) := by
  have hpl := hP.2.1
  have hq := hP.q a
  refine js_ofi mf_X5_isNext (Nat.le_of_ble_eq_true rfl) hy (fun X F hr => ?_)
  replace F : js_F X y cX5_isNext 3 RX5 wsX5_isNext 2 33 := F
  show js_W X y 3 _ G 0 [(0, .ref (js_ad y (191))), (1, .int (nI (w)))] []
  refine js_aload_n (pc := 0) 0 F rfl dX5_isNext_0 ?_
  refine js_aload_n (pc := 1) 0 F rfl dX5_isNext_1 ?_
  refine jg_M_at (pc := 2) (v := nI (a)) F in_X5_isNext_5 (lk_X5_isNext_fieldLink_RX5_184_JoinedSketchesModel_at_I) (ha) dX5_isNext_2 ?_
  refine js_calli (pc := 5) F (c_X5_character _ hy (G := G) (p := p) (hP) (a := a) (by omega)) mf_X5_character gX5_isNext_X5_character rfl (by decide) (by decide) (js_ct_M) rfl rfl rfl (Nat.le_of_ble_eq_true rfl) dX5_isNext_5 ?_
  rintro _ _ ⟨⟨c5, rfl⟩ | ⟨c5, rfl⟩, rfl⟩
  · skip
    refine js_iload_n (pc := 8) 1 F rfl dX5_isNext_8 ?_
    refine js_icmp_neN (pc := 9) (a := jq p (a)) (b := w) (tgt := 16) F (by omega) (by omega) dX5_isNext_9 (by decide) (fun h9 => ?_) (fun h9 => ?_)
    · skip
      refine js_iconst (pc := 16) (v := nI (0)) F (by decide) dX5_isNext_16 ?_
      refine js_istore_n (pc := 17) (lv2 := [(0, .ref (js_ad y (191))), (1, .int (nI (w))), (2, .int (nI (0)))]) F dX5_isNext_17 (by decide) [1, 2, 0] rfl ?_
      refine js_aload_n (pc := 18) 0 F rfl dX5_isNext_18 ?_
      refine js_dup (pc := 19) rfl F dX5_isNext_19 ?_
      refine jg_M_at (pc := 20) (v := nI (a)) F in_X5_isNext_5 (lk_X5_isNext_fieldLink_RX5_184_JoinedSketchesModel_at_I) (ha) dX5_isNext_20 ?_
      refine js_iload_n (pc := 23) 2 F rfl dX5_isNext_23 ?_
      refine js_if_eqN (pc := 24) (a := 0) (tgt := 31) F (by decide) dX5_isNext_24 (by decide) (fun _ => ?_) (fun h24 => by exfalso; revert h24; decide)
      refine js_iconst (pc := 31) (v := nI (0)) F (by decide) dX5_isNext_31 ?_
      refine js_iaddN (pc := 32) (a := a) (b := 0) F dX5_isNext_32 ?_
      refine jp_M_at (pc := 33) (v := nI (a + 0)) F in_X5_isNext_5 (lk_X5_isNext_fieldLink_RX5_184_JoinedSketchesModel_at_I) dX5_isNext_33 ?_
      refine js_iload_n (pc := 36) 2 F rfl dX5_isNext_36 ?_
      refine js_iret (pc := 37) F hr (rfl) ?_ dX5_isNext_37
      first | exact Or.inr ⟨h9, rfl, (js_st_id ha).symm⟩ | exact Or.inr ⟨by rw [jr_P.q0 (by omega)]; omega, rfl, (js_st_id ha).symm⟩
    · skip
      refine js_iconst (pc := 12) (v := nI (1)) F (by decide) dX5_isNext_12 ?_
      refine js_goto (pc := 13) (tgt := 17) F dX5_isNext_13 (by decide) ?_
      refine js_istore_n (pc := 17) (lv2 := [(0, .ref (js_ad y (191))), (1, .int (nI (w))), (2, .int (nI (1)))]) F dX5_isNext_17 (by decide) [1, 2, 0] rfl ?_
      refine js_aload_n (pc := 18) 0 F rfl dX5_isNext_18 ?_
      refine js_dup (pc := 19) rfl F dX5_isNext_19 ?_
      refine jg_M_at (pc := 20) (v := nI (a)) F in_X5_isNext_5 (lk_X5_isNext_fieldLink_RX5_184_JoinedSketchesModel_at_I) (ha) dX5_isNext_20 ?_
      refine js_iload_n (pc := 23) 2 F rfl dX5_isNext_23 ?_
      refine js_if_eqN (pc := 24) (a := 1) (tgt := 31) F (by decide) dX5_isNext_24 (by decide) (fun h24 => by exfalso; revert h24; decide) (fun _ => ?_)
      refine js_iconst (pc := 27) (v := nI (1)) F (by decide) dX5_isNext_27 ?_
      refine js_goto (pc := 28) (tgt := 32) F dX5_isNext_28 (by decide) ?_
      refine js_iaddN (pc := 32) (a := a) (b := 1) F dX5_isNext_32 ?_
      refine jp_M_at (pc := 33) (v := nI (a + 1)) F in_X5_isNext_5 (lk_X5_isNext_fieldLink_RX5_184_JoinedSketchesModel_at_I) dX5_isNext_33 ?_
      refine js_iload_n (pc := 36) 2 F rfl dX5_isNext_36 ?_
      refine js_iret (pc := 37) F hr (rfl) ?_ dX5_isNext_37
      first | exact Or.inl ⟨h9, rfl, rfl⟩ | exact (jn_ne1 (by omega) h9.symm).elim
  · skip
    refine js_iload_n (pc := 8) 1 F rfl dX5_isNext_8 ?_
    refine js_icmp_ne (pc := 9) (tgt := 16) F dX5_isNext_9 (by decide) (fun h9 => ?_) (fun h9 => ?_)
    · skip
      refine js_iconst (pc := 16) (v := nI (0)) F (by decide) dX5_isNext_16 ?_
      refine js_istore_n (pc := 17) (lv2 := [(0, .ref (js_ad y (191))), (1, .int (nI (w))), (2, .int (nI (0)))]) F dX5_isNext_17 (by decide) [1, 2, 0] rfl ?_
      refine js_aload_n (pc := 18) 0 F rfl dX5_isNext_18 ?_
      refine js_dup (pc := 19) rfl F dX5_isNext_19 ?_
      refine jg_M_at (pc := 20) (v := nI (a)) F in_X5_isNext_5 (lk_X5_isNext_fieldLink_RX5_184_JoinedSketchesModel_at_I) (ha) dX5_isNext_20 ?_
      refine js_iload_n (pc := 23) 2 F rfl dX5_isNext_23 ?_
      refine js_if_eqN (pc := 24) (a := 0) (tgt := 31) F (by decide) dX5_isNext_24 (by decide) (fun _ => ?_) (fun h24 => by exfalso; revert h24; decide)
      refine js_iconst (pc := 31) (v := nI (0)) F (by decide) dX5_isNext_31 ?_
      refine js_iaddN (pc := 32) (a := a) (b := 0) F dX5_isNext_32 ?_
      refine jp_M_at (pc := 33) (v := nI (a + 0)) F in_X5_isNext_5 (lk_X5_isNext_fieldLink_RX5_184_JoinedSketchesModel_at_I) dX5_isNext_33 ?_
      refine js_iload_n (pc := 36) 2 F rfl dX5_isNext_36 ?_
      refine js_iret (pc := 37) F hr (rfl) ?_ dX5_isNext_37
      first | exact Or.inr ⟨h9, rfl, (js_st_id ha).symm⟩ | exact Or.inr ⟨by rw [jr_P.q0 (by omega)]; omega, rfl, (js_st_id ha).symm⟩
    · skip
      refine js_iconst (pc := 12) (v := nI (1)) F (by decide) dX5_isNext_12 ?_
      refine js_goto (pc := 13) (tgt := 17) F dX5_isNext_13 (by decide) ?_
      refine js_istore_n (pc := 17) (lv2 := [(0, .ref (js_ad y (191))), (1, .int (nI (w))), (2, .int (nI (1)))]) F dX5_isNext_17 (by decide) [1, 2, 0] rfl ?_
      refine js_aload_n (pc := 18) 0 F rfl dX5_isNext_18 ?_
      refine js_dup (pc := 19) rfl F dX5_isNext_19 ?_
      refine jg_M_at (pc := 20) (v := nI (a)) F in_X5_isNext_5 (lk_X5_isNext_fieldLink_RX5_184_JoinedSketchesModel_at_I) (ha) dX5_isNext_20 ?_
      refine js_iload_n (pc := 23) 2 F rfl dX5_isNext_23 ?_
      refine js_if_eqN (pc := 24) (a := 1) (tgt := 31) F (by decide) dX5_isNext_24 (by decide) (fun h24 => by exfalso; revert h24; decide) (fun _ => ?_)
      refine js_iconst (pc := 27) (v := nI (1)) F (by decide) dX5_isNext_27 ?_
      refine js_goto (pc := 28) (tgt := 32) F dX5_isNext_28 (by decide) ?_
      refine js_iaddN (pc := 32) (a := a) (b := 1) F dX5_isNext_32 ?_
      refine jp_M_at (pc := 33) (v := nI (a + 1)) F in_X5_isNext_5 (lk_X5_isNext_fieldLink_RX5_184_JoinedSketchesModel_at_I) dX5_isNext_33 ?_
      refine js_iload_n (pc := 36) 2 F rfl dX5_isNext_36 ?_
      refine js_iret (pc := 37) F hr (rfl) ?_ dX5_isNext_37
      first | exact Or.inl ⟨h9, rfl, rfl⟩ | exact (jn_ne1 (by omega) h9.symm).elim
theorem in_X5_takeDigit_5 : ∀ w ∈ wsX50, w ∈ wsX5_takeDigit := by decide +kernel
theorem lk_X5_takeDigit_fieldLink_RX5_184_JoinedSketchesModel_at_I : Cond.fieldLink RX5 184 "JoinedSketchesModel" "at" "I" ∈ wsX5_takeDigit := by decide +kernel
theorem mf_X5_takeDigit : js_M yX5_takeDigit cX5_takeDigit 3 (some .int) wsX5_takeDigit 1 := ⟨⟨_, rfl⟩, by decide +kernel, by decide +kernel, by decide +kernel, by decide +kernel⟩
set_option maxHeartbeats 4000000 in
set_option maxRecDepth 100000 in
theorem c_X5_takeDigit (la : Launch) {y : js_L} (hy : js_Dy y) {G : js_G} {p : List Nat} (hP : mr_P G p) {a : Nat} (ha : G 191 8 = nI a) (ha2 : a < 2 ^ 30) {m : Nat} (hm : m ≤ 9) : js_Ci la y yX5_takeDigit wsX5_takeDigit 2 34 [.ref (js_ad y (191)), .int (nI (m))] G (fun r G' => ((48 ≤ jq p a ∧ jq p a ≤ 48 + m) ∧ r = nI (jq p a - 48) ∧ js_st G 191 8 (nI (a + 1)) = G') ∨ (¬ (48 ≤ jq p a ∧ jq p a ≤ 48 + m) ∧ r = -1 ∧ G = G')) := by
  have hpl := hP.2.1
  have hq := hP.q a
  refine js_ofi mf_X5_takeDigit (Nat.le_of_ble_eq_true rfl) hy (fun X F hr => ?_)
  replace F : js_F X y cX5_takeDigit 3 RX5 wsX5_takeDigit 2 34 := F
  show js_W X y 3 _ G 0 [(0, .ref (js_ad y (191))), (1, .int (nI (m)))] []
  refine js_aload_n (pc := 0) 0 F rfl dX5_takeDigit_0 ?_
  refine js_aload_n (pc := 1) 0 F rfl dX5_takeDigit_1 ?_
  refine jg_M_at (pc := 2) (v := nI (a)) F in_X5_takeDigit_5 (lk_X5_takeDigit_fieldLink_RX5_184_JoinedSketchesModel_at_I) (ha) dX5_takeDigit_2 ?_
  refine js_calli (pc := 5) F (c_X5_character _ hy (G := G) (p := p) (hP) (a := a) (by omega)) mf_X5_character gX5_takeDigit_X5_character rfl (by decide) (by decide) (js_ct_M) rfl rfl rfl (Nat.le_of_ble_eq_true rfl) dX5_takeDigit_5 ?_
  rintro _ _ ⟨⟨c5, rfl⟩ | ⟨c5, rfl⟩, rfl⟩
  · skip
    refine js_bipush (pc := 8) (v := nI (48)) F (by decide) dX5_takeDigit_8 ?_
    refine js_isub (pc := 10) F dX5_takeDigit_10 ?_
    refine js_istore_n (pc := 11) (lv2 := [(0, .ref (js_ad y (191))), (1, .int (nI (m))), (2, .int ((nI (jq p (a))) - (nI (48))))]) F dX5_takeDigit_11 (by decide) [1, 2, 0] rfl ?_
    refine js_iload_n (pc := 12) 2 F rfl dX5_takeDigit_12 ?_
    refine js_iconst (pc := 13) (v := nI (0)) F (by decide) dX5_takeDigit_13 ?_
    refine js_iload_n (pc := 14) 1 F rfl dX5_takeDigit_14 ?_
    refine js_callsi (pc := 15) F (c_X5_within _ hy (v := (nI (jq p (a))) - (nI (48))) (lo := nI 0) (hi := nI (m))) mf_X5_within gX5_takeDigit_X5_within (by decide) rfl rfl (Nat.le_of_ble_eq_true rfl) dX5_takeDigit_15 ?_
    rintro _ _ ⟨rfl, rfl⟩
    rw [jw_digi hq hm]
    refine js_if_neB (pc := 18) (tgt := 23) F dX5_takeDigit_18 (by decide) (fun h18 => ?_) (fun h18 => ?_)
    · skip
      refine js_aload_n (pc := 23) 0 F rfl dX5_takeDigit_23 ?_
      refine js_dup (pc := 24) rfl F dX5_takeDigit_24 ?_
      refine jg_M_at (pc := 25) (v := nI (a)) F in_X5_takeDigit_5 (lk_X5_takeDigit_fieldLink_RX5_184_JoinedSketchesModel_at_I) (ha) dX5_takeDigit_25 ?_
      refine js_iconst (pc := 28) (v := nI (1)) F (by decide) dX5_takeDigit_28 ?_
      refine js_iaddN (pc := 29) (a := a) (b := 1) F dX5_takeDigit_29 ?_
      refine jp_M_at (pc := 30) (v := nI (a + 1)) F in_X5_takeDigit_5 (lk_X5_takeDigit_fieldLink_RX5_184_JoinedSketchesModel_at_I) dX5_takeDigit_30 ?_
      refine js_iload_n (pc := 33) 2 F rfl dX5_takeDigit_33 ?_
      refine js_val (v := nI (jq p (a) - 48)) (pk_sub h18.1) ?_
      refine js_iret (pc := 34) F hr (rfl) ?_ dX5_takeDigit_34
      exact Or.inl ⟨h18, rfl, rfl⟩
    · skip
      refine js_iconst (pc := 21) (v := (-1)) F (by decide) dX5_takeDigit_21 ?_
      refine js_iret (pc := 22) F hr (rfl) ?_ dX5_takeDigit_22
      first | exact Or.inr ⟨h18, rfl, rfl⟩ | exact Or.inr ⟨by rw [jr_P.q0 (by omega)]; omega, rfl, rfl⟩
  · skip
    refine js_bipush (pc := 8) (v := nI (48)) F (by decide) dX5_takeDigit_8 ?_
    refine js_isub (pc := 10) F dX5_takeDigit_10 ?_
    refine js_istore_n (pc := 11) (lv2 := [(0, .ref (js_ad y (191))), (1, .int (nI (m))), (2, .int ((-1) - (nI (48))))]) F dX5_takeDigit_11 (by decide) [1, 2, 0] rfl ?_
    refine js_iload_n (pc := 12) 2 F rfl dX5_takeDigit_12 ?_
    refine js_iconst (pc := 13) (v := nI (0)) F (by decide) dX5_takeDigit_13 ?_
    refine js_iload_n (pc := 14) 1 F rfl dX5_takeDigit_14 ?_
    refine js_callsi (pc := 15) F (c_X5_within _ hy (v := (-1) - (nI (48))) (lo := nI 0) (hi := nI (m))) mf_X5_within gX5_takeDigit_X5_within (by decide) rfl rfl (Nat.le_of_ble_eq_true rfl) dX5_takeDigit_15 ?_
    rintro _ _ ⟨rfl, rfl⟩
    rw [if_neg jw_dig1]
    refine js_if_neN (pc := 18) (a := 0) (tgt := 23) F (by decide) dX5_takeDigit_18 (by decide) (fun h18 => by exfalso; revert h18; decide) (fun _ => ?_)
    refine js_iconst (pc := 21) (v := (-1)) F (by decide) dX5_takeDigit_21 ?_
    refine js_iret (pc := 22) F hr (rfl) ?_ dX5_takeDigit_22
    first | exact Or.inr ⟨h18, rfl, rfl⟩ | exact Or.inr ⟨by rw [jr_P.q0 (by omega)]; omega, rfl, rfl⟩
theorem in_X5_takesNumber_5 : ∀ w ∈ wsX50, w ∈ wsX5_takesNumber := by decide +kernel
theorem lk_X5_takesNumber_fieldLink_RX5_184_JoinedSketchesModel_at_I : Cond.fieldLink RX5 184 "JoinedSketchesModel" "at" "I" ∈ wsX5_takesNumber := by decide +kernel
theorem lk_X5_takesNumber_fieldLink_RX5_193_JoinedSketchesModel_numbersMany_I : Cond.fieldLink RX5 193 "JoinedSketchesModel" "numbersMany" "I" ∈ wsX5_takesNumber := by decide +kernel
theorem lk_X5_takesNumber_fieldLink_RX5_28_JoinedSketchesModel_numbers_I : Cond.fieldLink RX5 28 "JoinedSketchesModel" "numbers" "[I" ∈ wsX5_takesNumber := by decide +kernel
theorem mf_X5_takesNumber : js_M yX5_takesNumber cX5_takesNumber 2 (some .boolean) wsX5_takesNumber 0 := ⟨⟨_, rfl⟩, by decide +kernel, by decide +kernel, by decide +kernel, by decide +kernel⟩
set_option maxHeartbeats 4000000 in
set_option maxRecDepth 100000 in
theorem c_X5_takesNumber (la : Launch) {y : js_L} (hy : js_Dy y) {G : js_G} {p : List Nat} (hP : mr_P G p) {a : Nat} (ha : G 191 8 = nI a) (ha2 : a < 2 ^ 30) {ns : List Nat} (hN : mr_N G ns) (hnm : G 191 12 = nI ns.length) (hn8 : ns.length < 80) : js_Ci la y yX5_takesNumber wsX5_takesNumber 3 56 [.ref (js_ad y (191))] G (fun r G' => (jp_num p a = none ∧ r = nI 0 ∧ G' 191 8 = nI a ∧ mfN G G') ∨ (∃ v z, jp_num p a = some (v, z) ∧ r = nI 1 ∧ G' 191 8 = nI z ∧ mr_N G' (ns ++ [v]) ∧ G' 191 12 = nI (ns.length + 1) ∧ mfN G G')) := by
  have hpl := hP.2.1
  have hq := hP.q a
  refine js_ofi mf_X5_takesNumber (Nat.le_of_ble_eq_true rfl) hy (fun X F hr => ?_)
  replace F : js_F X y cX5_takesNumber 2 RX5 wsX5_takesNumber 3 56 := F
  show js_W X y 2 _ G 0 [(0, .ref (js_ad y (191)))] []
  refine js_aload_n (pc := 0) 0 F rfl dX5_takesNumber_0 ?_
  refine js_bipush (pc := 1) (v := nI (9)) F (by decide) dX5_takesNumber_1 ?_
  refine js_calli (pc := 3) F (c_X5_takeDigit _ hy (G := G) (p := p) (hP) (a := a) (ha) (by omega) (m := 9) (by decide)) mf_X5_takeDigit gX5_takesNumber_X5_takeDigit rfl (by decide) (by decide) (js_ct_M) rfl rfl rfl (Nat.le_of_ble_eq_true rfl) dX5_takesNumber_3 ?_
  rintro _ _ (⟨d3, rfl, rfl⟩ | ⟨d3, rfl, rfl⟩)
  · skip
    have d3a := d3.1; have d3b := d3.2
    refine js_istore_n (pc := 6) (lv2 := [(0, .ref (js_ad y (191))), (1, .int (nI (jq p (a) - 48)))]) F dX5_takesNumber_6 (by decide) [1, 0] rfl ?_
    have L7 : ∀ (fu7 : Nat) (k : Nat) (v : Nat) (b : Nat) (G1 : js_G) (hk1 : 1 ≤ k) (hbk : b = a + k) (hv : v < 100000) (hbp : b ≤ p.length) (hm : jp_more p 79 (jq p a - 48) (a + 1) = jp_more p (80 - k) v b) (hP1 : mr_P G1 p) (hb : G1 191 8 = nI b) (hN1 : mr_N G1 ns) (hnm1 : G1 191 12 = nI ns.length) (hf : mfN G G1) (hfu7 : p.length - b < fu7), js_W X y 2 (js_Qi X y (fun r G' => (jp_num p a = none ∧ r = nI 0 ∧ G' 191 8 = nI a ∧ mfN G G') ∨ (∃ v z, jp_num p a = some (v, z) ∧ r = nI 1 ∧ G' 191 8 = nI z ∧ mr_N G' (ns ++ [v]) ∧ G' 191 12 = nI (ns.length + 1) ∧ mfN G G'))) G1 7 [(0, .ref (js_ad y (191))), (1, .int (nI (v)))] [] := by
      intro fu7
      induction fu7 with
      | zero => intro k v b G1 hk1 hbk hv hbp hm hP1 hb hN1 hnm1 hf hfu7; exact absurd hfu7 (Nat.not_lt_zero _)
      | succ fu7 ih7 =>
        intro k v b G1 hk1 hbk hv hbp hm hP1 hb hN1 hnm1 hf hfu7
        refine js_iload_n (pc := 7) 1 F rfl dX5_takesNumber_7 ?_
        refine js_if_leN (pc := 8) (a := v) (tgt := 51) F (by first | omega | (have := d3b; omega)) dX5_takesNumber_8 (by decide) (fun h8 => ?_) (fun h8 => ?_)
        · skip
          refine js_aload_n (pc := 51) 0 F rfl dX5_takesNumber_51 ?_
          refine jg_M_numbers (pc := 52) F in_X5_takesNumber_5 (lk_X5_takesNumber_fieldLink_RX5_28_JoinedSketchesModel_numbers_I) dX5_takesNumber_52 ?_
          refine js_aload_n (pc := 55) 0 F rfl dX5_takesNumber_55 ?_
          refine jg_M_numbersMany (pc := 56) (v := nI (ns.length)) F in_X5_takesNumber_5 (lk_X5_takesNumber_fieldLink_RX5_193_JoinedSketchesModel_numbersMany_I) (hnm1) dX5_takesNumber_56 ?_
          refine js_iload_n (pc := 59) 1 F rfl dX5_takesNumber_59 ?_
          refine js_iast (pc := 60) (j := ns.length) F (by decide) (fun _ => js_ct_Mn) rfl (by omega) (by decide) dX5_takesNumber_60 ?_
          refine js_aload_n (pc := 61) 0 F rfl dX5_takesNumber_61 ?_
          refine js_dup (pc := 62) rfl F dX5_takesNumber_62 ?_
          refine jg_M_numbersMany (pc := 63) (v := nI (ns.length)) F in_X5_takesNumber_5 (lk_X5_takesNumber_fieldLink_RX5_193_JoinedSketchesModel_numbersMany_I) (by rw [js_st_n (by decide)]; all_goals exact (hnm1)) dX5_takesNumber_63 ?_
          refine js_iconst (pc := 66) (v := nI (1)) F (by decide) dX5_takesNumber_66 ?_
          refine js_iaddN (pc := 67) (a := ns.length) (b := 1) F dX5_takesNumber_67 ?_
          refine jp_M_numbersMany (pc := 68) (v := nI (ns.length + 1)) F in_X5_takesNumber_5 (lk_X5_takesNumber_fieldLink_RX5_193_JoinedSketchesModel_numbersMany_I) dX5_takesNumber_68 ?_
          refine js_iload_n (pc := 71) 1 F rfl dX5_takesNumber_71 ?_
          refine js_if_ltN (pc := 72) (a := v) (tgt := 79) F (by first | omega | (have := d3b; omega)) dX5_takesNumber_72 (by decide) (fun h72 => by exact absurd h72 (Nat.not_lt_zero _)) (fun h72 => ?_)
          refine js_iconst (pc := 75) (v := nI (1)) F (by decide) dX5_takesNumber_75 ?_
          refine js_goto (pc := 76) (tgt := 80) F dX5_takesNumber_76 (by decide) ?_
          refine js_iret (pc := 80) F hr (rfl) ?_ dX5_takesNumber_80
          refine Or.inr ⟨v, b, ?_, rfl, ?_, ?_, ?_, hf.tr ((mfN.n).tr mfN.m)⟩
          · unfold jp_num; rw [if_pos ⟨d3a, by omega⟩, hm]; rcases Nat.lt_or_ge k 80 with kk | kk; rotate_left; (rw [show 80 - k = 0 by omega]; rfl); (rw [show 80 - k = (80 - (k + 1)) + 1 by omega]; exact congrArg some (if_neg (fun z => by first | (exact absurd z.1 (by omega)) | (exact h33 z.2.1) | (have := z.2.2; omega) | (have h5 := jr_P.q0 (p := p) (a := b) (by omega); have := z.2.1.1; omega))))
          · rw [js_st_s]; exact (if_neg (by decide)).trans (by rw [js_st_n (by decide)]; exact hb)
          · exact (hN1.push).st
          · rw [js_st_s]; simp [upd]
        · skip
          refine js_iload_n (pc := 11) 1 F rfl dX5_takesNumber_11 ?_
          refine js_sipush (pc := 12) (v := nI (10000)) F (by decide) dX5_takesNumber_12 ?_
          refine js_icmp_geN (pc := 15) (a := v) (b := 10000) (tgt := 51) F (by first | omega | (have := d3b; omega)) (by decide) dX5_takesNumber_15 (by decide) (fun h15 => ?_) (fun h15 => ?_)
          · skip
            refine js_aload_n (pc := 51) 0 F rfl dX5_takesNumber_51 ?_
            refine jg_M_numbers (pc := 52) F in_X5_takesNumber_5 (lk_X5_takesNumber_fieldLink_RX5_28_JoinedSketchesModel_numbers_I) dX5_takesNumber_52 ?_
            refine js_aload_n (pc := 55) 0 F rfl dX5_takesNumber_55 ?_
            refine jg_M_numbersMany (pc := 56) (v := nI (ns.length)) F in_X5_takesNumber_5 (lk_X5_takesNumber_fieldLink_RX5_193_JoinedSketchesModel_numbersMany_I) (hnm1) dX5_takesNumber_56 ?_
            refine js_iload_n (pc := 59) 1 F rfl dX5_takesNumber_59 ?_
            refine js_iast (pc := 60) (j := ns.length) F (by decide) (fun _ => js_ct_Mn) rfl (by omega) (by decide) dX5_takesNumber_60 ?_
            refine js_aload_n (pc := 61) 0 F rfl dX5_takesNumber_61 ?_
            refine js_dup (pc := 62) rfl F dX5_takesNumber_62 ?_
            refine jg_M_numbersMany (pc := 63) (v := nI (ns.length)) F in_X5_takesNumber_5 (lk_X5_takesNumber_fieldLink_RX5_193_JoinedSketchesModel_numbersMany_I) (by rw [js_st_n (by decide)]; all_goals exact (hnm1)) dX5_takesNumber_63 ?_
            refine js_iconst (pc := 66) (v := nI (1)) F (by decide) dX5_takesNumber_66 ?_
            refine js_iaddN (pc := 67) (a := ns.length) (b := 1) F dX5_takesNumber_67 ?_
            refine jp_M_numbersMany (pc := 68) (v := nI (ns.length + 1)) F in_X5_takesNumber_5 (lk_X5_takesNumber_fieldLink_RX5_193_JoinedSketchesModel_numbersMany_I) dX5_takesNumber_68 ?_
            refine js_iload_n (pc := 71) 1 F rfl dX5_takesNumber_71 ?_
            refine js_if_ltN (pc := 72) (a := v) (tgt := 79) F (by first | omega | (have := d3b; omega)) dX5_takesNumber_72 (by decide) (fun h72 => by exact absurd h72 (Nat.not_lt_zero _)) (fun h72 => ?_)
            refine js_iconst (pc := 75) (v := nI (1)) F (by decide) dX5_takesNumber_75 ?_
            refine js_goto (pc := 76) (tgt := 80) F dX5_takesNumber_76 (by decide) ?_
            refine js_iret (pc := 80) F hr (rfl) ?_ dX5_takesNumber_80
            refine Or.inr ⟨v, b, ?_, rfl, ?_, ?_, ?_, hf.tr ((mfN.n).tr mfN.m)⟩
            · unfold jp_num; rw [if_pos ⟨d3a, by omega⟩, hm]; rcases Nat.lt_or_ge k 80 with kk | kk; rotate_left; (rw [show 80 - k = 0 by omega]; rfl); (rw [show 80 - k = (80 - (k + 1)) + 1 by omega]; exact congrArg some (if_neg (fun z => by first | (exact absurd z.1 (by omega)) | (exact h33 z.2.1) | (have := z.2.2; omega) | (have h5 := jr_P.q0 (p := p) (a := b) (by omega); have := z.2.1.1; omega))))
            · rw [js_st_s]; exact (if_neg (by decide)).trans (by rw [js_st_n (by decide)]; exact hb)
            · exact (hN1.push).st
            · rw [js_st_s]; simp [upd]
          · skip
            refine js_aload_n (pc := 18) 0 F rfl dX5_takesNumber_18 ?_
            refine js_aload_n (pc := 19) 0 F rfl dX5_takesNumber_19 ?_
            refine jg_M_at (pc := 20) (v := nI (b)) F in_X5_takesNumber_5 (lk_X5_takesNumber_fieldLink_RX5_184_JoinedSketchesModel_at_I) (hb) dX5_takesNumber_20 ?_
            refine js_calli (pc := 23) F (c_X5_character _ hy (G := G1) (p := p) (hP1) (a := b) (by omega)) mf_X5_character gX5_takesNumber_X5_character rfl (by decide) (by decide) (js_ct_M) rfl rfl rfl (Nat.le_of_ble_eq_true rfl) dX5_takesNumber_23 ?_
            rintro _ _ ⟨⟨c23, rfl⟩ | ⟨c23, rfl⟩, rfl⟩
            · skip
              refine js_bipush (pc := 26) (v := nI (48)) F (by decide) dX5_takesNumber_26 ?_
              refine js_bipush (pc := 28) (v := nI (57)) F (by decide) dX5_takesNumber_28 ?_
              refine js_callsi (pc := 30) F (c_X5_within _ hy (v := nI (jq p (b))) (lo := nI 48) (hi := nI 57)) mf_X5_within gX5_takesNumber_X5_within (by decide) rfl rfl (Nat.le_of_ble_eq_true rfl) dX5_takesNumber_30 ?_
              rintro _ _ ⟨rfl, rfl⟩
              rw [jw_di (by have := hP1.q b; omega) (by decide) (by decide)]
              refine js_if_eqB (pc := 33) (tgt := 51) F dX5_takesNumber_33 (by decide) (fun h33 => ?_) (fun h33 => ?_)
              · skip
                refine js_aload_n (pc := 51) 0 F rfl dX5_takesNumber_51 ?_
                refine jg_M_numbers (pc := 52) F in_X5_takesNumber_5 (lk_X5_takesNumber_fieldLink_RX5_28_JoinedSketchesModel_numbers_I) dX5_takesNumber_52 ?_
                refine js_aload_n (pc := 55) 0 F rfl dX5_takesNumber_55 ?_
                refine jg_M_numbersMany (pc := 56) (v := nI (ns.length)) F in_X5_takesNumber_5 (lk_X5_takesNumber_fieldLink_RX5_193_JoinedSketchesModel_numbersMany_I) (hnm1) dX5_takesNumber_56 ?_
                refine js_iload_n (pc := 59) 1 F rfl dX5_takesNumber_59 ?_
                refine js_iast (pc := 60) (j := ns.length) F (by decide) (fun _ => js_ct_Mn) rfl (by omega) (by decide) dX5_takesNumber_60 ?_
                refine js_aload_n (pc := 61) 0 F rfl dX5_takesNumber_61 ?_
                refine js_dup (pc := 62) rfl F dX5_takesNumber_62 ?_
                refine jg_M_numbersMany (pc := 63) (v := nI (ns.length)) F in_X5_takesNumber_5 (lk_X5_takesNumber_fieldLink_RX5_193_JoinedSketchesModel_numbersMany_I) (by rw [js_st_n (by decide)]; all_goals exact (hnm1)) dX5_takesNumber_63 ?_
                refine js_iconst (pc := 66) (v := nI (1)) F (by decide) dX5_takesNumber_66 ?_
                refine js_iaddN (pc := 67) (a := ns.length) (b := 1) F dX5_takesNumber_67 ?_
                refine jp_M_numbersMany (pc := 68) (v := nI (ns.length + 1)) F in_X5_takesNumber_5 (lk_X5_takesNumber_fieldLink_RX5_193_JoinedSketchesModel_numbersMany_I) dX5_takesNumber_68 ?_
                refine js_iload_n (pc := 71) 1 F rfl dX5_takesNumber_71 ?_
                refine js_if_ltN (pc := 72) (a := v) (tgt := 79) F (by first | omega | (have := d3b; omega)) dX5_takesNumber_72 (by decide) (fun h72 => by exact absurd h72 (Nat.not_lt_zero _)) (fun h72 => ?_)
                refine js_iconst (pc := 75) (v := nI (1)) F (by decide) dX5_takesNumber_75 ?_
                refine js_goto (pc := 76) (tgt := 80) F dX5_takesNumber_76 (by decide) ?_
                refine js_iret (pc := 80) F hr (rfl) ?_ dX5_takesNumber_80
                refine Or.inr ⟨v, b, ?_, rfl, ?_, ?_, ?_, hf.tr ((mfN.n).tr mfN.m)⟩
                · unfold jp_num; rw [if_pos ⟨d3a, by omega⟩, hm]; rcases Nat.lt_or_ge k 80 with kk | kk; rotate_left; (rw [show 80 - k = 0 by omega]; rfl); (rw [show 80 - k = (80 - (k + 1)) + 1 by omega]; exact congrArg some (if_neg (fun z => by first | (exact absurd z.1 (by omega)) | (exact h33 z.2.1) | (have := z.2.2; omega) | (have h5 := jr_P.q0 (p := p) (a := b) (by omega); have := z.2.1.1; omega))))
                · rw [js_st_s]; exact (if_neg (by decide)).trans (by rw [js_st_n (by decide)]; exact hb)
                · exact (hN1.push).st
                · rw [js_st_s]; simp [upd]
              · skip
                refine js_bipush (pc := 36) (v := nI (10)) F (by decide) dX5_takesNumber_36 ?_
                refine js_iload_n (pc := 38) 1 F rfl dX5_takesNumber_38 ?_
                refine js_imulN (pc := 39) (a := 10) (b := v) F dX5_takesNumber_39 ?_
                refine js_val (v := nI (v * 10)) (by rw [Nat.mul_comm]) ?_
                refine js_aload_n (pc := 40) 0 F rfl dX5_takesNumber_40 ?_
                refine js_bipush (pc := 41) (v := nI (9)) F (by decide) dX5_takesNumber_41 ?_
                refine js_calli (pc := 43) F (c_X5_takeDigit _ hy (G := G1) (p := p) (hP1) (a := b) (hb) (by omega) (m := 9) (by decide)) mf_X5_takeDigit gX5_takesNumber_X5_takeDigit rfl (by decide) (by decide) (js_ct_M) rfl rfl rfl (Nat.le_of_ble_eq_true rfl) dX5_takesNumber_43 ?_
                rintro _ _ (⟨d43, rfl, rfl⟩ | ⟨d43, _, _⟩)
                rotate_left
                · exact absurd h33 d43
                refine js_iaddN (pc := 46) (a := v * 10) (b := jq p (b) - 48) F dX5_takesNumber_46 ?_
                refine js_istore_n (pc := 47) (lv2 := [(0, .ref (js_ad y (191))), (1, .int (nI ((v * 10) + (jq p (b) - 48))))]) F dX5_takesNumber_47 (by decide) [1, 0] rfl ?_
                refine js_goto (pc := 48) (tgt := 7) F dX5_takesNumber_48 (by decide) ?_
                exact ih7 (k + 1) ((v * 10) + (jq p (b) - 48)) (b + 1) (js_st G1 (191) (8) (nI (b + 1))) (by omega) (by omega) (by omega) (by omega) (by rw [hm, show 80 - k = (80 - (k + 1)) + 1 by omega]; exact if_pos ⟨by omega, h33, by omega⟩) (mfN.P mfN.a hP1) (by rw [js_st_s]; simp [upd]) (hN1.st) (by rw [js_st_s]; exact (if_neg (by decide)).trans hnm1) (hf.tr mfN.a) (by omega)
            · skip
              refine js_bipush (pc := 26) (v := nI (48)) F (by decide) dX5_takesNumber_26 ?_
              refine js_bipush (pc := 28) (v := nI (57)) F (by decide) dX5_takesNumber_28 ?_
              refine js_callsi (pc := 30) F (c_X5_within _ hy (v := (-1)) (lo := nI 48) (hi := nI 57)) mf_X5_within gX5_takesNumber_X5_within (by decide) rfl rfl (Nat.le_of_ble_eq_true rfl) dX5_takesNumber_30 ?_
              rintro _ _ ⟨rfl, rfl⟩
              rw [if_neg jw_d1]
              refine js_if_eqN (pc := 33) (a := 0) (tgt := 51) F (by decide) dX5_takesNumber_33 (by decide) (fun _ => ?_) (fun h33 => by exfalso; revert h33; decide)
              refine js_aload_n (pc := 51) 0 F rfl dX5_takesNumber_51 ?_
              refine jg_M_numbers (pc := 52) F in_X5_takesNumber_5 (lk_X5_takesNumber_fieldLink_RX5_28_JoinedSketchesModel_numbers_I) dX5_takesNumber_52 ?_
              refine js_aload_n (pc := 55) 0 F rfl dX5_takesNumber_55 ?_
              refine jg_M_numbersMany (pc := 56) (v := nI (ns.length)) F in_X5_takesNumber_5 (lk_X5_takesNumber_fieldLink_RX5_193_JoinedSketchesModel_numbersMany_I) (hnm1) dX5_takesNumber_56 ?_
              refine js_iload_n (pc := 59) 1 F rfl dX5_takesNumber_59 ?_
              refine js_iast (pc := 60) (j := ns.length) F (by decide) (fun _ => js_ct_Mn) rfl (by omega) (by decide) dX5_takesNumber_60 ?_
              refine js_aload_n (pc := 61) 0 F rfl dX5_takesNumber_61 ?_
              refine js_dup (pc := 62) rfl F dX5_takesNumber_62 ?_
              refine jg_M_numbersMany (pc := 63) (v := nI (ns.length)) F in_X5_takesNumber_5 (lk_X5_takesNumber_fieldLink_RX5_193_JoinedSketchesModel_numbersMany_I) (by rw [js_st_n (by decide)]; all_goals exact (hnm1)) dX5_takesNumber_63 ?_
              refine js_iconst (pc := 66) (v := nI (1)) F (by decide) dX5_takesNumber_66 ?_
              refine js_iaddN (pc := 67) (a := ns.length) (b := 1) F dX5_takesNumber_67 ?_
              refine jp_M_numbersMany (pc := 68) (v := nI (ns.length + 1)) F in_X5_takesNumber_5 (lk_X5_takesNumber_fieldLink_RX5_193_JoinedSketchesModel_numbersMany_I) dX5_takesNumber_68 ?_
              refine js_iload_n (pc := 71) 1 F rfl dX5_takesNumber_71 ?_
              refine js_if_ltN (pc := 72) (a := v) (tgt := 79) F (by first | omega | (have := d3b; omega)) dX5_takesNumber_72 (by decide) (fun h72 => by exact absurd h72 (Nat.not_lt_zero _)) (fun h72 => ?_)
              refine js_iconst (pc := 75) (v := nI (1)) F (by decide) dX5_takesNumber_75 ?_
              refine js_goto (pc := 76) (tgt := 80) F dX5_takesNumber_76 (by decide) ?_
              refine js_iret (pc := 80) F hr (rfl) ?_ dX5_takesNumber_80
              refine Or.inr ⟨v, b, ?_, rfl, ?_, ?_, ?_, hf.tr ((mfN.n).tr mfN.m)⟩
              · unfold jp_num; rw [if_pos ⟨d3a, by omega⟩, hm]; rcases Nat.lt_or_ge k 80 with kk | kk; rotate_left; (rw [show 80 - k = 0 by omega]; rfl); (rw [show 80 - k = (80 - (k + 1)) + 1 by omega]; exact congrArg some (if_neg (fun z => by first | (exact absurd z.1 (by omega)) | (exact h33 z.2.1) | (have := z.2.2; omega) | (have h5 := jr_P.q0 (p := p) (a := b) (by omega); have := z.2.1.1; omega))))
              · rw [js_st_s]; exact (if_neg (by decide)).trans (by rw [js_st_n (by decide)]; exact hb)
              · exact (hN1.push).st
              · rw [js_st_s]; simp [upd]
    exact L7 (_ + 1) 1 (jq p (a) - 48) (a + 1) (js_st G (191) (8) (nI (a + 1))) (by decide) (rfl) (by omega) (jq_lt (by omega)) (rfl) (mfN.P mfN.a hP) (by rw [js_st_s]; simp [upd]) (hN.st) (by rw [js_st_s]; exact (if_neg (by decide)).trans hnm) (mfN.a) (Nat.lt_succ_self _)
  · skip
    refine js_istore_n (pc := 6) (lv2 := [(0, .ref (js_ad y (191))), (1, .int ((-1)))]) F dX5_takesNumber_6 (by decide) [1, 0] rfl ?_
    refine js_iload_n (pc := 7) 1 F rfl dX5_takesNumber_7 ?_
    refine js_if_le (pc := 8) (tgt := 51) F dX5_takesNumber_8 (by decide) (fun _ => ?_) (fun h8 => absurd (by decide) h8)
    refine js_aload_n (pc := 51) 0 F rfl dX5_takesNumber_51 ?_
    refine jg_M_numbers (pc := 52) F in_X5_takesNumber_5 (lk_X5_takesNumber_fieldLink_RX5_28_JoinedSketchesModel_numbers_I) dX5_takesNumber_52 ?_
    refine js_aload_n (pc := 55) 0 F rfl dX5_takesNumber_55 ?_
    refine jg_M_numbersMany (pc := 56) (v := nI (ns.length)) F in_X5_takesNumber_5 (lk_X5_takesNumber_fieldLink_RX5_193_JoinedSketchesModel_numbersMany_I) (hnm) dX5_takesNumber_56 ?_
    refine js_iload_n (pc := 59) 1 F rfl dX5_takesNumber_59 ?_
    refine js_iast (pc := 60) (j := ns.length) F (by decide) (fun _ => js_ct_Mn) rfl (by omega) (by decide) dX5_takesNumber_60 ?_
    refine js_aload_n (pc := 61) 0 F rfl dX5_takesNumber_61 ?_
    refine js_dup (pc := 62) rfl F dX5_takesNumber_62 ?_
    refine jg_M_numbersMany (pc := 63) (v := nI (ns.length)) F in_X5_takesNumber_5 (lk_X5_takesNumber_fieldLink_RX5_193_JoinedSketchesModel_numbersMany_I) (by rw [js_st_n (by decide)]; all_goals exact (hnm)) dX5_takesNumber_63 ?_
    refine js_iconst (pc := 66) (v := nI (1)) F (by decide) dX5_takesNumber_66 ?_
    refine js_iaddN (pc := 67) (a := ns.length) (b := 1) F dX5_takesNumber_67 ?_
    refine jp_M_numbersMany (pc := 68) (v := nI (ns.length + 1)) F in_X5_takesNumber_5 (lk_X5_takesNumber_fieldLink_RX5_193_JoinedSketchesModel_numbersMany_I) dX5_takesNumber_68 ?_
    refine js_iload_n (pc := 71) 1 F rfl dX5_takesNumber_71 ?_
    refine js_if_lt (pc := 72) (tgt := 79) F dX5_takesNumber_72 (by decide) (fun _ => ?_) (fun h72 => absurd (by decide) h72)
    refine js_iconst (pc := 79) (v := nI (0)) F (by decide) dX5_takesNumber_79 ?_
    refine js_iret (pc := 80) F hr (rfl) ?_ dX5_takesNumber_80
    exact Or.inl ⟨if_neg d3, rfl, by simp [js_st_s, js_st_n, upd]; exact ha, (mfN.n).tr mfN.m⟩
theorem in_X5_readsRest_5 : ∀ w ∈ wsX50, w ∈ wsX5_readsRest := by decide +kernel
theorem lk_X5_readsRest_fieldLink_RX5_184_JoinedSketchesModel_at_I : Cond.fieldLink RX5 184 "JoinedSketchesModel" "at" "I" ∈ wsX5_readsRest := by decide +kernel
theorem lk_X5_readsRest_fieldLink_RX5_196_JoinedSketchesModel_letter_I : Cond.fieldLink RX5 196 "JoinedSketchesModel" "letter" "I" ∈ wsX5_readsRest := by decide +kernel
theorem lk_X5_readsRest_fieldLink_RX5_28_JoinedSketchesModel_numbers_I : Cond.fieldLink RX5 28 "JoinedSketchesModel" "numbers" "[I" ∈ wsX5_readsRest := by decide +kernel
theorem mf_X5_readsRest : js_M yX5_readsRest cX5_readsRest 2 (some .boolean) wsX5_readsRest 0 := ⟨⟨_, rfl⟩, by decide +kernel, by decide +kernel, by decide +kernel, by decide +kernel⟩
set_option maxHeartbeats 4000000 in
set_option maxRecDepth 100000 in
theorem c_X5_readsRest_1 (la : Launch) {y : js_L} (hy : js_Dy y) {G : js_G} {p : List Nat} (hP : mr_P G p) {a : Nat} (hs : jp_s (jq p a)) (ha : G 191 8 = nI (a + 1 + 1)) (ha2 : a < p.length) (h0 : G 191 12 = nI 0) (h10 : G 191 10 = nI (jq p (a + 1))) : js_Ci la y yX5_readsRest wsX5_readsRest 4 77 [.ref (js_ad y (191))] G (fun r G' => mp_post (jp_ord p a) (jq p (a + 1)) r G G') := by
  have hpl := hP.2.1
  have hq := hP.q a
  have hq1 := hP.q (a + 1)
  have hq2 := hP.q (a + 1 + 1)
  refine js_ofi mf_X5_readsRest (Nat.le_of_ble_eq_true rfl) hy (fun X F hr => ?_)
  replace F : js_F X y cX5_readsRest 2 RX5 wsX5_readsRest 4 77 := F
  show js_W X y 2 _ G 0 [(0, .ref (js_ad y (191)))] []
  refine js_aload_n (pc := 0) 0 F rfl dX5_readsRest_0 ?_
  refine jg_M_letter (pc := 1) (v := nI (jq p (a + 1))) F in_X5_readsRest_5 (lk_X5_readsRest_fieldLink_RX5_196_JoinedSketchesModel_letter_I) (h10) dX5_readsRest_1 ?_
  rcases (show jq p (a + 1) = 58 ∨ jq p (a + 1) = 38 ∨ jq p (a + 1) = 42 ∨ jq p (a + 1) = 33 ∨ jq p (a + 1) = 47 ∨ (jq p (a + 1) ≠ 58 ∧ jq p (a + 1) ≠ 38 ∧ jq p (a + 1) ≠ 42 ∧ jq p (a + 1) ≠ 33 ∧ jq p (a + 1) ≠ 47) by omega) with v4 | v4 | v4 | v4 | v4 | v4
  · skip
    refine js_lookup (pc := 4) (off := 52) (tgt := 56) F dX5_readsRest_4 (by decide) (by rw [v4]; decide) (by decide) ?_
    refine js_aload_n (pc := 56) 0 F rfl dX5_readsRest_56 ?_
    refine js_calli (pc := 57) F (c_X5_takesNumber _ hy (G := G) (p := p) (hP) (a := a + 1 + 1) (ha) (by omega) (ns := []) (mr_N.nil) (h0) (by decide)) mf_X5_takesNumber gX5_readsRest_X5_takesNumber rfl (by decide) (by decide) (js_ct_M) rfl rfl rfl (Nat.le_of_ble_eq_true rfl) dX5_readsRest_57 ?_
    rintro _ G57 (⟨n57, rfl, b57, f57⟩ | ⟨v57, z57, n57, rfl, b57, N57, m57, f57⟩)
    · skip
      have P57 := f57.P (hP)
      refine js_istore_n (pc := 60) (lv2 := [(0, .ref (js_ad y (191))), (1, .int (nI (0)))]) F dX5_readsRest_60 (by decide) [1, 0] rfl ?_
      refine js_iload_n (pc := 61) 1 F rfl dX5_readsRest_61 ?_
      refine js_if_eqN (pc := 62) (a := 0) (tgt := 82) F (by decide) dX5_readsRest_62 (by decide) (fun _ => ?_) (fun h62 => by exfalso; revert h62; decide)
      refine js_iload_n (pc := 82) 1 F rfl dX5_readsRest_82 ?_
      refine js_iret (pc := 83) F hr (rfl) ?_ dX5_readsRest_83
      first
        | (refine mp_post_of ((jp_ord_t hs v4).trans (hm.trans (if_pos a68))) ?_; rw [show 80 - k = (80 - (k + 1)) + 1 by omega, jp_things_no n75]; exact ⟨rfl, b75, fun z => (by cases z), (hf.tr mfN.a).tr f75⟩)
        | exact mp_post_of ((jp_ord_t hs v4).trans (jp_things_no n57)) ⟨rfl, b57, fun z => (by cases z), f57⟩
    · skip
      have P57 := f57.P (hP)
      obtain ⟨k57a, k57b, k57c⟩ := jp_num_le n57
      refine js_istore_n (pc := 60) (lv2 := [(0, .ref (js_ad y (191))), (1, .int (nI (1)))]) F dX5_readsRest_60 (by decide) [1, 0] rfl ?_
      have L61 : ∀ (fu61 : Nat) (k : Nat) (z : Nat) (ns : List Nat) (G1 : js_G) (hl : ns.length = k) (hk : k < z) (hz : z ≤ p.length) (hm : jp_things p 80 (a + 1 + 1) [] = if jq p z = 44 then jp_things p (80 - k) (z + 1) ns else (true, z, ns)) (hP1 : mr_P G1 p) (hb : G1 191 8 = nI z) (hN1 : mr_N G1 ns) (hnm1 : G1 191 12 = nI ns.length) (hf : mfN G G1) (hfu61 : 80 - k < fu61), js_W X y 2 (js_Qi X y (fun r G' => mp_post (jp_ord p a) (jq p (a + 1)) r G G')) G1 61 [(0, .ref (js_ad y (191))), (1, .int (nI (1)))] [] := by
        intro fu61
        induction fu61 with
        | zero => intro k z ns G1 hl hk hz hm hP1 hb hN1 hnm1 hf hfu61; exact absurd hfu61 (Nat.not_lt_zero _)
        | succ fu61 ih61 =>
          intro k z ns G1 hl hk hz hm hP1 hb hN1 hnm1 hf hfu61
          refine js_iload_n (pc := 61) 1 F rfl dX5_readsRest_61 ?_
          refine js_if_eqN (pc := 62) (a := 1) (tgt := 82) F (by decide) dX5_readsRest_62 (by decide) (fun h62 => by exfalso; revert h62; decide) (fun _ => ?_)
          refine js_aload_n (pc := 65) 0 F rfl dX5_readsRest_65 ?_
          refine js_bipush (pc := 66) (v := nI (44)) F (by decide) dX5_readsRest_66 ?_
          refine js_calli (pc := 68) F (c_X5_isNext _ hy (G := G1) (p := p) (hP1) (a := z) (hb) (by omega) (w := 44) (by decide) (by decide)) mf_X5_isNext gX5_readsRest_X5_isNext rfl (by decide) (by decide) (js_ct_M) rfl rfl rfl (Nat.le_of_ble_eq_true rfl) dX5_readsRest_68 ?_
          rintro _ _ (⟨a68, rfl, rfl⟩ | ⟨a68, rfl, rfl⟩)
          · skip
            refine js_if_eqN (pc := 71) (a := 1) (tgt := 82) F (by decide) dX5_readsRest_71 (by decide) (fun h71 => by exfalso; revert h71; decide) (fun _ => ?_)
            refine js_aload_n (pc := 74) 0 F rfl dX5_readsRest_74 ?_
            refine js_calli (pc := 75) F (c_X5_takesNumber _ hy (G := (js_st G1 (191) (8) (nI (z + 1)))) (p := p) (mr_P.mfX (hP1) (mfX.st (by decide) (by decide))) (a := z + 1) (by rw [js_st_s]; simp [upd]) (by omega) (ns := ns) (hN1.st) (by rw [js_st_s, upd, if_neg (by decide)]; all_goals exact (hnm1)) (by omega)) mf_X5_takesNumber gX5_readsRest_X5_takesNumber rfl (by decide) (by decide) (js_ct_M) rfl rfl rfl (Nat.le_of_ble_eq_true rfl) dX5_readsRest_75 ?_
            rintro _ G75 (⟨n75, rfl, b75, f75⟩ | ⟨v75, z75, n75, rfl, b75, N75, m75, f75⟩)
            · skip
              have P75 := f75.P (mr_P.mfX (hP1) (mfX.st (by decide) (by decide)))
              refine js_istore_n (pc := 78) (lv2 := [(0, .ref (js_ad y (191))), (1, .int (nI (0)))]) F dX5_readsRest_78 (by decide) [1, 0] rfl ?_
              refine js_goto (pc := 79) (tgt := 61) F dX5_readsRest_79 (by decide) ?_
              refine js_iload_n (pc := 61) 1 F rfl dX5_readsRest_61 ?_
              refine js_if_eqN (pc := 62) (a := 0) (tgt := 82) F (by decide) dX5_readsRest_62 (by decide) (fun _ => ?_) (fun h62 => by exfalso; revert h62; decide)
              refine js_iload_n (pc := 82) 1 F rfl dX5_readsRest_82 ?_
              refine js_iret (pc := 83) F hr (rfl) ?_ dX5_readsRest_83
              first
                | (refine mp_post_of ((jp_ord_t hs v4).trans (hm.trans (if_pos a68))) ?_; rw [show 80 - k = (80 - (k + 1)) + 1 by omega, jp_things_no n75]; exact ⟨rfl, b75, fun z => (by cases z), (hf.tr mfN.a).tr f75⟩)
                | exact mp_post_of ((jp_ord_t hs v4).trans (jp_things_no n57)) ⟨rfl, b57, fun z => (by cases z), f57⟩
            · skip
              have P75 := f75.P (mr_P.mfX (hP1) (mfX.st (by decide) (by decide)))
              obtain ⟨k75a, k75b, k75c⟩ := jp_num_le n75
              refine js_istore_n (pc := 78) (lv2 := [(0, .ref (js_ad y (191))), (1, .int (nI (1)))]) F dX5_readsRest_78 (by decide) [1, 0] rfl ?_
              refine js_goto (pc := 79) (tgt := 61) F dX5_readsRest_79 (by decide) ?_
              exact ih61 (k + 1) z75 (ns ++ [v75]) G75 (by simp; omega) (by omega) (by omega) (by rw [hm, if_pos a68, show 80 - k = (80 - (k + 1)) + 1 by omega]; exact jp_things_s n75) (P75) (b75) (N75) (by rw [m75]; simp) ((hf.tr mfN.a).tr f75) (by omega)
          · skip
            refine js_if_eqN (pc := 71) (a := 0) (tgt := 82) F (by decide) dX5_readsRest_71 (by decide) (fun _ => ?_) (fun h71 => by exfalso; revert h71; decide)
            refine js_iload_n (pc := 82) 1 F rfl dX5_readsRest_82 ?_
            refine js_iret (pc := 83) F hr (rfl) ?_ dX5_readsRest_83
            exact mp_post_of ((jp_ord_t hs v4).trans (hm.trans (if_neg a68))) ⟨rfl, hb, fun _ => ⟨hN1, fun _ => hnm1⟩, hf⟩
      exact L61 (_ + 1) 1 z57 ([v57]) G57 (rfl) (by omega) (by omega) (jp_things_s n57) (P57) (b57) (N57) (m57) (f57) (Nat.lt_succ_self _)
  · skip
    refine js_lookup (pc := 4) (off := 80) (tgt := 84) F dX5_readsRest_4 (by decide) (by rw [v4]; decide) (by decide) ?_
    refine js_aload_n (pc := 84) 0 F rfl dX5_readsRest_84 ?_
    refine jg_M_numbers (pc := 85) F in_X5_readsRest_5 (lk_X5_readsRest_fieldLink_RX5_28_JoinedSketchesModel_numbers_I) dX5_readsRest_85 ?_
    refine js_iconst (pc := 88) (v := nI (0)) F (by decide) dX5_readsRest_88 ?_
    refine js_aload_n (pc := 89) 0 F rfl dX5_readsRest_89 ?_
    refine js_iconst (pc := 90) (v := nI (5)) F (by decide) dX5_readsRest_90 ?_
    refine js_calli (pc := 91) F (c_X5_takeDigit _ hy (G := G) (p := p) (hP) (a := a + 1 + 1) (ha) (by omega) (m := 5) (by decide)) mf_X5_takeDigit gX5_readsRest_X5_takeDigit rfl (by decide) (by decide) (js_ct_M) rfl rfl rfl (Nat.le_of_ble_eq_true rfl) dX5_readsRest_91 ?_
    rintro _ _ (⟨d91, rfl, rfl⟩ | ⟨d91, rfl, rfl⟩)
    · skip
      have d91a := d91.1; have d91b := d91.2
      refine js_iast (pc := 94) (j := 0) F (by decide) (fun _ => js_ct_Mn) rfl (by omega) (by decide) dX5_readsRest_94 ?_
      refine js_aload_n (pc := 95) 0 F rfl dX5_readsRest_95 ?_
      refine jg_M_numbers (pc := 96) F in_X5_readsRest_5 (lk_X5_readsRest_fieldLink_RX5_28_JoinedSketchesModel_numbers_I) dX5_readsRest_96 ?_
      refine js_iconst (pc := 99) (v := nI (0)) F (by decide) dX5_readsRest_99 ?_
      refine js_iald (pc := 100) (j := 0) (v := nI (jq p (a + 1 + 1) - 48)) F (by decide) (js_ct_Mn) rfl (by omega) (by decide) (by rw [js_st_s]; simp [upd]) dX5_readsRest_100 ?_
      refine js_if_ltN (pc := 101) (a := jq p (a + 1 + 1) - 48) (tgt := 108) F (by omega) dX5_readsRest_101 (by decide) (fun h101 => by exact absurd h101 (Nat.not_lt_zero _)) (fun h101 => ?_)
      refine js_iconst (pc := 104) (v := nI (1)) F (by decide) dX5_readsRest_104 ?_
      refine js_goto (pc := 105) (tgt := 109) F dX5_readsRest_105 (by decide) ?_
      refine js_iret (pc := 109) F hr (rfl) ?_ dX5_readsRest_109
      rw [show jp_ord p a = jp_oth p (a + 1 + 1) from jp_ord_o hs v4]
      unfold jp_oth
      rw [if_pos ⟨d91a, by omega⟩]
      refine ⟨rfl, by simp [js_st_s, js_st_n, upd], fun _ => ⟨fun k hk => ?_, fun q => by omega⟩, (mfN.a).tr mfN.n⟩
      have e : k = 0 := by (simp at hk; omega)
      subst e; simp [js_st_s, upd]
    · skip
      refine js_iast (pc := 94) (j := 0) F (by decide) (fun _ => js_ct_Mn) rfl (by omega) (by decide) dX5_readsRest_94 ?_
      refine js_aload_n (pc := 95) 0 F rfl dX5_readsRest_95 ?_
      refine jg_M_numbers (pc := 96) F in_X5_readsRest_5 (lk_X5_readsRest_fieldLink_RX5_28_JoinedSketchesModel_numbers_I) dX5_readsRest_96 ?_
      refine js_iconst (pc := 99) (v := nI (0)) F (by decide) dX5_readsRest_99 ?_
      refine js_iald (pc := 100) (j := 0) (v := (-1)) F (by decide) (js_ct_Mn) rfl (by omega) (by decide) (by rw [js_st_s]; simp [upd]) dX5_readsRest_100 ?_
      refine js_if_lt (pc := 101) (tgt := 108) F dX5_readsRest_101 (by decide) (fun _ => ?_) (fun h101 => absurd (by decide) h101)
      refine js_iconst (pc := 108) (v := nI (0)) F (by decide) dX5_readsRest_108 ?_
      refine js_iret (pc := 109) F hr (rfl) ?_ dX5_readsRest_109
      rw [show jp_ord p a = jp_oth p (a + 1 + 1) from jp_ord_o hs v4]
      unfold jp_oth
      rw [if_neg (fun z => d91 ⟨z.1, by have := z.2; omega⟩)]
      exact ⟨rfl, by rw [js_st_n (by decide)]; exact ha, fun z => (by cases z), mfN.n⟩
  · skip
    refine js_lookup (pc := 4) (off := 106) (tgt := 110) F dX5_readsRest_4 (by decide) (by rw [v4]; decide) (by decide) ?_
    refine js_aload_n (pc := 110) 0 F rfl dX5_readsRest_110 ?_
    refine js_calli (pc := 111) F (c_X5_takesNumber _ hy (G := G) (p := p) (hP) (a := a + 1 + 1) (ha) (by omega) (ns := []) (mr_N.nil) (h0) (by decide)) mf_X5_takesNumber gX5_readsRest_X5_takesNumber rfl (by decide) (by decide) (js_ct_M) rfl rfl rfl (Nat.le_of_ble_eq_true rfl) dX5_readsRest_111 ?_
    rintro _ G111 (⟨n111, rfl, b111, f111⟩ | ⟨v111, z111, n111, rfl, b111, N111, m111, f111⟩)
    · skip
      have P111 := f111.P (hP)
      refine js_if_eqN (pc := 114) (a := 0) (tgt := 137) F (by decide) dX5_readsRest_114 (by decide) (fun _ => ?_) (fun h114 => by exfalso; revert h114; decide)
      refine js_iconst (pc := 137) (v := nI (0)) F (by decide) dX5_readsRest_137 ?_
      refine js_iret (pc := 138) F hr (rfl) ?_ dX5_readsRest_138
      first
        | exact mp_post_of (jp_ord_r0 hs v4 n111) ⟨rfl, b111, fun z => (by cases z), f111⟩
        | exact mp_post_of (jp_ord_r1 hs v4 n111 a120) ⟨rfl, b111, fun z => (by cases z), f111⟩
        | exact mp_post_of (jp_ord_r2 hs v4 n111 a120 n127) ⟨rfl, b127, fun z => (by cases z), (f111.tr mfN.a).tr f127⟩
        | exact mp_post_of (jp_ord_r3 hs v4 n111 a120 n127) ⟨rfl, b127, fun _ => ⟨N127, fun q => by omega⟩, (f111.tr mfN.a).tr f127⟩
    · skip
      have P111 := f111.P (hP)
      obtain ⟨k111a, k111b, k111c⟩ := jp_num_le n111
      refine js_if_eqN (pc := 114) (a := 1) (tgt := 137) F (by decide) dX5_readsRest_114 (by decide) (fun h114 => by exfalso; revert h114; decide) (fun _ => ?_)
      refine js_aload_n (pc := 117) 0 F rfl dX5_readsRest_117 ?_
      refine js_bipush (pc := 118) (v := nI (43)) F (by decide) dX5_readsRest_118 ?_
      refine js_calli (pc := 120) F (c_X5_isNext _ hy (G := G111) (p := p) (P111) (a := z111) (b111) (by omega) (w := 43) (by decide) (by decide)) mf_X5_isNext gX5_readsRest_X5_isNext rfl (by decide) (by decide) (js_ct_M) rfl rfl rfl (Nat.le_of_ble_eq_true rfl) dX5_readsRest_120 ?_
      rintro _ _ (⟨a120, rfl, rfl⟩ | ⟨a120, rfl, rfl⟩)
      · skip
        refine js_if_eqN (pc := 123) (a := 1) (tgt := 137) F (by decide) dX5_readsRest_123 (by decide) (fun h123 => by exfalso; revert h123; decide) (fun _ => ?_)
        refine js_aload_n (pc := 126) 0 F rfl dX5_readsRest_126 ?_
        refine js_calli (pc := 127) F (c_X5_takesNumber _ hy (G := (js_st G111 (191) (8) (nI (z111 + 1)))) (p := p) (mr_P.mfX (P111) (mfX.st (by decide) (by decide))) (a := z111 + 1) (by rw [js_st_s]; simp [upd]) (by omega) (ns := [v111]) (mr_N.st N111) (by rw [js_st_s, upd, if_neg (by decide)]; all_goals exact (m111)) (by simp)) mf_X5_takesNumber gX5_readsRest_X5_takesNumber rfl (by decide) (by decide) (js_ct_M) rfl rfl rfl (Nat.le_of_ble_eq_true rfl) dX5_readsRest_127 ?_
        rintro _ G127 (⟨n127, rfl, b127, f127⟩ | ⟨v127, z127, n127, rfl, b127, N127, m127, f127⟩)
        · skip
          have P127 := f127.P (mr_P.mfX (P111) (mfX.st (by decide) (by decide)))
          refine js_if_eqN (pc := 130) (a := 0) (tgt := 137) F (by decide) dX5_readsRest_130 (by decide) (fun _ => ?_) (fun h130 => by exfalso; revert h130; decide)
          refine js_iconst (pc := 137) (v := nI (0)) F (by decide) dX5_readsRest_137 ?_
          refine js_iret (pc := 138) F hr (rfl) ?_ dX5_readsRest_138
          first
            | exact mp_post_of (jp_ord_r0 hs v4 n111) ⟨rfl, b111, fun z => (by cases z), f111⟩
            | exact mp_post_of (jp_ord_r1 hs v4 n111 a120) ⟨rfl, b111, fun z => (by cases z), f111⟩
            | exact mp_post_of (jp_ord_r2 hs v4 n111 a120 n127) ⟨rfl, b127, fun z => (by cases z), (f111.tr mfN.a).tr f127⟩
            | exact mp_post_of (jp_ord_r3 hs v4 n111 a120 n127) ⟨rfl, b127, fun _ => ⟨N127, fun q => by omega⟩, (f111.tr mfN.a).tr f127⟩
        · skip
          have P127 := f127.P (mr_P.mfX (P111) (mfX.st (by decide) (by decide)))
          obtain ⟨k127a, k127b, k127c⟩ := jp_num_le n127
          refine js_if_eqN (pc := 130) (a := 1) (tgt := 137) F (by decide) dX5_readsRest_130 (by decide) (fun h130 => by exfalso; revert h130; decide) (fun _ => ?_)
          refine js_iconst (pc := 133) (v := nI (1)) F (by decide) dX5_readsRest_133 ?_
          refine js_goto (pc := 134) (tgt := 138) F dX5_readsRest_134 (by decide) ?_
          refine js_iret (pc := 138) F hr (rfl) ?_ dX5_readsRest_138
          first
            | exact mp_post_of (jp_ord_r0 hs v4 n111) ⟨rfl, b111, fun z => (by cases z), f111⟩
            | exact mp_post_of (jp_ord_r1 hs v4 n111 a120) ⟨rfl, b111, fun z => (by cases z), f111⟩
            | exact mp_post_of (jp_ord_r2 hs v4 n111 a120 n127) ⟨rfl, b127, fun z => (by cases z), (f111.tr mfN.a).tr f127⟩
            | exact mp_post_of (jp_ord_r3 hs v4 n111 a120 n127) ⟨rfl, b127, fun _ => ⟨N127, fun q => by omega⟩, (f111.tr mfN.a).tr f127⟩
      · skip
        refine js_if_eqN (pc := 123) (a := 0) (tgt := 137) F (by decide) dX5_readsRest_123 (by decide) (fun _ => ?_) (fun h123 => by exfalso; revert h123; decide)
        refine js_iconst (pc := 137) (v := nI (0)) F (by decide) dX5_readsRest_137 ?_
        refine js_iret (pc := 138) F hr (rfl) ?_ dX5_readsRest_138
        first
          | exact mp_post_of (jp_ord_r0 hs v4 n111) ⟨rfl, b111, fun z => (by cases z), f111⟩
          | exact mp_post_of (jp_ord_r1 hs v4 n111 a120) ⟨rfl, b111, fun z => (by cases z), f111⟩
          | exact mp_post_of (jp_ord_r2 hs v4 n111 a120 n127) ⟨rfl, b127, fun z => (by cases z), (f111.tr mfN.a).tr f127⟩
          | exact mp_post_of (jp_ord_r3 hs v4 n111 a120 n127) ⟨rfl, b127, fun _ => ⟨N127, fun q => by omega⟩, (f111.tr mfN.a).tr f127⟩
  · skip
    refine js_lookup (pc := 4) (off := 135) (tgt := 139) F dX5_readsRest_4 (by decide) (by rw [v4]; decide) (by decide) ?_
    refine js_iconst (pc := 139) (v := nI (1)) F (by decide) dX5_readsRest_139 ?_
    refine js_iret (pc := 140) F hr (rfl) ?_ dX5_readsRest_140
    first | exact mp_post_of (jp_ord_e hs v4) ⟨rfl, ha, fun _ => ⟨mr_N.nil, fun q => by omega⟩, mfN.rf⟩ | exact mp_post_of (jp_ord_f hs v4) ⟨rfl, ha, fun _ => ⟨mr_N.nil, fun q => by omega⟩, mfN.rf⟩
  · skip
    refine js_lookup (pc := 4) (off := 135) (tgt := 139) F dX5_readsRest_4 (by decide) (by rw [v4]; decide) (by decide) ?_
    refine js_iconst (pc := 139) (v := nI (1)) F (by decide) dX5_readsRest_139 ?_
    refine js_iret (pc := 140) F hr (rfl) ?_ dX5_readsRest_140
    first | exact mp_post_of (jp_ord_e hs v4) ⟨rfl, ha, fun _ => ⟨mr_N.nil, fun q => by omega⟩, mfN.rf⟩ | exact mp_post_of (jp_ord_f hs v4) ⟨rfl, ha, fun _ => ⟨mr_N.nil, fun q => by omega⟩, mfN.rf⟩
  · skip
    refine js_lookup (pc := 4) (off := 137) (tgt := 141) F dX5_readsRest_4 (by decide) (show Op.lookupswitch.offset [(33, 135), (38, 80), (42, 106), (47, 135), (58, 52)] 137 (nI (jq p (a + 1))).toInt = 137 by rw [nI_toInt (by omega)]; simp only [Op.lookupswitch.offset]; repeat rw [if_neg (by omega)]) (by decide) ?_
    refine js_aload_n (pc := 141) 0 F rfl dX5_readsRest_141 ?_
    refine js_dup (pc := 142) rfl F dX5_readsRest_142 ?_
    refine jg_M_at (pc := 143) (v := nI (a + 1 + 1)) F in_X5_readsRest_5 (lk_X5_readsRest_fieldLink_RX5_184_JoinedSketchesModel_at_I) (ha) dX5_readsRest_143 ?_
    refine js_iconst (pc := 146) (v := nI (1)) F (by decide) dX5_readsRest_146 ?_
    refine js_isubN (pc := 147) (a := a + 1 + 1) (b := 1) F (by omega) dX5_readsRest_147 ?_
    refine js_val (v := nI (a + 1)) (rfl) ?_
    refine jp_M_at (pc := 148) (v := nI (a + 1)) F in_X5_readsRest_5 (lk_X5_readsRest_fieldLink_RX5_184_JoinedSketchesModel_at_I) dX5_readsRest_148 ?_
    refine js_iconst (pc := 151) (v := nI (0)) F (by decide) dX5_readsRest_151 ?_
    refine js_iret (pc := 152) F hr (rfl) ?_ dX5_readsRest_152
    exact mp_post_of (jp_ord_x hs v4) ⟨rfl, by simp [js_st_s, js_st_n, upd], fun z => (by cases z), mfN.a⟩
set_option maxHeartbeats 4000000 in
set_option maxRecDepth 100000 in
theorem c_X5_readsRest_2 (la : Launch) {y : js_L} (hy : js_Dy y) {G : js_G} {p : List Nat} (hP : mr_P G p) {a : Nat} (hs : jp_s (jq p a)) (ha : G 191 8 = nI (a + 1 + 1)) (ha2 : a < p.length) (h0 : G 191 12 = nI 0) (h10 : G 191 10 = -1) (hend : ¬ a + 1 < p.length) : js_Ci la y yX5_readsRest wsX5_readsRest 4 77 [.ref (js_ad y (191))] G (fun r G' => mp_post (jp_ord p a) (jq p (a + 1)) r G G') := by
  have hq1 := jr_P.q0 (p := p) (a := a + 1) (by omega)
  refine js_ofi mf_X5_readsRest (Nat.le_of_ble_eq_true rfl) hy (fun X F hr => ?_)
  replace F : js_F X y cX5_readsRest 2 RX5 wsX5_readsRest 4 77 := F
  show js_W X y 2 _ G 0 [(0, .ref (js_ad y (191)))] []
  refine js_aload_n (pc := 0) 0 F rfl dX5_readsRest_0 ?_
  refine jg_M_letter (pc := 1) (v := -1) F in_X5_readsRest_5 (lk_X5_readsRest_fieldLink_RX5_196_JoinedSketchesModel_letter_I) (h10) dX5_readsRest_1 ?_
  refine js_lookup (pc := 4) (off := 137) (tgt := 141) F dX5_readsRest_4 (by decide) (by decide) (by decide) ?_
  refine js_aload_n (pc := 141) 0 F rfl dX5_readsRest_141 ?_
  refine js_dup (pc := 142) rfl F dX5_readsRest_142 ?_
  refine jg_M_at (pc := 143) (v := nI (a + 1 + 1)) F in_X5_readsRest_5 (lk_X5_readsRest_fieldLink_RX5_184_JoinedSketchesModel_at_I) (ha) dX5_readsRest_143 ?_
  refine js_iconst (pc := 146) (v := nI (1)) F (by decide) dX5_readsRest_146 ?_
  refine js_isubN (pc := 147) (a := a + 1 + 1) (b := 1) F (by omega) dX5_readsRest_147 ?_
  refine js_val (v := nI (a + 1)) (rfl) ?_
  refine jp_M_at (pc := 148) (v := nI (a + 1)) F in_X5_readsRest_5 (lk_X5_readsRest_fieldLink_RX5_184_JoinedSketchesModel_at_I) dX5_readsRest_148 ?_
  refine js_iconst (pc := 151) (v := nI (0)) F (by decide) dX5_readsRest_151 ?_
  refine js_iret (pc := 152) F hr (rfl) ?_ dX5_readsRest_152
  exact mp_post_of (jp_ord_x hs (by omega)) ⟨rfl, by simp [js_st_s, js_st_n, upd], fun z => (by cases z), mfN.a⟩
theorem in_X5_readsOrder_5 : ∀ w ∈ wsX50, w ∈ wsX5_readsOrder := by decide +kernel
theorem lk_X5_readsOrder_fieldLink_RX5_184_JoinedSketchesModel_at_I : Cond.fieldLink RX5 184 "JoinedSketchesModel" "at" "I" ∈ wsX5_readsOrder := by decide +kernel
theorem lk_X5_readsOrder_fieldLink_RX5_193_JoinedSketchesModel_numbersMany_I : Cond.fieldLink RX5 193 "JoinedSketchesModel" "numbersMany" "I" ∈ wsX5_readsOrder := by decide +kernel
theorem lk_X5_readsOrder_fieldLink_RX5_196_JoinedSketchesModel_letter_I : Cond.fieldLink RX5 196 "JoinedSketchesModel" "letter" "I" ∈ wsX5_readsOrder := by decide +kernel
theorem lk_X5_readsOrder_fieldLink_RX5_206_JoinedSketchesModel_sketch_I : Cond.fieldLink RX5 206 "JoinedSketchesModel" "sketch" "I" ∈ wsX5_readsOrder := by decide +kernel
theorem mf_X5_readsOrder : js_M yX5_readsOrder cX5_readsOrder 1 (some .boolean) wsX5_readsOrder 0 := ⟨⟨_, rfl⟩, by decide +kernel, by decide +kernel, by decide +kernel, by decide +kernel⟩
set_option maxHeartbeats 4000000 in
set_option maxRecDepth 100000 in
theorem c_X5_readsOrder (la : Launch) {y : js_L} (hy : js_Dy y) {G : js_G} {p : List Nat} (hP : mr_P G p) {a : Nat} (ha : G 191 8 = nI a) (ha2 : a < 2 ^ 30) : js_Ci la y yX5_readsOrder wsX5_readsOrder 5 98 [.ref (js_ad y (191))] G (fun r G' => mp_po p a r G G') := by
  have hpl := hP.2.1
  have hq := hP.q a
  have hq1 := hP.q (a + 1)
  refine js_ofi mf_X5_readsOrder (Nat.le_of_ble_eq_true rfl) hy (fun X F hr => ?_)
  replace F : js_F X y cX5_readsOrder 1 RX5 wsX5_readsOrder 5 98 := F
  show js_W X y 1 _ G 0 [(0, .ref (js_ad y (191)))] []
  refine js_aload_n (pc := 0) 0 F rfl dX5_readsOrder_0 ?_
  refine js_iconst (pc := 1) (v := nI (0)) F (by decide) dX5_readsOrder_1 ?_
  refine jp_M_numbersMany (pc := 2) (v := nI (0)) F in_X5_readsOrder_5 (lk_X5_readsOrder_fieldLink_RX5_193_JoinedSketchesModel_numbersMany_I) dX5_readsOrder_2 ?_
  refine js_aload_n (pc := 5) 0 F rfl dX5_readsOrder_5 ?_
  refine js_aload_n (pc := 6) 0 F rfl dX5_readsOrder_6 ?_
  refine js_iconst (pc := 7) (v := nI (5)) F (by decide) dX5_readsOrder_7 ?_
  refine js_calli (pc := 8) F (c_X5_takeDigit _ hy (G := (js_st G (191) (12) (nI (0)))) (p := p) (mr_P.mfX (hP) (mfX.st (by decide) (by decide))) (a := a) (by rw [js_st_s, upd, if_neg (by decide)]; all_goals exact (ha)) (by omega) (m := 5) (by decide)) mf_X5_takeDigit gX5_readsOrder_X5_takeDigit rfl (by decide) (by decide) (js_ct_M) rfl rfl rfl (Nat.le_of_ble_eq_true rfl) dX5_readsOrder_8 ?_
  rintro _ _ (⟨d8, rfl, rfl⟩ | ⟨d8, rfl, rfl⟩)
  · skip
    have d8a := d8.1; have d8b := d8.2
    refine jp_M_sketch (pc := 11) (v := nI (jq p (a) - 48)) F in_X5_readsOrder_5 (lk_X5_readsOrder_fieldLink_RX5_206_JoinedSketchesModel_sketch_I) dX5_readsOrder_11 ?_
    refine js_aload_n (pc := 14) 0 F rfl dX5_readsOrder_14 ?_
    refine jg_M_sketch (pc := 15) (v := nI (jq p (a) - 48)) F in_X5_readsOrder_5 (lk_X5_readsOrder_fieldLink_RX5_206_JoinedSketchesModel_sketch_I) (by rw [js_st_s]; simp [upd]) dX5_readsOrder_15 ?_
    refine js_if_geN (pc := 18) (a := jq p (a) - 48) (tgt := 23) F (by omega) dX5_readsOrder_18 (by decide) (fun h18 => ?_) (fun h18 => by exact absurd h18 (Nat.not_lt_zero _))
    refine js_aload_n (pc := 23) 0 F rfl dX5_readsOrder_23 ?_
    refine js_aload_n (pc := 24) 0 F rfl dX5_readsOrder_24 ?_
    refine js_aload_n (pc := 25) 0 F rfl dX5_readsOrder_25 ?_
    refine jg_M_at (pc := 26) (v := nI (a + 1)) F in_X5_readsOrder_5 (lk_X5_readsOrder_fieldLink_RX5_184_JoinedSketchesModel_at_I) (by rw [js_st_s, upd, if_neg (by decide)]; all_goals exact (by rw [js_st_s]; simp [upd])) dX5_readsOrder_26 ?_
    refine js_calli (pc := 29) F (c_X5_character _ hy (G := (js_st (js_st (js_st G (191) (12) (nI (0))) (191) (8) (nI (a + 1))) (191) (9) (nI (jq p (a) - 48)))) (p := p) (mr_P.mfX (hP) (((mfX.st (by decide) (by decide)).tr (mfX.st (by decide) (by decide))).tr (mfX.st (by decide) (by decide)))) (a := a + 1) (by omega)) mf_X5_character gX5_readsOrder_X5_character rfl (by decide) (by decide) (js_ct_M) rfl rfl rfl (Nat.le_of_ble_eq_true rfl) dX5_readsOrder_29 ?_
    rintro _ _ ⟨⟨c29, rfl⟩ | ⟨c29, rfl⟩, rfl⟩
    · skip
      refine jp_M_letter (pc := 32) (v := nI (jq p (a + 1))) F in_X5_readsOrder_5 (lk_X5_readsOrder_fieldLink_RX5_196_JoinedSketchesModel_letter_I) dX5_readsOrder_32 ?_
      refine js_aload_n (pc := 35) 0 F rfl dX5_readsOrder_35 ?_
      refine js_dup (pc := 36) rfl F dX5_readsOrder_36 ?_
      refine jg_M_at (pc := 37) (v := nI (a + 1)) F in_X5_readsOrder_5 (lk_X5_readsOrder_fieldLink_RX5_184_JoinedSketchesModel_at_I) (by rw [js_st_s, upd, if_neg (by decide)]; all_goals exact (by rw [js_st_s, upd, if_neg (by decide)]; all_goals exact (by rw [js_st_s]; simp [upd]))) dX5_readsOrder_37 ?_
      refine js_iconst (pc := 40) (v := nI (1)) F (by decide) dX5_readsOrder_40 ?_
      refine js_iaddN (pc := 41) (a := a + 1) (b := 1) F dX5_readsOrder_41 ?_
      refine jp_M_at (pc := 42) (v := nI ((a + 1) + 1)) F in_X5_readsOrder_5 (lk_X5_readsOrder_fieldLink_RX5_184_JoinedSketchesModel_at_I) dX5_readsOrder_42 ?_
      refine js_aload_n (pc := 45) 0 F rfl dX5_readsOrder_45 ?_
      refine js_calli (pc := 46) F (c_X5_readsRest_1 _ hy (G := (js_st (js_st (js_st (js_st (js_st G (191) (12) (nI (0))) (191) (8) (nI (a + 1))) (191) (9) (nI (jq p (a) - 48))) (191) (10) (nI (jq p (a + 1)))) (191) (8) (nI ((a + 1) + 1)))) (p := p) (mr_P.mfX (hP) (((((mfX.st (by decide) (by decide)).tr (mfX.st (by decide) (by decide))).tr (mfX.st (by decide) (by decide))).tr (mfX.st (by decide) (by decide))).tr (mfX.st (by decide) (by decide)))) (a := a) ⟨d8a, by omega⟩ (by rw [js_st_s]; simp [upd]) (jq_lt (by omega)) (by rw [js_st_s, upd, if_neg (by decide)]; all_goals exact (by rw [js_st_s, upd, if_neg (by decide)]; all_goals exact (by rw [js_st_s, upd, if_neg (by decide)]; all_goals exact (by rw [js_st_s, upd, if_neg (by decide)]; all_goals exact (by rw [js_st_s]; simp [upd]))))) (by rw [js_st_s, upd, if_neg (by decide)]; all_goals exact (by rw [js_st_s]; simp [upd]))) mf_X5_readsRest gX5_readsOrder_X5_readsRest rfl (by decide) (by decide) (js_ct_M) rfl rfl rfl (Nat.le_of_ble_eq_true rfl) dX5_readsOrder_46 ?_
      rintro _ G46 ⟨rfl, e46, n46, f46⟩
      refine js_iret (pc := 49) F hr (jn_narB) ?_ dX5_readsOrder_49
      refine ⟨rfl, e46, fun z => ⟨(n46 z).1, (n46 z).2, ?_, ?_⟩, ((((mfX.st (by decide) (by decide)).tr (mfX.st (by decide) (by decide))).tr (mfX.st (by decide) (by decide))).tr ((mfX.st (by decide) (by decide)).tr (mfX.st (by decide) (by decide)))).tr f46.1⟩
      · rw [f46.2.1]; simp [js_st_s, upd]
      · first
        | (rw [f46.2.2]; simp [js_st_s, upd]; done)
        | (exfalso; rw [jp_ord_x (p := p) (a := a) ⟨d8a, by omega⟩ (by have := jr_P.q0 (p := p) (a := a + 1) (by omega); omega)] at z; cases z)
    · skip
      refine jp_M_letter (pc := 32) (v := (-1)) F in_X5_readsOrder_5 (lk_X5_readsOrder_fieldLink_RX5_196_JoinedSketchesModel_letter_I) dX5_readsOrder_32 ?_
      refine js_aload_n (pc := 35) 0 F rfl dX5_readsOrder_35 ?_
      refine js_dup (pc := 36) rfl F dX5_readsOrder_36 ?_
      refine jg_M_at (pc := 37) (v := nI (a + 1)) F in_X5_readsOrder_5 (lk_X5_readsOrder_fieldLink_RX5_184_JoinedSketchesModel_at_I) (by rw [js_st_s, upd, if_neg (by decide)]; all_goals exact (by rw [js_st_s, upd, if_neg (by decide)]; all_goals exact (by rw [js_st_s]; simp [upd]))) dX5_readsOrder_37 ?_
      refine js_iconst (pc := 40) (v := nI (1)) F (by decide) dX5_readsOrder_40 ?_
      refine js_iaddN (pc := 41) (a := a + 1) (b := 1) F dX5_readsOrder_41 ?_
      refine jp_M_at (pc := 42) (v := nI ((a + 1) + 1)) F in_X5_readsOrder_5 (lk_X5_readsOrder_fieldLink_RX5_184_JoinedSketchesModel_at_I) dX5_readsOrder_42 ?_
      refine js_aload_n (pc := 45) 0 F rfl dX5_readsOrder_45 ?_
      refine js_calli (pc := 46) F (c_X5_readsRest_2 _ hy (G := (js_st (js_st (js_st (js_st (js_st G (191) (12) (nI (0))) (191) (8) (nI (a + 1))) (191) (9) (nI (jq p (a) - 48))) (191) (10) ((-1))) (191) (8) (nI ((a + 1) + 1)))) (p := p) (mr_P.mfX (hP) (((((mfX.st (by decide) (by decide)).tr (mfX.st (by decide) (by decide))).tr (mfX.st (by decide) (by decide))).tr (mfX.st (by decide) (by decide))).tr (mfX.st (by decide) (by decide)))) (a := a) ⟨d8a, by omega⟩ (by rw [js_st_s]; simp [upd]) (jq_lt (by omega)) (by rw [js_st_s, upd, if_neg (by decide)]; all_goals exact (by rw [js_st_s, upd, if_neg (by decide)]; all_goals exact (by rw [js_st_s, upd, if_neg (by decide)]; all_goals exact (by rw [js_st_s, upd, if_neg (by decide)]; all_goals exact (by rw [js_st_s]; simp [upd]))))) (by rw [js_st_s, upd, if_neg (by decide)]; all_goals exact (by rw [js_st_s]; simp [upd])) (by omega)) mf_X5_readsRest gX5_readsOrder_X5_readsRest rfl (by decide) (by decide) (js_ct_M) rfl rfl rfl (Nat.le_of_ble_eq_true rfl) dX5_readsOrder_46 ?_
      rintro _ G46 ⟨rfl, e46, n46, f46⟩
      refine js_iret (pc := 49) F hr (jn_narB) ?_ dX5_readsOrder_49
      refine ⟨rfl, e46, fun z => ⟨(n46 z).1, (n46 z).2, ?_, ?_⟩, ((((mfX.st (by decide) (by decide)).tr (mfX.st (by decide) (by decide))).tr (mfX.st (by decide) (by decide))).tr ((mfX.st (by decide) (by decide)).tr (mfX.st (by decide) (by decide)))).tr f46.1⟩
      · rw [f46.2.1]; simp [js_st_s, upd]
      · first
        | (rw [f46.2.2]; simp [js_st_s, upd]; done)
        | (exfalso; rw [jp_ord_x (p := p) (a := a) ⟨d8a, by omega⟩ (by have := jr_P.q0 (p := p) (a := a + 1) (by omega); omega)] at z; cases z)
  · skip
    refine jp_M_sketch (pc := 11) (v := (-1)) F in_X5_readsOrder_5 (lk_X5_readsOrder_fieldLink_RX5_206_JoinedSketchesModel_sketch_I) dX5_readsOrder_11 ?_
    refine js_aload_n (pc := 14) 0 F rfl dX5_readsOrder_14 ?_
    refine jg_M_sketch (pc := 15) (v := (-1)) F in_X5_readsOrder_5 (lk_X5_readsOrder_fieldLink_RX5_206_JoinedSketchesModel_sketch_I) (by rw [js_st_s]; simp [upd]) dX5_readsOrder_15 ?_
    refine js_if_ge (pc := 18) (tgt := 23) F dX5_readsOrder_18 (by decide) (fun h18 => absurd h18 (by decide)) (fun _ => ?_)
    refine js_iconst (pc := 21) (v := nI (0)) F (by decide) dX5_readsOrder_21 ?_
    refine js_iret (pc := 22) F hr (rfl) ?_ dX5_readsOrder_22
    refine ⟨?_, ?_, fun z => ?_, (mfX.st (by decide) (by decide)).tr (mfX.st (by decide) (by decide))⟩
    · rw [show jp_ord p a = (false, a, []) from if_neg (fun z => d8 ⟨z.1, by have := z.2; omega⟩)]; rfl
    · rw [show jp_ord p a = (false, a, []) from if_neg (fun z => d8 ⟨z.1, by have := z.2; omega⟩)]; simp [js_st_s, upd]; exact ha
    · rw [show jp_ord p a = (false, a, []) from if_neg (fun z => d8 ⟨z.1, by have := z.2; omega⟩)] at z; cases z
theorem in_X5_findFault_5 : ∀ w ∈ wsX50, w ∈ wsX5_findFault := by decide +kernel
theorem lk_X5_findFault_fieldLink_RX5_173_JoinedSketchesModel_padLength_I : Cond.fieldLink RX5 173 "JoinedSketchesModel" "padLength" "I" ∈ wsX5_findFault := by decide +kernel
theorem lk_X5_findFault_fieldLink_RX5_184_JoinedSketchesModel_at_I : Cond.fieldLink RX5 184 "JoinedSketchesModel" "at" "I" ∈ wsX5_findFault := by decide +kernel
theorem mf_X5_findFault : js_M yX5_findFault cX5_findFault 1 (some .int) wsX5_findFault 0 := ⟨⟨_, rfl⟩, by decide +kernel, by decide +kernel, by decide +kernel, by decide +kernel⟩
set_option maxHeartbeats 4000000 in
set_option maxRecDepth 100000 in
theorem c_X5_findFault (la : Launch) {y : js_L} (hy : js_Dy y) {G : js_G} {p : List Nat} (hP : mr_P G p) : js_Ci la y yX5_findFault wsX5_findFault 6 118 [.ref (js_ad y (191))] G (fun r G' => r = jp_fa p ∧ mfX G G') := by
  have hpl := hP.2.1
  refine js_ofi mf_X5_findFault (Nat.le_of_ble_eq_true rfl) hy (fun X F hr => ?_)
  replace F : js_F X y cX5_findFault 1 RX5 wsX5_findFault 6 118 := F
  show js_W X y 1 _ G 0 [(0, .ref (js_ad y (191)))] []
  refine js_aload_n (pc := 0) 0 F rfl dX5_findFault_0 ?_
  refine js_iconst (pc := 1) (v := nI (0)) F (by decide) dX5_findFault_1 ?_
  refine jp_M_at (pc := 2) (v := nI (0)) F in_X5_findFault_5 (lk_X5_findFault_fieldLink_RX5_184_JoinedSketchesModel_at_I) dX5_findFault_2 ?_
  have L5 : ∀ (fu5 : Nat) (k : Nat) (b : Nat) (G1 : js_G) (hk : 3 * k ≤ b) (hb8 : b ≤ p.length) (hm : jp_fault p 80 0 = jp_fault p (80 - k) b) (hP1 : mr_P G1 p) (hb : G1 191 8 = nI b) (hf : mfX G G1) (hfu5 : 80 - k < fu5), js_W X y 1 (js_Qi X y (fun r G' => r = jp_fa p ∧ mfX G G')) G1 5 [(0, .ref (js_ad y (191)))] [] := by
    intro fu5
    induction fu5 with
    | zero => intro k b G1 hk hb8 hm hP1 hb hf hfu5; exact absurd hfu5 (Nat.not_lt_zero _)
    | succ fu5 ih5 =>
      intro k b G1 hk hb8 hm hP1 hb hf hfu5
      refine js_aload_n (pc := 5) 0 F rfl dX5_findFault_5 ?_
      refine js_calli (pc := 6) F (c_X5_readsOrder _ hy (G := G1) (p := p) (hP1) (a := b) (hb) (by omega)) mf_X5_readsOrder gX5_findFault_X5_readsOrder rfl (by decide) (by decide) (js_ct_M) rfl rfl rfl (Nat.le_of_ble_eq_true rfl) dX5_findFault_6 ?_
      rintro _ G6 ⟨rfl, e6, n6, f6⟩
      have P6 := mr_P.mfX (hP1) f6
      obtain ⟨l6a, l6b, l6c⟩ := jp_ord_le (p := p) (a := b) (by omega)
      refine js_if_neB (pc := 9) (tgt := 17) F dX5_findFault_9 (by decide) (fun h9 => ?_) (fun h9 => ?_)
      · skip
        refine js_aload_n (pc := 17) 0 F rfl dX5_findFault_17 ?_
        refine jg_M_at (pc := 18) (v := nI ((jp_ord p b).2.1)) F in_X5_findFault_5 (lk_X5_findFault_fieldLink_RX5_184_JoinedSketchesModel_at_I) (e6) dX5_findFault_18 ?_
        refine js_aload_n (pc := 21) 0 F rfl dX5_findFault_21 ?_
        refine jg_M_padLength (pc := 22) (v := nI (p.length)) F in_X5_findFault_5 (lk_X5_findFault_fieldLink_RX5_173_JoinedSketchesModel_padLength_I) (P6.1) dX5_findFault_22 ?_
        refine js_icmp_neN (pc := 25) (a := (jp_ord p b).2.1) (b := p.length) (tgt := 31) F (by omega) (by omega) dX5_findFault_25 (by decide) (fun h25 => ?_) (fun h25 => ?_)
        · skip
          refine js_aload_n (pc := 31) 0 F rfl dX5_findFault_31 ?_
          refine js_bipush (pc := 32) (v := nI (59)) F (by decide) dX5_findFault_32 ?_
          refine js_calli (pc := 34) F (c_X5_isNext _ hy (G := G6) (p := p) (P6) (a := (jp_ord p b).2.1) (e6) (by omega) (w := 59) (by decide) (by decide)) mf_X5_isNext gX5_findFault_X5_isNext rfl (by decide) (by decide) (js_ct_M) rfl rfl rfl (Nat.le_of_ble_eq_true rfl) dX5_findFault_34 ?_
          rintro _ _ (⟨a34, rfl, rfl⟩ | ⟨a34, rfl, rfl⟩)
          · skip
            refine js_if_neN (pc := 37) (a := 1) (tgt := 5) F (by decide) dX5_findFault_37 (by decide) (fun _ => ?_) (fun h37 => by exfalso; revert h37; decide)
            exact ih5 (k + 1) ((jp_ord p b).2.1 + 1) (js_st G6 (191) (8) (nI (((jp_ord p b).2.1) + 1))) (by have := l6c h9; omega) (jq_lt (by omega)) (by rw [hm, show 80 - k = (80 - (k + 1)) + 1 by omega, jp_fault_go h9 a34]) (mr_P.mfX P6 (mfX.st (by decide) (by decide))) (by rw [js_st_s]; simp [upd]) ((hf.tr f6).tr (mfX.st (by decide) (by decide))) (by omega)
          · skip
            refine js_if_neN (pc := 37) (a := 0) (tgt := 5) F (by decide) dX5_findFault_37 (by decide) (fun h37 => by exfalso; revert h37; decide) (fun _ => ?_)
            refine js_aload_n (pc := 40) 0 F rfl dX5_findFault_40 ?_
            refine jg_M_at (pc := 41) (v := nI ((jp_ord p b).2.1)) F in_X5_findFault_5 (lk_X5_findFault_fieldLink_RX5_184_JoinedSketchesModel_at_I) (e6) dX5_findFault_41 ?_
            refine js_iret (pc := 44) F hr (rfl) ?_ dX5_findFault_44
            exact ⟨by unfold jp_fa; rw [hm, show 80 - k = (80 - (k + 1)) + 1 by omega, jp_fault_end h9 a34, if_neg h25]; rfl, hf.tr f6⟩
        · skip
          refine js_bipush (pc := 28) (v := (-6)) F (by decide) dX5_findFault_28 ?_
          refine js_iret (pc := 30) F hr (rfl) ?_ dX5_findFault_30
          exact ⟨by unfold jp_fa; rw [hm, show 80 - k = (80 - (k + 1)) + 1 by omega, jp_fault_end h9 (by rw [jr_P.q0 (by omega)]; decide), if_pos h25]; rfl, hf.tr f6⟩
      · skip
        refine js_aload_n (pc := 12) 0 F rfl dX5_findFault_12 ?_
        refine jg_M_at (pc := 13) (v := nI ((jp_ord p b).2.1)) F in_X5_findFault_5 (lk_X5_findFault_fieldLink_RX5_184_JoinedSketchesModel_at_I) (e6) dX5_findFault_13 ?_
        refine js_iret (pc := 16) F hr (rfl) ?_ dX5_findFault_16
        exact ⟨by unfold jp_fa; rw [hm, show 80 - k = (80 - (k + 1)) + 1 by omega, jp_fault_no h9]; rfl, hf.tr f6⟩
  exact L5 (_ + 1) 0 0 (js_st G (191) (8) (nI (0))) (by decide) (Nat.zero_le _) (rfl) (mr_P.mfX hP (mfX.st (by decide) (by decide))) (by rw [js_st_s]; simp [upd]) (mfX.st (by decide) (by decide)) (Nat.lt_succ_self _)
theorem mf_X5_fault : js_M yX5_fault cX5_fault 1 (some .int) wsX5_fault 0 := ⟨⟨_, rfl⟩, by decide +kernel, by decide +kernel, by decide +kernel, by decide +kernel⟩
set_option maxHeartbeats 4000000 in
set_option maxRecDepth 100000 in
theorem c_X5_fault (la : Launch) {y : js_L} (hy : js_Dy y) {G : js_G} {c : js_C} (hC : mr_C G c) : js_Ci la y yX5_fault wsX5_fault 7 138 [.ref (js_ad y (191))] G (fun r G' => mP (jp_fa c.2.2.2, c) r G G') := by
  refine js_ofi mf_X5_fault (Nat.le_of_ble_eq_true rfl) hy (fun X F hr => ?_)
  replace F : js_F X y cX5_fault 1 RX5 wsX5_fault 7 138 := F
  show js_W X y 1 _ G 0 [(0, .ref (js_ad y (191)))] []
  refine js_aload_n (pc := 0) 0 F rfl dX5_fault_0 ?_
  refine js_calli (pc := 1) F (c_X5_findFault _ hy (G := G) (p := c.2.2.2) hC.2.2.2) mf_X5_findFault gX5_fault_X5_findFault rfl (by decide) (by decide) (js_ct_M) rfl rfl rfl (Nat.le_of_ble_eq_true rfl) dX5_fault_1 ?_
  rintro _ G0 ⟨rfl, f0⟩
  refine js_iret (pc := 4) F hr (rfl) ?_ dX5_fault_4
  exact ⟨rfl, hC.mfX f0, js_frM.X f0⟩
theorem in_X5_canDo_5 : ∀ w ∈ wsX50, w ∈ wsX5_canDo := by decide +kernel
theorem lk_X5_canDo_fieldLink_RX5_196_JoinedSketchesModel_letter_I : Cond.fieldLink RX5 196 "JoinedSketchesModel" "letter" "I" ∈ wsX5_canDo := by decide +kernel
theorem lk_X5_canDo_fieldLink_RX5_206_JoinedSketchesModel_sketch_I : Cond.fieldLink RX5 206 "JoinedSketchesModel" "sketch" "I" ∈ wsX5_canDo := by decide +kernel
theorem lk_X5_canDo_fieldLink_RX5_28_JoinedSketchesModel_numbers_I : Cond.fieldLink RX5 28 "JoinedSketchesModel" "numbers" "[I" ∈ wsX5_canDo := by decide +kernel
theorem mf_X5_canDo : js_M yX5_canDo cX5_canDo 1 (some .boolean) wsX5_canDo 0 := ⟨⟨_, rfl⟩, by decide +kernel, by decide +kernel, by decide +kernel, by decide +kernel⟩
set_option maxHeartbeats 4000000 in
set_option maxRecDepth 100000 in
theorem c_X5_canDo (la : Launch) {y : js_L} (hy : js_Dy y) {G : js_G} {s : js_T} (hT : mr_T G 192 0 s) {i : Nat} (hi : i < 6) {ns : List Nat} (hN : mr_N G ns) {verb : Nat} (hok : jo_ok verb ns) (h9 : G 191 9 = nI i) (h10 : G 191 10 = nI verb) (hv : verb ≤ 126) : js_Ci la y yX5_canDo wsX5_canDo 4 76 [.ref (js_ad y (191))] G (fun r G' => (jo_one verb i ns s = none ∧ r = nI 0 ∧ G = G') ∨ ((∃ s', jo_one verb i ns s = some s') ∧ r = nI 1 ∧ G = G')) := by
  have hS := hT.K hi
  obtain ⟨k1, k2, k3, k4⟩ := hok
  have hs6 := hT.2.1
  refine js_ofi mf_X5_canDo (Nat.le_of_ble_eq_true rfl) hy (fun X F hr => ?_)
  replace F : js_F X y cX5_canDo 1 RX5 wsX5_canDo 4 76 := F
  show js_W X y 1 _ G 0 [(0, .ref (js_ad y (191)))] []
  refine js_aload_n (pc := 0) 0 F rfl dX5_canDo_0 ?_
  refine jg_M_letter (pc := 1) (v := nI (verb)) F in_X5_canDo_5 (lk_X5_canDo_fieldLink_RX5_196_JoinedSketchesModel_letter_I) (h10) dX5_canDo_1 ?_
  rcases (show verb = 38 ∨ verb = 42 ∨ verb = 47 ∨ (verb ≠ 38 ∧ verb ≠ 42 ∧ verb ≠ 47) by omega) with v4 | v4 | v4 | v4
  · skip
    refine js_lookup (pc := 4) (off := 36) (tgt := 40) F dX5_canDo_4 (by decide) (by rw [v4]; decide) (by decide) ?_
    have k3a := k3 v4
    refine js_aload_n (pc := 40) 0 F rfl dX5_canDo_40 ?_
    refine js_aload_n (pc := 41) 0 F rfl dX5_canDo_41 ?_
    refine jg_M_sketch (pc := 42) (v := nI (i)) F in_X5_canDo_5 (lk_X5_canDo_fieldLink_RX5_206_JoinedSketchesModel_sketch_I) (h9) dX5_canDo_42 ?_
    refine js_aload_n (pc := 45) 0 F rfl dX5_canDo_45 ?_
    refine jg_M_numbers (pc := 46) F in_X5_canDo_5 (lk_X5_canDo_fieldLink_RX5_28_JoinedSketchesModel_numbers_I) dX5_canDo_46 ?_
    refine js_iconst (pc := 49) (v := nI (0)) F (by decide) dX5_canDo_49 ?_
    refine js_iald (pc := 50) (j := 0) (v := nI (ns.getD (0) 0)) F (by decide) (js_ct_Mn) rfl (by omega) (by decide) (hN _ (by omega)) dX5_canDo_50 ?_
    refine js_calli (pc := 51) F (c_X5_whyNotJoined_2 _ hy hT (i := i) (by omega) (i2 := ns.getD 0 0) (k3 v4).2) mf_X5_whyNotJoined gX5_canDo_X5_whyNotJoined rfl (by decide) (by decide) (js_ct_M) rfl rfl rfl (Nat.le_of_ble_eq_true rfl) dX5_canDo_51 ?_
    rintro _ _ ⟨rfl, rfl⟩
    rcases Classical.em (i ≠ ns.getD 0 0 ∧ (s.2 i).1 = (s.2 (ns.getD 0 0)).1) with j51 | j51
    · skip
      rw [if_pos j51]
      refine js_if_neN (pc := 54) (a := 0) (tgt := 61) F (by decide) dX5_canDo_54 (by decide) (fun h54 => by exfalso; revert h54; decide) (fun _ => ?_)
      refine js_iconst (pc := 57) (v := nI (1)) F (by decide) dX5_canDo_57 ?_
      refine js_goto (pc := 58) (tgt := 62) F dX5_canDo_58 (by decide) ?_
      refine js_iret (pc := 62) F hr (by first | exact jn_narB | rfl) ?_ dX5_canDo_62
      exact Or.inr ⟨⟨_, by unfold jo_one; rw [if_neg (by omega), if_pos v4, if_pos j51]⟩, rfl, rfl⟩
    · skip
      rw [if_neg j51]
      refine js_if_ne (pc := 54) (tgt := 61) F dX5_canDo_54 (by decide) (fun _ => ?_) (fun h54 => by exfalso; revert h54; decide)
      refine js_iconst (pc := 61) (v := nI (0)) F (by decide) dX5_canDo_61 ?_
      refine js_iret (pc := 62) F hr (by first | exact jn_narB | rfl) ?_ dX5_canDo_62
      exact Or.inl ⟨by unfold jo_one; rw [if_neg (by omega), if_pos v4, if_neg j51], rfl, rfl⟩
  · skip
    refine js_lookup (pc := 4) (off := 59) (tgt := 63) F dX5_canDo_4 (by decide) (by rw [v4]; decide) (by decide) ?_
    have k4a := k4 v4
    refine js_aload_n (pc := 63) 0 F rfl dX5_canDo_63 ?_
    refine jg_M_numbers (pc := 64) F in_X5_canDo_5 (lk_X5_canDo_fieldLink_RX5_28_JoinedSketchesModel_numbers_I) dX5_canDo_64 ?_
    refine js_iconst (pc := 67) (v := nI (0)) F (by decide) dX5_canDo_67 ?_
    refine js_iald (pc := 68) (j := 0) (v := nI (ns.getD (0) 0)) F (by decide) (js_ct_Mn) rfl (by omega) (by decide) (hN _ (by omega)) dX5_canDo_68 ?_
    refine js_aload_n (pc := 69) 0 F rfl dX5_canDo_69 ?_
    refine jg_M_numbers (pc := 70) F in_X5_canDo_5 (lk_X5_canDo_fieldLink_RX5_28_JoinedSketchesModel_numbers_I) dX5_canDo_70 ?_
    refine js_iconst (pc := 73) (v := nI (1)) F (by decide) dX5_canDo_73 ?_
    refine js_iald (pc := 74) (j := 1) (v := nI (ns.getD (1) 0)) F (by decide) (js_ct_Mn) rfl (by omega) (by decide) (hN _ (by omega)) dX5_canDo_74 ?_
    refine js_callsi (pc := 75) F (c_X5_isRange _ hy (x := nI (ns.getD (0) 0)) (m := nI (ns.getD (1) 0))) mf_X5_isRange gX5_canDo_X5_isRange (by decide) rfl rfl (Nat.le_of_ble_eq_true rfl) dX5_canDo_75 ?_
    rintro _ _ ⟨rfl, rfl⟩
    refine js_iret (pc := 78) F hr (by first | exact jn_narB | rfl) ?_ dX5_canDo_78
    by_cases z : jm_rng (nI (ns.getD 0 0)) (nI (ns.getD 1 0))
    · exact Or.inr ⟨⟨_, by unfold jo_one; rw [if_neg (by omega), if_neg (by omega), if_pos v4, if_pos z]⟩, by rw [if_pos z], rfl⟩
    · exact Or.inl ⟨by unfold jo_one; rw [if_neg (by omega), if_neg (by omega), if_pos v4, if_neg z], by rw [if_neg z], rfl⟩
  · skip
    refine js_lookup (pc := 4) (off := 75) (tgt := 79) F dX5_canDo_4 (by decide) (by rw [v4]; decide) (by decide) ?_
    refine js_aload_n (pc := 79) 0 F rfl dX5_canDo_79 ?_
    refine js_aload_n (pc := 80) 0 F rfl dX5_canDo_80 ?_
    refine jg_M_sketch (pc := 81) (v := nI (i)) F in_X5_canDo_5 (lk_X5_canDo_fieldLink_RX5_206_JoinedSketchesModel_sketch_I) (h9) dX5_canDo_81 ?_
    refine js_calli (pc := 84) F (c_X5_whyNotFolded_2 _ hy hT (i := i) (by omega)) mf_X5_whyNotFolded gX5_canDo_X5_whyNotFolded rfl (by decide) (by decide) (js_ct_M) rfl rfl rfl (Nat.le_of_ble_eq_true rfl) dX5_canDo_84 ?_
    rintro _ _ ⟨rfl, rfl⟩
    rcases Classical.em (2 < (s.2 i).1) with j84 | j84
    · skip
      rw [if_pos j84]
      refine js_if_neN (pc := 87) (a := 0) (tgt := 94) F (by decide) dX5_canDo_87 (by decide) (fun h87 => by exfalso; revert h87; decide) (fun _ => ?_)
      refine js_iconst (pc := 90) (v := nI (1)) F (by decide) dX5_canDo_90 ?_
      refine js_goto (pc := 91) (tgt := 95) F dX5_canDo_91 (by decide) ?_
      refine js_iret (pc := 95) F hr (by first | exact jn_narB | rfl) ?_ dX5_canDo_95
      exact Or.inr ⟨⟨_, by unfold jo_one; rw [if_neg (by omega), if_neg (by omega), if_neg (by omega), if_pos v4, if_pos j84]⟩, rfl, rfl⟩
    · skip
      rw [if_neg j84]
      refine js_if_ne (pc := 87) (tgt := 94) F dX5_canDo_87 (by decide) (fun _ => ?_) (fun h87 => by exfalso; revert h87; decide)
      refine js_iconst (pc := 94) (v := nI (0)) F (by decide) dX5_canDo_94 ?_
      refine js_iret (pc := 95) F hr (by first | exact jn_narB | rfl) ?_ dX5_canDo_95
      exact Or.inl ⟨by unfold jo_one; rw [if_neg (by omega), if_neg (by omega), if_neg (by omega), if_pos v4, if_neg j84], rfl, rfl⟩
  · skip
    refine js_lookup (pc := 4) (off := 92) (tgt := 96) F dX5_canDo_4 (by decide) (show Op.lookupswitch.offset [(38, 36), (42, 59), (47, 75)] 92 (nI (verb)).toInt = 92 by rw [nI_toInt (by omega)]; simp only [Op.lookupswitch.offset]; repeat rw [if_neg (by omega)]) (by decide) ?_
    refine js_iconst (pc := 96) (v := nI (1)) F (by decide) dX5_canDo_96 ?_
    refine js_iret (pc := 97) F hr (by first | exact jn_narB | rfl) ?_ dX5_canDo_97
    by_cases z : verb = 58
    · exact Or.inr ⟨⟨_, if_pos z⟩, rfl, rfl⟩
    · exact Or.inr ⟨⟨_, jo_one_empty ⟨z, v4.1, v4.2.1, v4.2.2⟩⟩, rfl, rfl⟩
theorem in_X5_does_5 : ∀ w ∈ wsX50, w ∈ wsX5_does := by decide +kernel
theorem lk_X5_does_fieldLink_RX5_193_JoinedSketchesModel_numbersMany_I : Cond.fieldLink RX5 193 "JoinedSketchesModel" "numbersMany" "I" ∈ wsX5_does := by decide +kernel
theorem lk_X5_does_fieldLink_RX5_196_JoinedSketchesModel_letter_I : Cond.fieldLink RX5 196 "JoinedSketchesModel" "letter" "I" ∈ wsX5_does := by decide +kernel
theorem lk_X5_does_fieldLink_RX5_206_JoinedSketchesModel_sketch_I : Cond.fieldLink RX5 206 "JoinedSketchesModel" "sketch" "I" ∈ wsX5_does := by decide +kernel
theorem lk_X5_does_fieldLink_RX5_28_JoinedSketchesModel_numbers_I : Cond.fieldLink RX5 28 "JoinedSketchesModel" "numbers" "[I" ∈ wsX5_does := by decide +kernel
theorem mf_X5_does : js_M yX5_does cX5_does 2 none wsX5_does 0 := ⟨⟨_, rfl⟩, by decide +kernel, by decide +kernel, by decide +kernel, by decide +kernel⟩
set_option maxHeartbeats 4000000 in
set_option maxRecDepth 100000 in
theorem c_X5_does (la : Launch) {y : js_L} (hy : js_Dy y) {G : js_G} {s : js_T} (hT : mr_T G 192 0 s) {i : Nat} (hi : i < 6) {ns : List Nat} (hN : mr_N G ns) {verb : Nat} (hok : jo_ok verb ns) (h9 : G 191 9 = nI i) (h10 : G 191 10 = nI verb) (hv : verb ≤ 126) (h12 : verb = 58 → G 191 12 = nI ns.length) {s' : js_T} (ho : jo_one verb i ns s = some s') : js_Cv la y yX5_does wsX5_does 7 147 [.ref (js_ad y (191))] G (fun G' => mr_T G' 192 0 s' ∧ mfD G G') := by
  have hS := hT.K hi
  obtain ⟨k1, k2, k3, k4⟩ := hok
  have hs6 := hT.2.1
  refine js_ofv mf_X5_does (Nat.le_of_ble_eq_true rfl) hy (fun X F hr => ?_)
  replace F : js_F X y cX5_does 2 RX5 wsX5_does 7 147 := F
  show js_W X y 2 _ G 0 [(0, .ref (js_ad y (191)))] []
  refine js_aload_n (pc := 0) 0 F rfl dX5_does_0 ?_
  refine jg_M_letter (pc := 1) (v := nI (verb)) F in_X5_does_5 (lk_X5_does_fieldLink_RX5_196_JoinedSketchesModel_letter_I) (h10) dX5_does_1 ?_
  rcases (show verb = 58 ∨ verb = 38 ∨ verb = 42 ∨ verb = 47 ∨ (verb ≠ 58 ∧ verb ≠ 38 ∧ verb ≠ 42 ∧ verb ≠ 47) by omega) with v4 | v4 | v4 | v4 | v4
  · skip
    refine js_lookup (pc := 4) (off := 44) (tgt := 48) F dX5_does_4 (by decide) (by rw [v4]; decide) (by decide) ?_
    refine js_iconst (pc := 48) (v := nI (0)) F (by decide) dX5_does_48 ?_
    refine js_istore_n (pc := 49) (lv2 := [(0, .ref (js_ad y (191))), (1, .int (nI (0)))]) F dX5_does_49 (by decide) [1, 0] rfl ?_
    have L50 : ∀ (fu50 : Nat) (k : Nat) (G1 : js_G) (hk : k ≤ ns.length) (hT1 : mr_T G1 192 0 (jm_sk s i (jo_tks s.1 (s.2 i) (ns.take k)))) (hf : ∀ a, a ≠ 192 → G1 a = G a) (hfu50 : ns.length - k < fu50), js_W X y 2 (js_Qv X y (fun G' => mr_T G' 192 0 s' ∧ mfD G G')) G1 50 [(0, .ref (js_ad y (191))), (1, .int (nI (k)))] [] := by
      intro fu50
      induction fu50 with
      | zero => intro k G1 hk hT1 hf hfu50; exact absurd hfu50 (Nat.not_lt_zero _)
      | succ fu50 ih50 =>
        intro k G1 hk hT1 hf hfu50
        refine js_iload_n (pc := 50) 1 F rfl dX5_does_50 ?_
        refine js_aload_n (pc := 51) 0 F rfl dX5_does_51 ?_
        refine jg_M_numbersMany (pc := 52) (v := nI (ns.length)) F in_X5_does_5 (lk_X5_does_fieldLink_RX5_193_JoinedSketchesModel_numbersMany_I) (by rw [hf 191 (by decide)]; exact h12 v4) dX5_does_52 ?_
        refine js_icmp_geN (pc := 55) (a := k) (b := ns.length) (tgt := 79) F (by omega) (by omega) dX5_does_55 (by decide) (fun h55 => ?_) (fun h55 => ?_)
        · skip
          refine js_goto (pc := 79) (tgt := 145) F dX5_does_79 (by decide) ?_
          refine js_vret (pc := 145) F hr ?_ dX5_does_145
          first
            | (rw [show jo_one verb i ns s = some (jm_sk s i (jo_tks s.1 (s.2 i) ns)) from if_pos v4] at ho
               cases ho
               rw [show ns.take k = ns from List.take_of_length_le (by omega)] at hT1
               exact ⟨hT1, fun a x _ => hf a x⟩)
            | (rw [show jo_one verb i ns s = some (jm_sk s i (jm_joK (s.2 i) (s.2 (ns.getD 0 0)))) from by unfold jo_one; rw [if_neg (by omega), if_pos v4, if_pos hj]] at ho
               cases ho
               exact ⟨(hT.sk hi p2 p1).co (p3 192 (by decide)), (mfD.S p2).tr (mfD.R p3)⟩)
            | (rw [show jo_one verb i ns s = some (jm_sk s i (jm_tkK s.1 (s.2 i) (ns.getD 0 0) (ns.getD 1 0))) from by unfold jo_one; rw [if_neg (by omega), if_neg (by omega), if_pos v4, if_pos hr4]] at ho
               cases ho
               exact ⟨hT.sk hi p2 p1, mfD.S p2⟩)
            | (rw [show jo_one verb i ns s = some (jm_sk s i (jm_foK (s.2 i))) from by unfold jo_one; rw [if_neg (by omega), if_neg (by omega), if_neg (by omega), if_pos v4, if_pos hf4]] at ho
               cases ho
               exact ⟨hT.sk hi p2 p1, mfD.S p2⟩)
            | (rw [jo_one_empty v4] at ho
               cases ho
               exact ⟨hT.sk hi p2 p1, mfD.S p2⟩)
        · skip
          refine js_aload_n (pc := 58) 0 F rfl dX5_does_58 ?_
          refine js_aload_n (pc := 59) 0 F rfl dX5_does_59 ?_
          refine jg_M_sketch (pc := 60) (v := nI (i)) F in_X5_does_5 (lk_X5_does_fieldLink_RX5_206_JoinedSketchesModel_sketch_I) (by rw [hf 191 (by decide)]; exact h9) dX5_does_60 ?_
          refine js_aload_n (pc := 63) 0 F rfl dX5_does_63 ?_
          refine jg_M_numbers (pc := 64) F in_X5_does_5 (lk_X5_does_fieldLink_RX5_28_JoinedSketchesModel_numbers_I) dX5_does_64 ?_
          refine js_iload_n (pc := 67) 1 F rfl dX5_does_67 ?_
          refine js_iald (pc := 68) (j := k) (v := nI (ns.getD (k) 0)) F (by decide) (js_ct_Mn) rfl (by omega) (by decide) (by rw [hf 198 (by decide)]; exact hN _ (by omega)) dX5_does_68 ?_
          have hS1 : mr_K G1 192 (1 + 106 * i) (jo_tks s.1 (s.2 i) (ns.take k)) := by have := hT1.K hi; rwa [jm_sk_at] at this
          have hts := k2 _ (jm_getD_mem (k := k) (l := ns) (by omega))
          refine js_calli (pc := 69) F (c_X5_adds _ hy (s := i) (by omega) (G := G1) hS1 (sl := s.1) hT1.1 hs6 (t := ns.getD (k) 0) hts) mf_X5_adds gX5_does_X5_adds rfl (by decide) (by decide) (js_ct_M) rfl rfl rfl (Nat.le_of_ble_eq_true rfl) dX5_does_69 ?_
          rintro r2 G2 ⟨q0, p1, p2⟩
          refine js_pop (pc := 72) rfl F dX5_does_72 ?_
          refine js_iinc (pc := 73) (v := nI (k + 1)) (lv2 := [(0, .ref (js_ad y (191))), (1, .int (nI (k + 1)))]) F dX5_does_73 1 rfl (nI_add _ _) (by decide) [1, 0] rfl ?_
          refine js_goto (pc := 76) (tgt := 50) F dX5_does_76 (by decide) ?_
          exact ih50 (k + 1) G2 (by omega) (by rw [jo_tks_take (by omega), ← jm_sk_sk (S := jo_tks s.1 (s.2 i) (ns.take k))]; exact hT1.sk hi p2 p1) (fun a ha => (p2.1 a ha).trans (hf a ha)) (by omega)
    exact L50 (_ + 1) 0 G (Nat.zero_le _) (by show mr_T G 192 0 (jm_sk s i (s.2 i)); rw [jm_sk_self]; exact hT) (fun _ _ => rfl) (Nat.lt_succ_self _)
  · skip
    refine js_lookup (pc := 4) (off := 78) (tgt := 82) F dX5_does_4 (by decide) (by rw [v4]; decide) (by decide) ?_
    obtain ⟨k3a, k3b⟩ := k3 v4
    have hj : i ≠ ns.getD 0 0 ∧ (s.2 i).1 = (s.2 (ns.getD 0 0)).1 := by
            by_cases z : i ≠ ns.getD 0 0 ∧ (s.2 i).1 = (s.2 (ns.getD 0 0)).1
            · exact z
            · rw [show jo_one verb i ns s = none from by unfold jo_one; rw [if_neg (by omega), if_pos v4, if_neg z]] at ho; cases ho
    have hS2 := hT.K k3b
    refine js_aload_n (pc := 82) 0 F rfl dX5_does_82 ?_
    refine js_aload_n (pc := 83) 0 F rfl dX5_does_83 ?_
    refine jg_M_sketch (pc := 84) (v := nI (i)) F in_X5_does_5 (lk_X5_does_fieldLink_RX5_206_JoinedSketchesModel_sketch_I) (h9) dX5_does_84 ?_
    refine js_aload_n (pc := 87) 0 F rfl dX5_does_87 ?_
    refine jg_M_numbers (pc := 88) F in_X5_does_5 (lk_X5_does_fieldLink_RX5_28_JoinedSketchesModel_numbers_I) dX5_does_88 ?_
    refine js_iconst (pc := 91) (v := nI (0)) F (by decide) dX5_does_91 ?_
    refine js_iald (pc := 92) (j := 0) (v := nI (ns.getD (0) 0)) F (by decide) (js_ct_Mn) rfl (by omega) (by decide) (hN _ (by omega)) dX5_does_92 ?_
    refine js_calli (pc := 93) F (c_X5_joins _ hy (s := i) (by omega) (G := G) hS (so := ns.getD (0) 0) k3b (Ne.symm hj.1) (by rw [hj.2]; exact hS2)) mf_X5_joins gX5_does_X5_joins rfl (by decide) (by decide) (js_ct_M) rfl rfl rfl (Nat.le_of_ble_eq_true rfl) dX5_does_93 ?_
    rintro r2 G2 ⟨q0, Gm, p1, p2, p3⟩
    refine js_pop (pc := 96) rfl F dX5_does_96 ?_
    refine js_goto (pc := 97) (tgt := 145) F dX5_does_97 (by decide) ?_
    refine js_vret (pc := 145) F hr ?_ dX5_does_145
    first
      | (rw [show jo_one verb i ns s = some (jm_sk s i (jo_tks s.1 (s.2 i) ns)) from if_pos v4] at ho
         cases ho
         rw [show ns.take k = ns from List.take_of_length_le (by omega)] at hT1
         exact ⟨hT1, fun a x _ => hf a x⟩)
      | (rw [show jo_one verb i ns s = some (jm_sk s i (jm_joK (s.2 i) (s.2 (ns.getD 0 0)))) from by unfold jo_one; rw [if_neg (by omega), if_pos v4, if_pos hj]] at ho
         cases ho
         exact ⟨(hT.sk hi p2 p1).co (p3 192 (by decide)), (mfD.S p2).tr (mfD.R p3)⟩)
      | (rw [show jo_one verb i ns s = some (jm_sk s i (jm_tkK s.1 (s.2 i) (ns.getD 0 0) (ns.getD 1 0))) from by unfold jo_one; rw [if_neg (by omega), if_neg (by omega), if_pos v4, if_pos hr4]] at ho
         cases ho
         exact ⟨hT.sk hi p2 p1, mfD.S p2⟩)
      | (rw [show jo_one verb i ns s = some (jm_sk s i (jm_foK (s.2 i))) from by unfold jo_one; rw [if_neg (by omega), if_neg (by omega), if_neg (by omega), if_pos v4, if_pos hf4]] at ho
         cases ho
         exact ⟨hT.sk hi p2 p1, mfD.S p2⟩)
      | (rw [jo_one_empty v4] at ho
         cases ho
         exact ⟨hT.sk hi p2 p1, mfD.S p2⟩)
  · skip
    refine js_lookup (pc := 4) (off := 96) (tgt := 100) F dX5_does_4 (by decide) (by rw [v4]; decide) (by decide) ?_
    have k4a := k4 v4
    have hr4 : jm_rng (nI (ns.getD 0 0)) (nI (ns.getD 1 0)) := by
            by_cases z : jm_rng (nI (ns.getD 0 0)) (nI (ns.getD 1 0))
            · exact z
            · rw [show jo_one verb i ns s = none from by unfold jo_one; rw [if_neg (by omega), if_neg (by omega), if_pos v4, if_neg z]] at ho; cases ho
    have hr5 := jm_rng_nat (k2 _ (jm_getD_mem (k := 0) (by omega))) (k2 _ (jm_getD_mem (k := 1) (by omega))) hr4
    refine js_aload_n (pc := 100) 0 F rfl dX5_does_100 ?_
    refine js_aload_n (pc := 101) 0 F rfl dX5_does_101 ?_
    refine jg_M_sketch (pc := 102) (v := nI (i)) F in_X5_does_5 (lk_X5_does_fieldLink_RX5_206_JoinedSketchesModel_sketch_I) (h9) dX5_does_102 ?_
    refine js_aload_n (pc := 105) 0 F rfl dX5_does_105 ?_
    refine jg_M_numbers (pc := 106) F in_X5_does_5 (lk_X5_does_fieldLink_RX5_28_JoinedSketchesModel_numbers_I) dX5_does_106 ?_
    refine js_iconst (pc := 109) (v := nI (0)) F (by decide) dX5_does_109 ?_
    refine js_iald (pc := 110) (j := 0) (v := nI (ns.getD (0) 0)) F (by decide) (js_ct_Mn) rfl (by omega) (by decide) (hN _ (by omega)) dX5_does_110 ?_
    refine js_aload_n (pc := 111) 0 F rfl dX5_does_111 ?_
    refine jg_M_numbers (pc := 112) F in_X5_does_5 (lk_X5_does_fieldLink_RX5_28_JoinedSketchesModel_numbers_I) dX5_does_112 ?_
    refine js_iconst (pc := 115) (v := nI (1)) F (by decide) dX5_does_115 ?_
    refine js_iald (pc := 116) (j := 1) (v := nI (ns.getD (1) 0)) F (by decide) (js_ct_Mn) rfl (by omega) (by decide) (hN _ (by omega)) dX5_does_116 ?_
    refine js_calli (pc := 117) F (c_X5_addsRange _ hy (s := i) (by omega) (G := G) hS (sl := s.1) hT.1 hs6 (a := ns.getD (0) 0) (n := ns.getD (1) 0) hr5.2.2) mf_X5_addsRange gX5_does_X5_addsRange rfl (by decide) (by decide) (js_ct_M) rfl rfl rfl (Nat.le_of_ble_eq_true rfl) dX5_does_117 ?_
    rintro r2 G2 ⟨q0, p1, p2⟩
    refine js_pop (pc := 120) rfl F dX5_does_120 ?_
    refine js_goto (pc := 121) (tgt := 145) F dX5_does_121 (by decide) ?_
    refine js_vret (pc := 145) F hr ?_ dX5_does_145
    first
      | (rw [show jo_one verb i ns s = some (jm_sk s i (jo_tks s.1 (s.2 i) ns)) from if_pos v4] at ho
         cases ho
         rw [show ns.take k = ns from List.take_of_length_le (by omega)] at hT1
         exact ⟨hT1, fun a x _ => hf a x⟩)
      | (rw [show jo_one verb i ns s = some (jm_sk s i (jm_joK (s.2 i) (s.2 (ns.getD 0 0)))) from by unfold jo_one; rw [if_neg (by omega), if_pos v4, if_pos hj]] at ho
         cases ho
         exact ⟨(hT.sk hi p2 p1).co (p3 192 (by decide)), (mfD.S p2).tr (mfD.R p3)⟩)
      | (rw [show jo_one verb i ns s = some (jm_sk s i (jm_tkK s.1 (s.2 i) (ns.getD 0 0) (ns.getD 1 0))) from by unfold jo_one; rw [if_neg (by omega), if_neg (by omega), if_pos v4, if_pos hr4]] at ho
         cases ho
         exact ⟨hT.sk hi p2 p1, mfD.S p2⟩)
      | (rw [show jo_one verb i ns s = some (jm_sk s i (jm_foK (s.2 i))) from by unfold jo_one; rw [if_neg (by omega), if_neg (by omega), if_neg (by omega), if_pos v4, if_pos hf4]] at ho
         cases ho
         exact ⟨hT.sk hi p2 p1, mfD.S p2⟩)
      | (rw [jo_one_empty v4] at ho
         cases ho
         exact ⟨hT.sk hi p2 p1, mfD.S p2⟩)
  · skip
    refine js_lookup (pc := 4) (off := 120) (tgt := 124) F dX5_does_4 (by decide) (by rw [v4]; decide) (by decide) ?_
    have hf4 : 2 < (s.2 i).1 := by
            by_cases z : 2 < (s.2 i).1
            · exact z
            · rw [show jo_one verb i ns s = none from by unfold jo_one; rw [if_neg (by omega), if_neg (by omega), if_neg (by omega), if_pos v4, if_neg z]] at ho; cases ho
    refine js_aload_n (pc := 124) 0 F rfl dX5_does_124 ?_
    refine js_aload_n (pc := 125) 0 F rfl dX5_does_125 ?_
    refine jg_M_sketch (pc := 126) (v := nI (i)) F in_X5_does_5 (lk_X5_does_fieldLink_RX5_206_JoinedSketchesModel_sketch_I) (h9) dX5_does_126 ?_
    refine js_calli (pc := 129) F (c_X5_folds _ hy (s := i) (by omega) (G := G) hS hf4) mf_X5_folds gX5_does_X5_folds rfl (by decide) (by decide) (js_ct_M) rfl rfl rfl (Nat.le_of_ble_eq_true rfl) dX5_does_129 ?_
    rintro r2 G2 ⟨q0, p1, p2⟩
    refine js_pop (pc := 132) rfl F dX5_does_132 ?_
    refine js_goto (pc := 133) (tgt := 145) F dX5_does_133 (by decide) ?_
    refine js_vret (pc := 145) F hr ?_ dX5_does_145
    first
      | (rw [show jo_one verb i ns s = some (jm_sk s i (jo_tks s.1 (s.2 i) ns)) from if_pos v4] at ho
         cases ho
         rw [show ns.take k = ns from List.take_of_length_le (by omega)] at hT1
         exact ⟨hT1, fun a x _ => hf a x⟩)
      | (rw [show jo_one verb i ns s = some (jm_sk s i (jm_joK (s.2 i) (s.2 (ns.getD 0 0)))) from by unfold jo_one; rw [if_neg (by omega), if_pos v4, if_pos hj]] at ho
         cases ho
         exact ⟨(hT.sk hi p2 p1).co (p3 192 (by decide)), (mfD.S p2).tr (mfD.R p3)⟩)
      | (rw [show jo_one verb i ns s = some (jm_sk s i (jm_tkK s.1 (s.2 i) (ns.getD 0 0) (ns.getD 1 0))) from by unfold jo_one; rw [if_neg (by omega), if_neg (by omega), if_pos v4, if_pos hr4]] at ho
         cases ho
         exact ⟨hT.sk hi p2 p1, mfD.S p2⟩)
      | (rw [show jo_one verb i ns s = some (jm_sk s i (jm_foK (s.2 i))) from by unfold jo_one; rw [if_neg (by omega), if_neg (by omega), if_neg (by omega), if_pos v4, if_pos hf4]] at ho
         cases ho
         exact ⟨hT.sk hi p2 p1, mfD.S p2⟩)
      | (rw [jo_one_empty v4] at ho
         cases ho
         exact ⟨hT.sk hi p2 p1, mfD.S p2⟩)
  · skip
    refine js_lookup (pc := 4) (off := 132) (tgt := 136) F dX5_does_4 (by decide) (show Op.lookupswitch.offset [(38, 78), (42, 96), (47, 120), (58, 44)] 132 (nI (verb)).toInt = 132 by rw [nI_toInt (by omega)]; simp only [Op.lookupswitch.offset]; repeat rw [if_neg (by omega)]) (by decide) ?_
    refine js_aload_n (pc := 136) 0 F rfl dX5_does_136 ?_
    refine js_aload_n (pc := 137) 0 F rfl dX5_does_137 ?_
    refine jg_M_sketch (pc := 138) (v := nI (i)) F in_X5_does_5 (lk_X5_does_fieldLink_RX5_206_JoinedSketchesModel_sketch_I) (h9) dX5_does_138 ?_
    refine js_calli (pc := 141) F (c_X5_empties _ hy (s := i) (by omega) (G := G) hS) mf_X5_empties gX5_does_X5_empties rfl (by decide) (by decide) (js_ct_M) rfl rfl rfl (Nat.le_of_ble_eq_true rfl) dX5_does_141 ?_
    rintro r2 G2 ⟨q0, p1, p2⟩
    refine js_pop (pc := 144) rfl F dX5_does_144 ?_
    refine js_vret (pc := 145) F hr ?_ dX5_does_145
    first
      | (rw [show jo_one verb i ns s = some (jm_sk s i (jo_tks s.1 (s.2 i) ns)) from if_pos v4] at ho
         cases ho
         rw [show ns.take k = ns from List.take_of_length_le (by omega)] at hT1
         exact ⟨hT1, fun a x _ => hf a x⟩)
      | (rw [show jo_one verb i ns s = some (jm_sk s i (jm_joK (s.2 i) (s.2 (ns.getD 0 0)))) from by unfold jo_one; rw [if_neg (by omega), if_pos v4, if_pos hj]] at ho
         cases ho
         exact ⟨(hT.sk hi p2 p1).co (p3 192 (by decide)), (mfD.S p2).tr (mfD.R p3)⟩)
      | (rw [show jo_one verb i ns s = some (jm_sk s i (jm_tkK s.1 (s.2 i) (ns.getD 0 0) (ns.getD 1 0))) from by unfold jo_one; rw [if_neg (by omega), if_neg (by omega), if_pos v4, if_pos hr4]] at ho
         cases ho
         exact ⟨hT.sk hi p2 p1, mfD.S p2⟩)
      | (rw [show jo_one verb i ns s = some (jm_sk s i (jm_foK (s.2 i))) from by unfold jo_one; rw [if_neg (by omega), if_neg (by omega), if_neg (by omega), if_pos v4, if_pos hf4]] at ho
         cases ho
         exact ⟨hT.sk hi p2 p1, mfD.S p2⟩)
      | (rw [jo_one_empty v4] at ho
         cases ho
         exact ⟨hT.sk hi p2 p1, mfD.S p2⟩)
theorem in_X5_carryOut_5 : ∀ w ∈ wsX50, w ∈ wsX5_carryOut := by decide +kernel
theorem lk_X5_carryOut_fieldLink_RX5_173_JoinedSketchesModel_padLength_I : Cond.fieldLink RX5 173 "JoinedSketchesModel" "padLength" "I" ∈ wsX5_carryOut := by decide +kernel
theorem lk_X5_carryOut_fieldLink_RX5_184_JoinedSketchesModel_at_I : Cond.fieldLink RX5 184 "JoinedSketchesModel" "at" "I" ∈ wsX5_carryOut := by decide +kernel
theorem mf_X5_carryOut : js_M yX5_carryOut cX5_carryOut 3 (some .int) wsX5_carryOut 0 := ⟨⟨_, rfl⟩, by decide +kernel, by decide +kernel, by decide +kernel, by decide +kernel⟩
set_option maxHeartbeats 4000000 in
set_option maxRecDepth 100000 in
theorem c_X5_carryOut (la : Launch) {y : js_L} (hy : js_Dy y) {G : js_G} {c : js_C} (hC : mr_C G c) : js_Ci la y yX5_carryOut wsX5_carryOut 8 168 [.ref (js_ad y (191))] G (fun r G' => mP (ms_carryOut c) r G G') := by
  have hpl := hC.2.2.2.2.1
  refine js_ofi mf_X5_carryOut (Nat.le_of_ble_eq_true rfl) hy (fun X F hr => ?_)
  replace F : js_F X y cX5_carryOut 3 RX5 wsX5_carryOut 8 168 := F
  show js_W X y 3 _ G 0 [(0, .ref (js_ad y (191)))] []
  refine js_aload_n (pc := 0) 0 F rfl dX5_carryOut_0 ?_
  refine js_calli (pc := 1) F (c_X5_findFault _ hy (G := G) (p := c.2.2.2) hC.2.2.2) mf_X5_findFault gX5_carryOut_X5_findFault rfl (by decide) (by decide) (js_ct_M) rfl rfl rfl (Nat.le_of_ble_eq_true rfl) dX5_carryOut_1 ?_
  rintro _ G0 ⟨rfl, f0⟩
  refine js_bipush (pc := 4) (v := (-6)) F (by decide) dX5_carryOut_4 ?_
  refine js_icmp_eq (pc := 6) (tgt := 12) F dX5_carryOut_6 (by decide) (fun h6 => ?_) (fun h6 => ?_)
  · skip
    have hfl := (jp_fa_none hpl).mp h6
    have hC0 : mr_C G0 c := hC.mfX f0
    refine js_aload_n (pc := 12) 0 F rfl dX5_carryOut_12 ?_
    refine js_callv (pc := 13) F (c_X5_record _ hy (G := G0) (h := c.2.1) hC0.2.1 hC0.1) mf_X5_record gX5_carryOut_X5_record rfl (by decide) (by decide) (js_ct_M) rfl rfl rfl (Nat.le_of_ble_eq_true rfl) dX5_carryOut_13 ?_
    rintro G1 ⟨q1, q2⟩
    have hC1 := hC0.rec q1 q2
    have hX : js_frM G G1 := (js_frM.X f0).tr (js_frM.H q2)
    refine js_iconst (pc := 16) (v := nI (0)) F (by decide) dX5_carryOut_16 ?_
    refine js_istore_n (pc := 17) (lv2 := [(0, .ref (js_ad y (191))), (1, .int (nI (0)))]) F dX5_carryOut_17 (by decide) [1, 0] rfl ?_
    refine js_aload_n (pc := 18) 0 F rfl dX5_carryOut_18 ?_
    refine js_iconst (pc := 19) (v := nI (0)) F (by decide) dX5_carryOut_19 ?_
    refine jp_M_at (pc := 20) (v := nI (0)) F in_X5_carryOut_5 (lk_X5_carryOut_fieldLink_RX5_184_JoinedSketchesModel_at_I) dX5_carryOut_20 ?_
    refine js_iconst (pc := 23) (v := nI (1)) F (by decide) dX5_carryOut_23 ?_
    refine js_istore_n (pc := 24) (lv2 := [(0, .ref (js_ad y (191))), (1, .int (nI (0))), (2, .int (nI (1)))]) F dX5_carryOut_24 (by decide) [1, 2, 0] rfl ?_
    have L25 : ∀ (fu25 : Nat) (k : Nat) (g : Nat) (b : Nat) (s : js_T) (G2 : js_G) (hg : g ≤ 1) (hb8 : b ≤ c.2.2.2.length) (hk80 : k ≤ 80) (hinv : jk_inv c.2.2.2 c.1 k b s g) (hT2 : mr_T G2 192 0 s) (hP2 : mr_P G2 c.2.2.2) (hb : G2 191 8 = nI b) (hE : (∀ a, 193 ≤ a → a ≤ 196 → G2 a = G1 a) ∧ G2 191 2 = G1 191 2 ∧ js_frM G1 G2) (hfu25 : (c.2.2.2.length - b) + g < fu25), js_W X y 3 (js_Qi X y (fun r G' => mP (ms_carryOut c) r G G')) G2 25 [(0, .ref (js_ad y (191))), (1, .int (nI (k))), (2, .int (nI (g)))] [] := by
      intro fu25
      induction fu25 with
      | zero => intro k g b s G2 hg hb8 hk80 hinv hT2 hP2 hb hE hfu25; exact absurd hfu25 (Nat.not_lt_zero _)
      | succ fu25 ih25 =>
        intro k g b s G2 hg hb8 hk80 hinv hT2 hP2 hb hE hfu25
        refine js_iload_n (pc := 25) 2 F rfl dX5_carryOut_25 ?_
        refine js_if_eqN (pc := 26) (a := g) (tgt := 71) F (by omega) dX5_carryOut_26 (by decide) (fun h26 => ?_) (fun h26 => ?_)
        · skip
          refine js_aload_n (pc := 71) 0 F rfl dX5_carryOut_71 ?_
          refine js_iconst (pc := 72) (v := nI (0)) F (by decide) dX5_carryOut_72 ?_
          refine jp_M_padLength (pc := 73) (v := nI (0)) F in_X5_carryOut_5 (lk_X5_carryOut_fieldLink_RX5_173_JoinedSketchesModel_padLength_I) dX5_carryOut_73 ?_
          refine js_iload_n (pc := 76) 1 F rfl dX5_carryOut_76 ?_
          refine js_iret (pc := 77) F hr (rfl) ?_ dX5_carryOut_77
          exact mo_end (s0 := c.1) (h := c.2.1) (v := c.2.2.1) (p := c.2.2.2) hfl hX hC1 hE.1 hE.2.1 hE.2.2 hT2 (jk_end hinv (by omega))
        · skip
          refine js_aload_n (pc := 29) 0 F rfl dX5_carryOut_29 ?_
          refine jg_M_at (pc := 30) (v := nI (b)) F in_X5_carryOut_5 (lk_X5_carryOut_fieldLink_RX5_184_JoinedSketchesModel_at_I) (hb) dX5_carryOut_30 ?_
          refine js_aload_n (pc := 33) 0 F rfl dX5_carryOut_33 ?_
          refine jg_M_padLength (pc := 34) (v := nI (c.2.2.2.length)) F in_X5_carryOut_5 (lk_X5_carryOut_fieldLink_RX5_173_JoinedSketchesModel_padLength_I) (hP2.1) dX5_carryOut_34 ?_
          refine js_icmp_geN (pc := 37) (a := b) (b := c.2.2.2.length) (tgt := 71) F (by omega) (by omega) dX5_carryOut_37 (by decide) (fun h37 => ?_) (fun h37 => ?_)
          · skip
            refine js_aload_n (pc := 71) 0 F rfl dX5_carryOut_71 ?_
            refine js_iconst (pc := 72) (v := nI (0)) F (by decide) dX5_carryOut_72 ?_
            refine jp_M_padLength (pc := 73) (v := nI (0)) F in_X5_carryOut_5 (lk_X5_carryOut_fieldLink_RX5_173_JoinedSketchesModel_padLength_I) dX5_carryOut_73 ?_
            refine js_iload_n (pc := 76) 1 F rfl dX5_carryOut_76 ?_
            refine js_iret (pc := 77) F hr (rfl) ?_ dX5_carryOut_77
            exact mo_end (s0 := c.1) (h := c.2.1) (v := c.2.2.1) (p := c.2.2.2) hfl hX hC1 hE.1 hE.2.1 hE.2.2 hT2 (jk_end hinv (by omega))
          · skip
            refine js_aload_n (pc := 40) 0 F rfl dX5_carryOut_40 ?_
            have hg1 : g = 1 := by omega
            subst hg1
            have hord := jk_ord hinv hpl (by omega)
            have hk3 := jk_k hinv (by omega)
            refine js_calli (pc := 41) F (c_X5_readsOrder _ hy (G := G2) (p := c.2.2.2) (hP2) (a := b) (hb) (by omega)) mf_X5_readsOrder gX5_carryOut_X5_readsOrder rfl (by decide) (by decide) (js_ct_M) rfl rfl rfl (Nat.le_of_ble_eq_true rfl) dX5_carryOut_41 ?_
            rintro _ G41 ⟨rfl, e41, n41, f41⟩
            have P41 := mr_P.mfX (hP2) f41
            obtain ⟨l41a, l41b, l41c⟩ := jp_ord_le (p := c.2.2.2) (a := b) (by omega)
            refine js_pop (pc := 44) rfl F dX5_carryOut_44 ?_
            refine js_aload_n (pc := 45) 0 F rfl dX5_carryOut_45 ?_
            refine js_bipush (pc := 46) (v := nI (59)) F (by decide) dX5_carryOut_46 ?_
            refine js_calli (pc := 48) F (c_X5_isNext _ hy (G := G41) (p := c.2.2.2) (P41) (a := (jp_ord c.2.2.2 b).2.1) (e41) (by omega) (w := 59) (by decide) (by decide)) mf_X5_isNext gX5_carryOut_X5_isNext rfl (by decide) (by decide) (js_ct_M) rfl rfl rfl (Nat.le_of_ble_eq_true rfl) dX5_carryOut_48 ?_
            rintro r48 G48 q48
            have ebk : G48 191 8 = nI (if jq c.2.2.2 (jp_ord c.2.2.2 b).2.1 = 59 then (jp_ord c.2.2.2 b).2.1 + 1 else (jp_ord c.2.2.2 b).2.1) := by rcases q48 with ⟨x, _, rfl⟩ | ⟨x, _, rfl⟩; (rw [if_pos x, js_st_s]; simp [upd]); (rw [if_neg x]; exact e41)
            have f48 : mfN G41 G48 := by rcases q48 with ⟨_, _, rfl⟩ | ⟨_, _, rfl⟩; exact mfN.a; exact mfN.rf
            have g48 : (∀ k, G48 198 k = G41 198 k) ∧ G48 191 12 = G41 191 12 ∧ ∀ a, a ≠ 191 → G48 a = G41 a := by rcases q48 with ⟨_, _, rfl⟩ | ⟨_, _, rfl⟩; exact ⟨fun k => by rw [js_st_n (by decide)], by rw [js_st_s]; exact if_neg (by decide), fun a ha => js_st_n ha⟩; exact ⟨fun _ => rfl, rfl, fun _ _ => rfl⟩
            have hnb : b + 2 ≤ (if jq c.2.2.2 (jp_ord c.2.2.2 b).2.1 = 59 then (jp_ord c.2.2.2 b).2.1 + 1 else (jp_ord c.2.2.2 b).2.1) := by have := l41c hord; split <;> omega
            have P48 := f48.P P41
            obtain ⟨N41, m41, i41, v41⟩ := n41 hord
            have hs41 := jp_ord_s hord
            have N48 : mr_N G48 (jp_ord c.2.2.2 b).2.2 := fun k hk => (g48.1 k).trans (N41 k hk)
            have T48 : mr_T G48 192 0 s := (hT2.N f41 (by decide) (by decide) (by decide)).co (g48.2.2 192 (by decide))
            have E48 : (∀ a, 193 ≤ a → a ≤ 196 → G48 a = G1 a) ∧ G48 191 2 = G1 191 2 ∧ js_frM G1 G48 := ⟨fun a x z => ((g48.2.2 a (by omega)).trans (f41.1 a (by omega) (by omega) (by omega))).trans (hE.1 a x z), (f48.1.2.1.trans f41.2.1).trans hE.2.1, (hE.2.2.tr (js_frM.X f41)).tr (js_frM.X f48.1)⟩
            refine js_pop (pc := 51) rfl F dX5_carryOut_51 ?_
            refine js_aload_n (pc := 52) 0 F rfl dX5_carryOut_52 ?_
            refine js_calli (pc := 53) F (c_X5_canDo _ hy (G := G48) (s := s) T48 (i := jq c.2.2.2 b - 48) (by have := hs41.2; omega) N48 (verb := jq c.2.2.2 (b + 1)) (jp_ord_ok hord) (f48.2.1.trans i41) (f48.2.2.trans v41) (P48.q _)) mf_X5_canDo gX5_carryOut_X5_canDo rfl (by decide) (by decide) (js_ct_M) rfl rfl rfl (Nat.le_of_ble_eq_true rfl) dX5_carryOut_53 ?_
            rintro _ _ (⟨o53, rfl, rfl⟩ | ⟨⟨s53, o53⟩, rfl, rfl⟩)
            · skip
              refine js_istore_n (pc := 56) (lv2 := [(0, .ref (js_ad y (191))), (1, .int (nI (k))), (2, .int (nI (0)))]) F dX5_carryOut_56 (by decide) [1, 2, 0] rfl ?_
              refine js_iload_n (pc := 57) 2 F rfl dX5_carryOut_57 ?_
              refine js_if_eqN (pc := 58) (a := 0) (tgt := 25) F (by decide) dX5_carryOut_58 (by decide) (fun _ => ?_) (fun h58 => by exfalso; revert h58; decide)
              exact ih25 k 0 (if jq c.2.2.2 (jp_ord c.2.2.2 b).2.1 = 59 then (jp_ord c.2.2.2 b).2.1 + 1 else (jp_ord c.2.2.2 b).2.1) s G48 (by decide) (by split; exact jq_lt (by omega); omega) (by omega) (jk_none hinv hpl (by omega) o53) (T48) (P48) (ebk) (E48) (by omega)
            · skip
              refine js_istore_n (pc := 56) (lv2 := [(0, .ref (js_ad y (191))), (1, .int (nI (k))), (2, .int (nI (1)))]) F dX5_carryOut_56 (by decide) [1, 2, 0] rfl ?_
              refine js_iload_n (pc := 57) 2 F rfl dX5_carryOut_57 ?_
              refine js_if_eqN (pc := 58) (a := 1) (tgt := 25) F (by decide) dX5_carryOut_58 (by decide) (fun h58 => by exfalso; revert h58; decide) (fun _ => ?_)
              refine js_aload_n (pc := 61) 0 F rfl dX5_carryOut_61 ?_
              refine js_callv (pc := 62) F (c_X5_does _ hy (G := G48) (s := s) T48 (i := jq c.2.2.2 b - 48) (by have := hs41.2; omega) N48 (verb := jq c.2.2.2 (b + 1)) (jp_ord_ok hord) (f48.2.1.trans i41) (f48.2.2.trans v41) (P48.q _) (fun q => g48.2.1.trans (m41 q)) (s' := s53) o53) mf_X5_does gX5_carryOut_X5_does rfl (by decide) (by decide) (js_ct_M) rfl rfl rfl (Nat.le_of_ble_eq_true rfl) dX5_carryOut_62 ?_
              rintro G62 ⟨p1, p2⟩
              refine js_iinc (pc := 65) (v := nI (k + 1)) (lv2 := [(0, .ref (js_ad y (191))), (1, .int (nI (k + 1))), (2, .int (nI (1)))]) F dX5_carryOut_65 1 rfl (nI_add _ _) (by decide) [1, 0, 2] rfl ?_
              refine js_goto (pc := 68) (tgt := 25) F dX5_carryOut_68 (by decide) ?_
              exact ih25 (k + 1) 1 (if jq c.2.2.2 (jp_ord c.2.2.2 b).2.1 = 59 then (jp_ord c.2.2.2 b).2.1 + 1 else (jp_ord c.2.2.2 b).2.1) s53 G62 (by decide) (by split; exact jq_lt (by omega); omega) (by omega) (jk_some hinv hpl (by omega) o53) (p1) ((show mr_P G62 c.2.2.2 from ⟨by rw [p2 191 (by decide) (by decide)]; exact P48.1, P48.2.1, fun k hk => by rw [p2 196 (by decide) (by decide)]; exact P48.2.2 k hk⟩)) (by rw [p2 191 (by decide) (by decide)]; exact ebk) (⟨fun a x z => (p2 a (by omega) (by omega)).trans (E48.1 a x z), by rw [p2 191 (by decide) (by decide)]; exact E48.2.1, E48.2.2.tr (fun a x => p2 a (by omega) (by omega))⟩) (by omega)
    exact L25 (_ + 1) 0 1 0 c.1 (js_st G1 (191) (8) (nI (0))) (by decide) (Nat.zero_le _) (by decide) (Or.inl ⟨rfl, by decide, hfl, rfl⟩) (hC1.1.co (js_st_n (by decide))) (mr_P.mfX hC1.2.2.2 (mfX.st (by decide) (by decide))) (by rw [js_st_s]; simp [upd]) (⟨fun a x z => js_st_n (by omega), by rw [js_st_s]; exact if_neg (by decide), js_frM.st (by decide)⟩) (Nat.lt_succ_self _)
  · skip
    refine js_bipush (pc := 9) (v := (-3)) F (by decide) dX5_carryOut_9 ?_
    refine js_iret (pc := 11) F hr (rfl) ?_ dX5_carryOut_11
    show mP (ms_carryOut c) _ _ _
    rw [show ms_carryOut c = (-3, c) from if_pos (fun z => h6 ((jp_fa_none hpl).mpr z))]
    exact ⟨rfl, hC.mfX f0, js_frM.X f0⟩
theorem in_X5_put_5 : ∀ w ∈ wsX50, w ∈ wsX5_put := by decide +kernel
theorem lk_X5_put_constantLong_RX5_182_255 : Cond.constantLong RX5 182 (255) ∈ wsX5_put := by decide +kernel
theorem lk_X5_put_fieldLink_RX5_173_JoinedSketchesModel_padLength_I : Cond.fieldLink RX5 173 "JoinedSketchesModel" "padLength" "I" ∈ wsX5_put := by decide +kernel
theorem lk_X5_put_fieldLink_RX5_22_JoinedSketchesModel_pad_I : Cond.fieldLink RX5 22 "JoinedSketchesModel" "pad" "[I" ∈ wsX5_put := by decide +kernel
theorem mf_X5_put : js_M yX5_put cX5_put 8 (some .int) wsX5_put 1 := ⟨⟨_, rfl⟩, by decide +kernel, by decide +kernel, by decide +kernel, by decide +kernel⟩
set_option maxHeartbeats 4000000 in
set_option maxRecDepth 100000 in
theorem c_X5_put (la : Launch) {y : js_L} (hy : js_Dy y) {G : js_G} {c : js_C} (hC : mr_C G c) {n : Nat} (hn : n < 2 ^ 64) : js_Ci la y yX5_put wsX5_put 2 34 [.ref (js_ad y (191)), .long (lN (n))] G (fun r G' => mP (ms_put c n) r G G') := by
  have hpl := hC.2.2.2.2.1
  have hml := jc_many_le n 8 0
  refine js_ofi mf_X5_put (Nat.le_of_ble_eq_true rfl) hy (fun X F hr => ?_)
  replace F : js_F X y cX5_put 8 RX5 wsX5_put 2 34 := F
  show js_W X y 8 _ G 0 [(0, .ref (js_ad y (191))), (1, .long (lN (n)))] []
  refine js_iconst (pc := 0) (v := nI (0)) F (by decide) dX5_put_0 ?_
  refine js_istore_n (pc := 1) (lv2 := [(0, .ref (js_ad y (191))), (1, .long (lN (n))), (3, .int (nI (0)))]) F dX5_put_1 (by decide) [1, 2, 0] rfl ?_
  refine js_lload_n (pc := 2) 1 F rfl dX5_put_2 ?_
  refine js_valL (v := lN (n / 2 ^ (8 * 0))) (by rw [show 8 * 0 = 0 from rfl, Nat.pow_zero, Nat.div_one]) ?_
  refine js_lstore (pc := 3) (lv2 := [(0, .ref (js_ad y (191))), (1, .long (lN (n))), (3, .int (nI (0))), (4, .long (lN (n / 2 ^ (8 * 0))))]) F dX5_put_3 (by decide) [1, 2, 3, 0] rfl ?_
  refine js_iconst (pc := 5) (v := nI (1)) F (by decide) dX5_put_5 ?_
  refine js_istore (pc := 6) (lv2 := [(0, .ref (js_ad y (191))), (1, .long (lN (n))), (3, .int (nI (0))), (4, .long (lN (n / 2 ^ (8 * 0)))), (6, .int (nI (1)))]) F dX5_put_6 (by decide) [1, 2, 3, 4, 0] rfl ?_
  have L8 : ∀ (fu8 : Nat) (k : Nat) (e : Nat) (hk : k ≤ 8) (he : e ≤ 1) (hinv : jc_inv n k e) (hfu8 : 8 - k < fu8), js_W X y 8 (js_Qi X y (fun r G' => mP (ms_put c n) r G G')) G 8 [(0, .ref (js_ad y (191))), (1, .long (lN (n))), (3, .int (nI (k))), (4, .long (lN (n / 2 ^ (8 * k)))), (6, .int (nI (e)))] [] := by
    intro fu8
    induction fu8 with
    | zero => intro k e hk he hinv hfu8; exact absurd hfu8 (Nat.not_lt_zero _)
    | succ fu8 ih8 =>
      intro k e hk he hinv hfu8
      have hnk : n / 2 ^ (8 * k) ≤ n := Nat.div_le_self _ _
      have hjc : jc n k < 256 := Nat.mod_lt _ (by decide)
      refine js_iload_n (pc := 8) 2 F rfl dX5_put_8 ?_
      refine js_bipush (pc := 9) (v := nI (8)) F (by decide) dX5_put_9 ?_
      refine js_icmp_geN (pc := 11) (a := k) (b := 8) (tgt := 67) F (by omega) (by decide) dX5_put_11 (by decide) (fun h11 => ?_) (fun h11 => ?_)
      · skip
        refine js_iload_n (pc := 67) 2 F rfl dX5_put_67 ?_
        refine js_if_eqN (pc := 68) (a := k) (tgt := 83) F (by omega) dX5_put_68 (by decide) (fun h68 => ?_) (fun h68 => ?_)
        · skip
          refine js_bipush (pc := 83) (v := (-2)) F (by decide) dX5_put_83 ?_
          refine js_iret (pc := 85) F hr (rfl) ?_ dX5_put_85
          show mP (ms_put c n) _ _ _
          rw [show ms_put c n = (-2, c) from if_pos (jc_bad hinv hk hn (by first | exact Or.inr h22k | exact Or.inl (by omega)) (by first | exact Or.inl h68 | exact Or.inr (Or.inl h73) | exact Or.inr (Or.inr (fun z => h80 ((jn_l0 (by omega)).mpr z)))))]
          exact ⟨rfl, hC, js_frM.rf⟩
        · skip
          refine js_iload (pc := 71) 4 F rfl dX5_put_71 ?_
          refine js_if_eqN (pc := 73) (a := e) (tgt := 83) F (by omega) dX5_put_73 (by decide) (fun h73 => ?_) (fun h73 => ?_)
          · skip
            refine js_bipush (pc := 83) (v := (-2)) F (by decide) dX5_put_83 ?_
            refine js_iret (pc := 85) F hr (rfl) ?_ dX5_put_85
            show mP (ms_put c n) _ _ _
            rw [show ms_put c n = (-2, c) from if_pos (jc_bad hinv hk hn (by first | exact Or.inr h22k | exact Or.inl (by omega)) (by first | exact Or.inl h68 | exact Or.inr (Or.inl h73) | exact Or.inr (Or.inr (fun z => h80 ((jn_l0 (by omega)).mpr z)))))]
            exact ⟨rfl, hC, js_frM.rf⟩
          · skip
            refine js_lload (pc := 76) 3 F rfl dX5_put_76 ?_
            refine js_lconst (pc := 78) (v := lN 0) F rfl dX5_put_78 ?_
            refine js_lcmp (pc := 79) F dX5_put_79 ?_
            refine js_if_eq (pc := 80) (tgt := 86) F dX5_put_80 (by decide) (fun h80 => ?_) (fun h80 => ?_)
            · skip
              have hmk := jc_good hinv h73 ((jn_l0 (by omega)).mp h80)
              refine js_aload_n (pc := 86) 0 F rfl dX5_put_86 ?_
              refine jg_M_padLength (pc := 87) (v := nI (c.2.2.2.length)) F in_X5_put_5 (lk_X5_put_fieldLink_RX5_173_JoinedSketchesModel_padLength_I) (hC.2.2.2.1) dX5_put_87 ?_
              refine js_iload_n (pc := 90) 2 F rfl dX5_put_90 ?_
              refine js_iaddN (pc := 91) (a := c.2.2.2.length) (b := k) F dX5_put_91 ?_
              refine js_bipush (pc := 92) (v := nI (80)) F (by decide) dX5_put_92 ?_
              refine js_icmp_leN (pc := 94) (a := c.2.2.2.length + k) (b := 80) (tgt := 100) F (by omega) (by decide) dX5_put_94 (by decide) (fun h94 => ?_) (fun h94 => ?_)
              · skip
                refine js_iload_n (pc := 100) 2 F rfl dX5_put_100 ?_
                refine js_iconst (pc := 101) (v := nI (1)) F (by decide) dX5_put_101 ?_
                refine js_isubN (pc := 102) (a := k) (b := 1) F (by omega) dX5_put_102 ?_
                refine js_istore (pc := 103) (lv2 := [(0, .ref (js_ad y (191))), (1, .long (lN (n))), (3, .int (nI (k))), (4, .long (lN (n / 2 ^ (8 * k)))), (6, .int (nI (e))), (7, .int (nI (k - 1)))]) F dX5_put_103 (by decide) [1, 2, 3, 4, 5, 0] rfl ?_
                have L105 : ∀ (fu105 : Nat) (l : Nat) (x : Int32) (q : List Nat) (G1 : js_G) (hl : l ≤ k) (hx : x = nI l - nI 1) (hq : q ++ jc_by n l = c.2.2.2 ++ jc_by n k) (hql : q.length + l = c.2.2.2.length + k) (hP1 : mr_P G1 q) (hf : mfP G G1) (hfu105 : l < fu105), js_W X y 8 (js_Qi X y (fun r G' => mP (ms_put c n) r G G')) G1 105 [(0, .ref (js_ad y (191))), (1, .long (lN (n))), (3, .int (nI (k))), (7, .int (x))] [] := by
                  intro fu105
                  induction fu105 with
                  | zero => intro l x q G1 hl hx hq hql hP1 hf hfu105; exact absurd hfu105 (Nat.not_lt_zero _)
                  | succ fu105 ih105 =>
                    intro l x q G1 hl hx hq hql hP1 hf hfu105
                    refine js_iload (pc := 105) 3 F rfl dX5_put_105 ?_
                    refine js_if_ltM (pc := 107) (l := l) (tgt := 147) F hx (by omega) dX5_put_107 (by decide) (fun h107 => ?_) (fun h107 => ?_)
                    · skip
                      refine js_aload_n (pc := 147) 0 F rfl dX5_put_147 ?_
                      refine jg_M_padLength (pc := 148) (v := nI (q.length)) F in_X5_put_5 (lk_X5_put_fieldLink_RX5_173_JoinedSketchesModel_padLength_I) (hP1.1) dX5_put_148 ?_
                      refine js_iret (pc := 151) F hr (rfl) ?_ dX5_put_151
                      show mP (ms_put c n) _ _ _
                      subst h107
                      have hq2 : q = c.2.2.2 ++ jc_by n (jc_many n 8 0) := by rw [hmk, ← hq]; exact (List.append_nil q).symm
                      rw [show ms_put c n = (nI (c.2.2.2.length + jc_many n 8 0), (c.1, c.2.1, c.2.2.1, q)) from by unfold ms_put; rw [if_neg (by omega), if_neg (by omega), ← hq2]]
                      exact ⟨by rw [hmk, ← hql]; rfl, hC.P hf hP1, js_frM.P hf⟩
                    · skip
                      refine js_aload_n (pc := 110) 0 F rfl dX5_put_110 ?_
                      refine jg_M_pad (pc := 111) F in_X5_put_5 (lk_X5_put_fieldLink_RX5_22_JoinedSketchesModel_pad_I) dX5_put_111 ?_
                      refine js_aload_n (pc := 114) 0 F rfl dX5_put_114 ?_
                      refine jg_M_padLength (pc := 115) (v := nI (q.length)) F in_X5_put_5 (lk_X5_put_fieldLink_RX5_173_JoinedSketchesModel_padLength_I) (hP1.1) dX5_put_115 ?_
                      refine js_lload_n (pc := 118) 1 F rfl dX5_put_118 ?_
                      refine js_bipush (pc := 119) (v := nI (8)) F (by decide) dX5_put_119 ?_
                      refine js_iload (pc := 121) 3 F rfl dX5_put_121 ?_
                      refine js_val (v := nI (l - 1)) (by rw [hx]; exact pk_sub (by omega)) ?_
                      refine js_imulN (pc := 123) (a := 8) (b := l - 1) F dX5_put_123 ?_
                      refine js_lushr (pc := 124) F dX5_put_124 ?_
                      refine js_valL (v := lN (n / 2 ^ (8 * (l - 1)))) (jn_lshr hn (by omega)) ?_
                      refine js_ldc2 (pc := 125) (v := lN (255)) F (lk_X5_put_constantLong_RX5_182_255) dX5_put_125 ?_
                      refine js_land (pc := 128) F dX5_put_128 ?_
                      refine js_l2i (pc := 129) F dX5_put_129 ?_
                      refine js_val (v := nI (jc n (l - 1))) (jn_land _) ?_
                      have hch := jc_many_ok (n := n) 8 0 (l - 1) (Nat.zero_le _) (by omega)
                      refine js_iast (pc := 130) (j := q.length) F (by decide) (fun _ => js_ct_Mp) rfl (by omega) (by decide) dX5_put_130 ?_
                      refine js_aload_n (pc := 131) 0 F rfl dX5_put_131 ?_
                      refine js_dup (pc := 132) rfl F dX5_put_132 ?_
                      refine jg_M_padLength (pc := 133) (v := nI (q.length)) F in_X5_put_5 (lk_X5_put_fieldLink_RX5_173_JoinedSketchesModel_padLength_I) (by rw [js_st_n (by decide)]; all_goals exact (hP1.1)) dX5_put_133 ?_
                      refine js_iconst (pc := 136) (v := nI (1)) F (by decide) dX5_put_136 ?_
                      refine js_iaddN (pc := 137) (a := q.length) (b := 1) F dX5_put_137 ?_
                      refine jp_M_padLength (pc := 138) (v := nI (q.length + 1)) F in_X5_put_5 (lk_X5_put_fieldLink_RX5_173_JoinedSketchesModel_padLength_I) dX5_put_138 ?_
                      refine js_iinc (pc := 141) (v := x + -1) (lv2 := [(0, .ref (js_ad y (191))), (1, .long (lN (n))), (3, .int (nI (k))), (7, .int (x + -1))]) F dX5_put_141 3 rfl (rfl) (by decide) [1, 2, 3, 0] rfl ?_
                      refine js_goto (pc := 144) (tgt := 105) F dX5_put_144 (by decide) ?_
                      exact ih105 (l - 1) (x + -1) (q ++ [jc n (l - 1)]) (js_st (js_st G1 (196) (q.length) (nI (jc n (l - 1)))) (191) (6) (nI (q.length + 1))) (by omega) (jx_dec h107 hx) (by rw [List.append_assoc]; show q ++ jc_by n ((l - 1) + 1) = _; rw [show l - 1 + 1 = l by omega]; exact hq) (by simp; omega) (hP1.push (by omega) hch) (hf.tr mfP.two) (by omega)
                refine js_sub (lv2 := [(0, .ref (js_ad y (191))), (1, .long (lN (n))), (3, .int (nI (k))), (7, .int (nI (k - 1)))]) [0, 1, 2, 5] rfl ?_
                exact L105 (_ + 1) k (nI (k - 1)) c.2.2.2 G (Nat.le_refl _) ((pk_sub (by omega)).symm) (rfl) (rfl) (hC.2.2.2) (mfP.rf) (Nat.lt_succ_self _)
              · skip
                refine js_bipush (pc := 97) (v := (-4)) F (by decide) dX5_put_97 ?_
                refine js_iret (pc := 99) F hr (rfl) ?_ dX5_put_99
                show mP (ms_put c n) _ _ _
                rw [show ms_put c n = (-4, c) from by unfold ms_put; rw [if_neg (by omega), if_pos (by omega)]]
                exact ⟨rfl, hC, js_frM.rf⟩
            · skip
              refine js_bipush (pc := 83) (v := (-2)) F (by decide) dX5_put_83 ?_
              refine js_iret (pc := 85) F hr (rfl) ?_ dX5_put_85
              show mP (ms_put c n) _ _ _
              rw [show ms_put c n = (-2, c) from if_pos (jc_bad hinv hk hn (by first | exact Or.inr h22k | exact Or.inl (by omega)) (by first | exact Or.inl h68 | exact Or.inr (Or.inl h73) | exact Or.inr (Or.inr (fun z => h80 ((jn_l0 (by omega)).mpr z)))))]
              exact ⟨rfl, hC, js_frM.rf⟩
      · skip
        refine js_lload (pc := 14) 3 F rfl dX5_put_14 ?_
        refine js_ldc2 (pc := 16) (v := lN (255)) F (lk_X5_put_constantLong_RX5_182_255) dX5_put_16 ?_
        refine js_land (pc := 19) F dX5_put_19 ?_
        refine js_valL (v := lN (jc n k)) (jn_landL _) ?_
        refine js_lconst (pc := 20) (v := lN 0) F rfl dX5_put_20 ?_
        refine js_lcmp (pc := 21) F dX5_put_21 ?_
        refine js_if_eq (pc := 22) (tgt := 67) F dX5_put_22 (by decide) (fun h22 => ?_) (fun h22 => ?_)
        · skip
          have h22k : jc n k = 0 := (jn_l0 (by omega)).mp h22
          refine js_iload_n (pc := 67) 2 F rfl dX5_put_67 ?_
          refine js_if_eqN (pc := 68) (a := k) (tgt := 83) F (by omega) dX5_put_68 (by decide) (fun h68 => ?_) (fun h68 => ?_)
          · skip
            refine js_bipush (pc := 83) (v := (-2)) F (by decide) dX5_put_83 ?_
            refine js_iret (pc := 85) F hr (rfl) ?_ dX5_put_85
            show mP (ms_put c n) _ _ _
            rw [show ms_put c n = (-2, c) from if_pos (jc_bad hinv hk hn (by first | exact Or.inr h22k | exact Or.inl (by omega)) (by first | exact Or.inl h68 | exact Or.inr (Or.inl h73) | exact Or.inr (Or.inr (fun z => h80 ((jn_l0 (by omega)).mpr z)))))]
            exact ⟨rfl, hC, js_frM.rf⟩
          · skip
            refine js_iload (pc := 71) 4 F rfl dX5_put_71 ?_
            refine js_if_eqN (pc := 73) (a := e) (tgt := 83) F (by omega) dX5_put_73 (by decide) (fun h73 => ?_) (fun h73 => ?_)
            · skip
              refine js_bipush (pc := 83) (v := (-2)) F (by decide) dX5_put_83 ?_
              refine js_iret (pc := 85) F hr (rfl) ?_ dX5_put_85
              show mP (ms_put c n) _ _ _
              rw [show ms_put c n = (-2, c) from if_pos (jc_bad hinv hk hn (by first | exact Or.inr h22k | exact Or.inl (by omega)) (by first | exact Or.inl h68 | exact Or.inr (Or.inl h73) | exact Or.inr (Or.inr (fun z => h80 ((jn_l0 (by omega)).mpr z)))))]
              exact ⟨rfl, hC, js_frM.rf⟩
            · skip
              refine js_lload (pc := 76) 3 F rfl dX5_put_76 ?_
              refine js_lconst (pc := 78) (v := lN 0) F rfl dX5_put_78 ?_
              refine js_lcmp (pc := 79) F dX5_put_79 ?_
              refine js_if_eq (pc := 80) (tgt := 86) F dX5_put_80 (by decide) (fun h80 => ?_) (fun h80 => ?_)
              · skip
                have hmk := jc_good hinv h73 ((jn_l0 (by omega)).mp h80)
                refine js_aload_n (pc := 86) 0 F rfl dX5_put_86 ?_
                refine jg_M_padLength (pc := 87) (v := nI (c.2.2.2.length)) F in_X5_put_5 (lk_X5_put_fieldLink_RX5_173_JoinedSketchesModel_padLength_I) (hC.2.2.2.1) dX5_put_87 ?_
                refine js_iload_n (pc := 90) 2 F rfl dX5_put_90 ?_
                refine js_iaddN (pc := 91) (a := c.2.2.2.length) (b := k) F dX5_put_91 ?_
                refine js_bipush (pc := 92) (v := nI (80)) F (by decide) dX5_put_92 ?_
                refine js_icmp_leN (pc := 94) (a := c.2.2.2.length + k) (b := 80) (tgt := 100) F (by omega) (by decide) dX5_put_94 (by decide) (fun h94 => ?_) (fun h94 => ?_)
                · skip
                  refine js_iload_n (pc := 100) 2 F rfl dX5_put_100 ?_
                  refine js_iconst (pc := 101) (v := nI (1)) F (by decide) dX5_put_101 ?_
                  refine js_isubN (pc := 102) (a := k) (b := 1) F (by omega) dX5_put_102 ?_
                  refine js_istore (pc := 103) (lv2 := [(0, .ref (js_ad y (191))), (1, .long (lN (n))), (3, .int (nI (k))), (4, .long (lN (n / 2 ^ (8 * k)))), (6, .int (nI (e))), (7, .int (nI (k - 1)))]) F dX5_put_103 (by decide) [1, 2, 3, 4, 5, 0] rfl ?_
                  have L105 : ∀ (fu105 : Nat) (l : Nat) (x : Int32) (q : List Nat) (G1 : js_G) (hl : l ≤ k) (hx : x = nI l - nI 1) (hq : q ++ jc_by n l = c.2.2.2 ++ jc_by n k) (hql : q.length + l = c.2.2.2.length + k) (hP1 : mr_P G1 q) (hf : mfP G G1) (hfu105 : l < fu105), js_W X y 8 (js_Qi X y (fun r G' => mP (ms_put c n) r G G')) G1 105 [(0, .ref (js_ad y (191))), (1, .long (lN (n))), (3, .int (nI (k))), (7, .int (x))] [] := by
                    intro fu105
                    induction fu105 with
                    | zero => intro l x q G1 hl hx hq hql hP1 hf hfu105; exact absurd hfu105 (Nat.not_lt_zero _)
                    | succ fu105 ih105 =>
                      intro l x q G1 hl hx hq hql hP1 hf hfu105
                      refine js_iload (pc := 105) 3 F rfl dX5_put_105 ?_
                      refine js_if_ltM (pc := 107) (l := l) (tgt := 147) F hx (by omega) dX5_put_107 (by decide) (fun h107 => ?_) (fun h107 => ?_)
                      · skip
                        refine js_aload_n (pc := 147) 0 F rfl dX5_put_147 ?_
                        refine jg_M_padLength (pc := 148) (v := nI (q.length)) F in_X5_put_5 (lk_X5_put_fieldLink_RX5_173_JoinedSketchesModel_padLength_I) (hP1.1) dX5_put_148 ?_
                        refine js_iret (pc := 151) F hr (rfl) ?_ dX5_put_151
                        show mP (ms_put c n) _ _ _
                        subst h107
                        have hq2 : q = c.2.2.2 ++ jc_by n (jc_many n 8 0) := by rw [hmk, ← hq]; exact (List.append_nil q).symm
                        rw [show ms_put c n = (nI (c.2.2.2.length + jc_many n 8 0), (c.1, c.2.1, c.2.2.1, q)) from by unfold ms_put; rw [if_neg (by omega), if_neg (by omega), ← hq2]]
                        exact ⟨by rw [hmk, ← hql]; rfl, hC.P hf hP1, js_frM.P hf⟩
                      · skip
                        refine js_aload_n (pc := 110) 0 F rfl dX5_put_110 ?_
                        refine jg_M_pad (pc := 111) F in_X5_put_5 (lk_X5_put_fieldLink_RX5_22_JoinedSketchesModel_pad_I) dX5_put_111 ?_
                        refine js_aload_n (pc := 114) 0 F rfl dX5_put_114 ?_
                        refine jg_M_padLength (pc := 115) (v := nI (q.length)) F in_X5_put_5 (lk_X5_put_fieldLink_RX5_173_JoinedSketchesModel_padLength_I) (hP1.1) dX5_put_115 ?_
                        refine js_lload_n (pc := 118) 1 F rfl dX5_put_118 ?_
                        refine js_bipush (pc := 119) (v := nI (8)) F (by decide) dX5_put_119 ?_
                        refine js_iload (pc := 121) 3 F rfl dX5_put_121 ?_
                        refine js_val (v := nI (l - 1)) (by rw [hx]; exact pk_sub (by omega)) ?_
                        refine js_imulN (pc := 123) (a := 8) (b := l - 1) F dX5_put_123 ?_
                        refine js_lushr (pc := 124) F dX5_put_124 ?_
                        refine js_valL (v := lN (n / 2 ^ (8 * (l - 1)))) (jn_lshr hn (by omega)) ?_
                        refine js_ldc2 (pc := 125) (v := lN (255)) F (lk_X5_put_constantLong_RX5_182_255) dX5_put_125 ?_
                        refine js_land (pc := 128) F dX5_put_128 ?_
                        refine js_l2i (pc := 129) F dX5_put_129 ?_
                        refine js_val (v := nI (jc n (l - 1))) (jn_land _) ?_
                        have hch := jc_many_ok (n := n) 8 0 (l - 1) (Nat.zero_le _) (by omega)
                        refine js_iast (pc := 130) (j := q.length) F (by decide) (fun _ => js_ct_Mp) rfl (by omega) (by decide) dX5_put_130 ?_
                        refine js_aload_n (pc := 131) 0 F rfl dX5_put_131 ?_
                        refine js_dup (pc := 132) rfl F dX5_put_132 ?_
                        refine jg_M_padLength (pc := 133) (v := nI (q.length)) F in_X5_put_5 (lk_X5_put_fieldLink_RX5_173_JoinedSketchesModel_padLength_I) (by rw [js_st_n (by decide)]; all_goals exact (hP1.1)) dX5_put_133 ?_
                        refine js_iconst (pc := 136) (v := nI (1)) F (by decide) dX5_put_136 ?_
                        refine js_iaddN (pc := 137) (a := q.length) (b := 1) F dX5_put_137 ?_
                        refine jp_M_padLength (pc := 138) (v := nI (q.length + 1)) F in_X5_put_5 (lk_X5_put_fieldLink_RX5_173_JoinedSketchesModel_padLength_I) dX5_put_138 ?_
                        refine js_iinc (pc := 141) (v := x + -1) (lv2 := [(0, .ref (js_ad y (191))), (1, .long (lN (n))), (3, .int (nI (k))), (7, .int (x + -1))]) F dX5_put_141 3 rfl (rfl) (by decide) [1, 2, 3, 0] rfl ?_
                        refine js_goto (pc := 144) (tgt := 105) F dX5_put_144 (by decide) ?_
                        exact ih105 (l - 1) (x + -1) (q ++ [jc n (l - 1)]) (js_st (js_st G1 (196) (q.length) (nI (jc n (l - 1)))) (191) (6) (nI (q.length + 1))) (by omega) (jx_dec h107 hx) (by rw [List.append_assoc]; show q ++ jc_by n ((l - 1) + 1) = _; rw [show l - 1 + 1 = l by omega]; exact hq) (by simp; omega) (hP1.push (by omega) hch) (hf.tr mfP.two) (by omega)
                  refine js_sub (lv2 := [(0, .ref (js_ad y (191))), (1, .long (lN (n))), (3, .int (nI (k))), (7, .int (nI (k - 1)))]) [0, 1, 2, 5] rfl ?_
                  exact L105 (_ + 1) k (nI (k - 1)) c.2.2.2 G (Nat.le_refl _) ((pk_sub (by omega)).symm) (rfl) (rfl) (hC.2.2.2) (mfP.rf) (Nat.lt_succ_self _)
                · skip
                  refine js_bipush (pc := 97) (v := (-4)) F (by decide) dX5_put_97 ?_
                  refine js_iret (pc := 99) F hr (rfl) ?_ dX5_put_99
                  show mP (ms_put c n) _ _ _
                  rw [show ms_put c n = (-4, c) from by unfold ms_put; rw [if_neg (by omega), if_pos (by omega)]]
                  exact ⟨rfl, hC, js_frM.rf⟩
              · skip
                refine js_bipush (pc := 83) (v := (-2)) F (by decide) dX5_put_83 ?_
                refine js_iret (pc := 85) F hr (rfl) ?_ dX5_put_85
                show mP (ms_put c n) _ _ _
                rw [show ms_put c n = (-2, c) from if_pos (jc_bad hinv hk hn (by first | exact Or.inr h22k | exact Or.inl (by omega)) (by first | exact Or.inl h68 | exact Or.inr (Or.inl h73) | exact Or.inr (Or.inr (fun z => h80 ((jn_l0 (by omega)).mpr z)))))]
                exact ⟨rfl, hC, js_frM.rf⟩
        · skip
          replace h22 : ¬ jc n k = 0 := fun z => h22 ((jn_l0 (by omega)).mpr z)
          refine js_iload (pc := 25) 4 F rfl dX5_put_25 ?_
          refine js_if_eqN (pc := 27) (a := e) (tgt := 51) F (by omega) dX5_put_27 (by decide) (fun h27 => ?_) (fun h27 => ?_)
          · skip
            refine js_iconst (pc := 51) (v := nI (0)) F (by decide) dX5_put_51 ?_
            refine js_istore (pc := 52) (lv2 := [(0, .ref (js_ad y (191))), (1, .long (lN (n))), (3, .int (nI (k))), (4, .long (lN (n / 2 ^ (8 * k)))), (6, .int (nI (0)))]) F dX5_put_52 (by decide) [1, 2, 3, 4, 0] rfl ?_
            refine js_lload (pc := 54) 3 F rfl dX5_put_54 ?_
            refine js_bipush (pc := 56) (v := nI (8)) F (by decide) dX5_put_56 ?_
            refine js_lushr (pc := 58) F dX5_put_58 ?_
            refine js_valL (v := lN (n / 2 ^ (8 * (k + 1)))) ((jn_lshr (k := 8) (by omega) (by decide)).trans (congrArg lN (jc_next n k))) ?_
            refine js_lstore (pc := 59) (lv2 := [(0, .ref (js_ad y (191))), (1, .long (lN (n))), (3, .int (nI (k))), (4, .long (lN (n / 2 ^ (8 * (k + 1))))), (6, .int (nI (0)))]) F dX5_put_59 (by decide) [1, 2, 3, 0, 4] rfl ?_
            refine js_iinc (pc := 61) (v := nI (k + 1)) (lv2 := [(0, .ref (js_ad y (191))), (1, .long (lN (n))), (3, .int (nI (k + 1))), (4, .long (lN (n / 2 ^ (8 * (k + 1))))), (6, .int (nI (0)))]) F dX5_put_61 2 rfl (nI_add _ _) (by decide) [1, 2, 0, 3, 4] rfl ?_
            refine js_goto (pc := 64) (tgt := 8) F dX5_put_64 (by decide) ?_
            exact ih8 (k + 1) 0 (by omega) (by decide) (by first | exact jc_no hinv (by omega) h22 (Or.inr h44) | exact jc_no hinv (by omega) h22 (Or.inl h27)) (by omega)
          · skip
            refine js_lload (pc := 30) 3 F rfl dX5_put_30 ?_
            refine js_ldc2 (pc := 32) (v := lN (255)) F (lk_X5_put_constantLong_RX5_182_255) dX5_put_32 ?_
            refine js_land (pc := 35) F dX5_put_35 ?_
            refine js_l2i (pc := 36) F dX5_put_36 ?_
            refine js_val (v := nI (jc n k)) (jn_land _) ?_
            refine js_bipush (pc := 37) (v := nI (33)) F (by decide) dX5_put_37 ?_
            refine js_bipush (pc := 39) (v := nI (126)) F (by decide) dX5_put_39 ?_
            refine js_callsi (pc := 41) F (c_X5_within _ hy (v := nI (jc n k)) (lo := nI 33) (hi := nI 126)) mf_X5_within gX5_put_X5_within (by decide) rfl rfl (Nat.le_of_ble_eq_true rfl) dX5_put_41 ?_
            rintro _ _ ⟨rfl, rfl⟩
            rw [jw_di (by omega) (by decide) (by decide)]
            refine js_if_eqB (pc := 44) (tgt := 51) F dX5_put_44 (by decide) (fun h44 => ?_) (fun h44 => ?_)
            · skip
              refine js_iconst (pc := 51) (v := nI (0)) F (by decide) dX5_put_51 ?_
              refine js_istore (pc := 52) (lv2 := [(0, .ref (js_ad y (191))), (1, .long (lN (n))), (3, .int (nI (k))), (4, .long (lN (n / 2 ^ (8 * k)))), (6, .int (nI (0)))]) F dX5_put_52 (by decide) [1, 2, 3, 4, 0] rfl ?_
              refine js_lload (pc := 54) 3 F rfl dX5_put_54 ?_
              refine js_bipush (pc := 56) (v := nI (8)) F (by decide) dX5_put_56 ?_
              refine js_lushr (pc := 58) F dX5_put_58 ?_
              refine js_valL (v := lN (n / 2 ^ (8 * (k + 1)))) ((jn_lshr (k := 8) (by omega) (by decide)).trans (congrArg lN (jc_next n k))) ?_
              refine js_lstore (pc := 59) (lv2 := [(0, .ref (js_ad y (191))), (1, .long (lN (n))), (3, .int (nI (k))), (4, .long (lN (n / 2 ^ (8 * (k + 1))))), (6, .int (nI (0)))]) F dX5_put_59 (by decide) [1, 2, 3, 0, 4] rfl ?_
              refine js_iinc (pc := 61) (v := nI (k + 1)) (lv2 := [(0, .ref (js_ad y (191))), (1, .long (lN (n))), (3, .int (nI (k + 1))), (4, .long (lN (n / 2 ^ (8 * (k + 1))))), (6, .int (nI (0)))]) F dX5_put_61 2 rfl (nI_add _ _) (by decide) [1, 2, 0, 3, 4] rfl ?_
              refine js_goto (pc := 64) (tgt := 8) F dX5_put_64 (by decide) ?_
              exact ih8 (k + 1) 0 (by omega) (by decide) (by first | exact jc_no hinv (by omega) h22 (Or.inr h44) | exact jc_no hinv (by omega) h22 (Or.inl h27)) (by omega)
            · skip
              refine js_iconst (pc := 47) (v := nI (1)) F (by decide) dX5_put_47 ?_
              refine js_goto (pc := 48) (tgt := 52) F dX5_put_48 (by decide) ?_
              refine js_istore (pc := 52) (lv2 := [(0, .ref (js_ad y (191))), (1, .long (lN (n))), (3, .int (nI (k))), (4, .long (lN (n / 2 ^ (8 * k)))), (6, .int (nI (1)))]) F dX5_put_52 (by decide) [1, 2, 3, 4, 0] rfl ?_
              refine js_lload (pc := 54) 3 F rfl dX5_put_54 ?_
              refine js_bipush (pc := 56) (v := nI (8)) F (by decide) dX5_put_56 ?_
              refine js_lushr (pc := 58) F dX5_put_58 ?_
              refine js_valL (v := lN (n / 2 ^ (8 * (k + 1)))) ((jn_lshr (k := 8) (by omega) (by decide)).trans (congrArg lN (jc_next n k))) ?_
              refine js_lstore (pc := 59) (lv2 := [(0, .ref (js_ad y (191))), (1, .long (lN (n))), (3, .int (nI (k))), (4, .long (lN (n / 2 ^ (8 * (k + 1))))), (6, .int (nI (1)))]) F dX5_put_59 (by decide) [1, 2, 3, 0, 4] rfl ?_
              refine js_iinc (pc := 61) (v := nI (k + 1)) (lv2 := [(0, .ref (js_ad y (191))), (1, .long (lN (n))), (3, .int (nI (k + 1))), (4, .long (lN (n / 2 ^ (8 * (k + 1))))), (6, .int (nI (1)))]) F dX5_put_61 2 rfl (nI_add _ _) (by decide) [1, 2, 0, 3, 4] rfl ?_
              refine js_goto (pc := 64) (tgt := 8) F dX5_put_64 (by decide) ?_
              exact ih8 (k + 1) 1 (by omega) (by decide) (jc_yes (by rw [show e = 1 by omega] at hinv; exact hinv) (by omega) h22 h44) (by omega)
  exact L8 (_ + 1) 0 1 (by decide) (by decide) (Or.inl ⟨rfl, rfl⟩) (Nat.lt_succ_self _)
