theorem lk_X5_salt_constant_RX5_117_65535 : Cond.constant RX5 117 (65535) ∈ wsX5_salt := by decide +kernel
theorem mf_X5_salt : js_M yX5_salt cX5_salt 4 (some .int) wsX5_salt 1 := ⟨⟨_, rfl⟩, by decide +kernel, by decide +kernel, by decide +kernel, by decide +kernel⟩
set_option maxHeartbeats 4000000 in
set_option maxRecDepth 100000 in
theorem c_X5_salt_1 (la : Launch) {y : js_L} (hy : js_Dy y) {G : js_G} {c : js_C} (hC : mr_C G c) {x : Int32} (hx : jb x 65536) : js_Ci la y yX5_salt wsX5_salt 5 101 [.ref (js_ad y (191)), .int (x)] G (fun r G' => mP (ms_salt c x) r G G') := by
  refine js_ofi mf_X5_salt (Nat.le_of_ble_eq_true rfl) hy (fun X F hr => ?_)
  replace F : js_F X y cX5_salt 4 RX5 wsX5_salt 5 101 := F
  show js_W X y 4 _ G 0 [(0, .ref (js_ad y (191))), (1, .int (x))] []
  refine js_iload_n (pc := 0) 1 F rfl dX5_salt_0 ?_
  refine js_iconst (pc := 1) (v := nI (0)) F (by decide) dX5_salt_1 ?_
  refine js_ldc (pc := 2) (v := nI (65535)) F (lk_X5_salt_constant_RX5_117_65535) dX5_salt_2 ?_
  refine js_callsi (pc := 4) F (c_X5_within _ hy (v := x) (lo := nI (0)) (hi := nI (65535))) mf_X5_within gX5_salt_X5_within (by decide) rfl rfl (Nat.le_of_ble_eq_true rfl) dX5_salt_4 ?_
  rintro _ _ ⟨rfl, rfl⟩
  rw [jw_if (k := 65535) (by decide)]
  refine js_if_neB (pc := 7) (tgt := 13) F dX5_salt_7 (by decide) (fun h7 => by exact absurd hx h7) (fun h7 => ?_)
  refine js_bipush (pc := 10) (v := (-2)) F (by decide) dX5_salt_10 ?_
  refine js_iret (pc := 12) F hr (rfl) ?_ dX5_salt_12
  show mP (ms_salt c x) _ _ _
  rw [show ms_salt c x = (-2, c) from if_pos hx]
  exact ⟨rfl, hC, js_frM.rf⟩
theorem in_X5_salt_5 : ∀ w ∈ wsX50, w ∈ wsX5_salt := by decide +kernel
theorem lk_X5_salt_fieldLink_RX5_7_JoinedSketchesModel_state_I : Cond.fieldLink RX5 7 "JoinedSketchesModel" "state" "[I" ∈ wsX5_salt := by decide +kernel
set_option maxHeartbeats 4000000 in
set_option maxRecDepth 100000 in
theorem c_X5_salt_2 (la : Launch) {y : js_L} (hy : js_Dy y) {G : js_G} {c : js_C} (hC : mr_C G c) {v : Nat} (hv : v < 65536) : js_Ci la y yX5_salt wsX5_salt 5 101 [.ref (js_ad y (191)), .int (nI (v))] G (fun r G' => mP (ms_salt c (nI v)) r G G') := by
  refine js_ofi mf_X5_salt (Nat.le_of_ble_eq_true rfl) hy (fun X F hr => ?_)
  replace F : js_F X y cX5_salt 4 RX5 wsX5_salt 5 101 := F
  show js_W X y 4 _ G 0 [(0, .ref (js_ad y (191))), (1, .int (nI (v)))] []
  refine js_iload_n (pc := 0) 1 F rfl dX5_salt_0 ?_
  refine js_iconst (pc := 1) (v := nI (0)) F (by decide) dX5_salt_1 ?_
  refine js_ldc (pc := 2) (v := nI (65535)) F (lk_X5_salt_constant_RX5_117_65535) dX5_salt_2 ?_
  refine js_callsi (pc := 4) F (c_X5_within _ hy (v := nI (v)) (lo := nI (0)) (hi := nI (65535))) mf_X5_within gX5_salt_X5_within (by decide) rfl rfl (Nat.le_of_ble_eq_true rfl) dX5_salt_4 ?_
  rintro _ _ ⟨rfl, rfl⟩
  rw [jw_if (k := 65535) (by decide)]
  refine js_if_neB (pc := 7) (tgt := 13) F dX5_salt_7 (by decide) (fun h7 => ?_) (fun h7 => by exact absurd (jb_no hv (by decide)) h7)
  refine js_aload_n (pc := 13) 0 F rfl dX5_salt_13 ?_
  refine js_callv (pc := 14) F (c_X5_record _ hy (h := c.2.1) hC.2.1 hC.1) mf_X5_record gX5_salt_X5_record rfl (by decide) (by decide) (js_ct_M) rfl rfl rfl (Nat.le_of_ble_eq_true rfl) dX5_salt_14 ?_
  rintro G1 ⟨q1, q2⟩
  have hC1 := hC.rec q1 q2
  refine js_aload_n (pc := 17) 0 F rfl dX5_salt_17 ?_
  refine jg_M_state (pc := 18) F in_X5_salt_5 (lk_X5_salt_fieldLink_RX5_7_JoinedSketchesModel_state_I) dX5_salt_18 ?_
  refine js_iconst (pc := 21) (v := nI (0)) F (by decide) dX5_salt_21 ?_
  refine js_iald (pc := 22) (j := 0) (v := nI (c.1.1)) F (by decide) (js_ct_Ms) rfl (by omega) (by decide) (hC1.1.1) dX5_salt_22 ?_
  refine js_istore_n (pc := 23) (lv2 := [(0, .ref (js_ad y (191))), (1, .int (nI (v))), (2, .int (nI (c.1.1)))]) F dX5_salt_23 (by decide) [1, 2, 0] rfl ?_
  refine js_aload_n (pc := 24) 0 F rfl dX5_salt_24 ?_
  refine jg_M_state (pc := 25) F in_X5_salt_5 (lk_X5_salt_fieldLink_RX5_7_JoinedSketchesModel_state_I) dX5_salt_25 ?_
  refine js_iconst (pc := 28) (v := nI (0)) F (by decide) dX5_salt_28 ?_
  refine js_iload_n (pc := 29) 1 F rfl dX5_salt_29 ?_
  refine js_iast (pc := 30) (j := 0) F (by decide) (fun _ => js_ct_Ms) rfl (by omega) (by decide) dX5_salt_30 ?_
  refine js_iconst (pc := 31) (v := nI (0)) F (by decide) dX5_salt_31 ?_
  refine js_istore_n (pc := 32) (lv2 := [(0, .ref (js_ad y (191))), (1, .int (nI (v))), (2, .int (nI (c.1.1))), (3, .int (nI (0)))]) F dX5_salt_32 (by decide) [1, 2, 3, 0] rfl ?_
  have L33 : ∀ (fu33 : Nat) (i : Nat) (G2 : js_G) (hi : i ≤ 6) (h0 : G2 192 0 = nI v) (h1 : ∀ k, k < 6 → mr_K G2 192 (1 + 106 * k) (if k < i then jm_e (c.1.2 k) else c.1.2 k)) (hf : ∀ a, a ≠ 192 → G2 a = G1 a) (hfu33 : 6 - i < fu33), js_W X y 4 (js_Qi X y (fun r G' => mP (ms_salt c (nI v)) r G G')) G2 33 [(0, .ref (js_ad y (191))), (1, .int (nI (v))), (2, .int (nI (c.1.1))), (3, .int (nI (i)))] [] := by
    intro fu33
    induction fu33 with
    | zero => intro i G2 hi h0 h1 hf hfu33; exact absurd hfu33 (Nat.not_lt_zero _)
    | succ fu33 ih33 =>
      intro i G2 hi h0 h1 hf hfu33
      refine js_iload_n (pc := 33) 3 F rfl dX5_salt_33 ?_
      refine js_bipush (pc := 34) (v := nI (6)) F (by decide) dX5_salt_34 ?_
      refine js_icmp_geN (pc := 36) (a := i) (b := 6) (tgt := 51) F (by omega) (by decide) dX5_salt_36 (by decide) (fun h36 => ?_) (fun h36 => ?_)
      · skip
        refine js_iload_n (pc := 51) 2 F rfl dX5_salt_51 ?_
        refine js_iret (pc := 52) F hr (rfl) ?_ dX5_salt_52
        show mP (ms_salt c (nI v)) _ _ _
        rw [show ms_salt c (nI v) = (nI c.1.1, jm_chg c (v, fun i => jm_e (c.1.2 i))) from by unfold ms_salt; rw [if_neg (jb_no hv (by decide)), jx (by omega)]]
        exact ⟨rfl, hC1.now (fun a x y => hf a (by omega)) (by rw [hf 191 (by decide)]) (by rw [hf 191 (by decide)]) ⟨h0, hv, fun k hk => by rw [Nat.zero_add]; have := h1 k hk; rw [if_pos (by omega)] at this; exact this⟩, (js_frM.H q2).tr (js_frM.up hf)⟩
      · skip
        have hcur : mr_K G2 192 (1 + 106 * i) (c.1.2 i) := by have := h1 i (by omega); rwa [if_neg (Nat.lt_irrefl _)] at this
        refine js_aload_n (pc := 39) 0 F rfl dX5_salt_39 ?_
        refine js_iload_n (pc := 40) 3 F rfl dX5_salt_40 ?_
        refine js_calli (pc := 41) F (c_X5_empties _ hy (s := i) (by omega) (G := G2) hcur) mf_X5_empties gX5_salt_X5_empties rfl (by decide) (by decide) (js_ct_M) rfl rfl rfl (Nat.le_of_ble_eq_true rfl) dX5_salt_41 ?_
        rintro _ G3 ⟨rfl, p1, p2⟩
        refine js_pop (pc := 44) rfl F dX5_salt_44 ?_
        refine js_iinc (pc := 45) (v := nI (i + 1)) (lv2 := [(0, .ref (js_ad y (191))), (1, .int (nI (v))), (2, .int (nI (c.1.1))), (3, .int (nI (i + 1)))]) F dX5_salt_45 3 rfl (nI_add _ _) (by decide) [1, 2, 3, 0] rfl ?_
        refine js_goto (pc := 48) (tgt := 33) F dX5_salt_48 (by decide) ?_
        exact ih33 (i + 1) G3 (by omega) ((p2.2 0 (Or.inl (by omega))).trans h0) (fun k hk => by
        rcases Nat.lt_trichotomy k i with q | q | q
        · rw [if_pos (by omega)]; have := h1 k hk; rw [if_pos q] at this; exact mr_S.fr this p2 (by omega)
        · subst q; rw [if_pos (by omega)]; exact p1
        · rw [if_neg (by omega)]; have := h1 k hk; rw [if_neg (by omega)] at this; exact mr_S.fr this p2 (by omega)) (fun a ha => (p2.1 a ha).trans (hf a ha)) (by omega)
  exact L33 (_ + 1) 0 (js_st G1 (192) (0) (nI (v))) (by decide) (by rw [js_st_s]; simp [upd]) (fun k hk => by rw [if_neg (Nat.not_lt_zero _)]; exact (hC1.K hk).mv (fun j hj => by rw [js_st_s]; exact if_neg (by omega))) (fun a ha => js_st_n ha) (Nat.lt_succ_self _)
theorem mf_X5_bits : js_M yX5_bits cX5_bits 4 (some .int) wsX5_bits 2 := ⟨⟨_, rfl⟩, by decide +kernel, by decide +kernel, by decide +kernel, by decide +kernel⟩
set_option maxHeartbeats 4000000 in
set_option maxRecDepth 100000 in
theorem c_X5_bits_1 (la : Launch) {y : js_L} (hy : js_Dy y) {G : js_G} {c : js_C} (hC : mr_C G c) {x : Int32} {b : Int32} (hx : jb x 6) : js_Ci la y yX5_bits wsX5_bits 5 101 [.ref (js_ad y (191)), .int (x), .int (b)] G (fun r G' => mP (ms_bits c x b) r G G') := by
  refine js_ofi mf_X5_bits (Nat.le_of_ble_eq_true rfl) hy (fun X F hr => ?_)
  replace F : js_F X y cX5_bits 4 RX5 wsX5_bits 5 101 := F
  show js_W X y 4 _ G 0 [(0, .ref (js_ad y (191))), (1, .int (x)), (2, .int (b))] []
  refine js_iload_n (pc := 0) 1 F rfl dX5_bits_0 ?_
  refine js_callsi (pc := 1) F (c_X5_isSketch _ hy (x := x)) mf_X5_isSketch gX5_bits_X5_isSketch (by decide) rfl rfl (Nat.le_of_ble_eq_true rfl) dX5_bits_1 ?_
  rintro _ _ ⟨rfl, rfl⟩
  refine js_if_neB (pc := 4) (tgt := 9) F dX5_bits_4 (by decide) (fun h4 => by exact absurd hx h4) (fun h4 => ?_)
  refine js_iconst (pc := 7) (v := (-1)) F (by decide) dX5_bits_7 ?_
  refine js_iret (pc := 8) F hr (rfl) ?_ dX5_bits_8
  show mP (ms_bits c x b) _ _ _
  rw [show ms_bits c x b = (-1, c) from if_pos hx]
  exact ⟨rfl, hC, js_frM.rf⟩
set_option maxHeartbeats 4000000 in
set_option maxRecDepth 100000 in
theorem c_X5_bits_2 (la : Launch) {y : js_L} (hy : js_Dy y) {G : js_G} {c : js_C} (hC : mr_C G c) {i : Nat} (hi : i < 6) {b : Int32} (hb : b < nI 2 ∨ nI 6 < b) : js_Ci la y yX5_bits wsX5_bits 5 101 [.ref (js_ad y (191)), .int (nI (i)), .int (b)] G (fun r G' => mP (ms_bits c (nI i) b) r G G') := by
  refine js_ofi mf_X5_bits (Nat.le_of_ble_eq_true rfl) hy (fun X F hr => ?_)
  replace F : js_F X y cX5_bits 4 RX5 wsX5_bits 5 101 := F
  show js_W X y 4 _ G 0 [(0, .ref (js_ad y (191))), (1, .int (nI (i))), (2, .int (b))] []
  refine js_iload_n (pc := 0) 1 F rfl dX5_bits_0 ?_
  refine js_callsi (pc := 1) F (c_X5_isSketch _ hy (x := nI (i))) mf_X5_isSketch gX5_bits_X5_isSketch (by decide) rfl rfl (Nat.le_of_ble_eq_true rfl) dX5_bits_1 ?_
  rintro _ _ ⟨rfl, rfl⟩
  refine js_if_neB (pc := 4) (tgt := 9) F dX5_bits_4 (by decide) (fun h4 => ?_) (fun h4 => by exact absurd (jb_no hi (by decide)) h4)
  refine js_iload_n (pc := 9) 2 F rfl dX5_bits_9 ?_
  refine js_iconst (pc := 10) (v := nI (2)) F (by decide) dX5_bits_10 ?_
  refine js_bipush (pc := 11) (v := nI (6)) F (by decide) dX5_bits_11 ?_
  refine js_callsi (pc := 13) F (c_X5_within _ hy (v := b) (lo := nI 2) (hi := nI 6)) mf_X5_within gX5_bits_X5_within (by decide) rfl rfl (Nat.le_of_ble_eq_true rfl) dX5_bits_13 ?_
  rintro _ _ ⟨rfl, rfl⟩
  refine js_if_neB (pc := 16) (tgt := 22) F dX5_bits_16 (by decide) (fun h16 => by exact absurd hb (jw_bits.mp h16)) (fun h16 => ?_)
  refine js_bipush (pc := 19) (v := (-2)) F (by decide) dX5_bits_19 ?_
  refine js_iret (pc := 21) F hr (rfl) ?_ dX5_bits_21
  show mP (ms_bits c (nI i) b) _ _ _
  rw [show ms_bits c (nI i) b = (-2, c) from by unfold ms_bits; rw [if_neg (jb_no hi (by decide)), if_pos hb]]
  exact ⟨rfl, hC, js_frM.rf⟩
set_option maxHeartbeats 4000000 in
set_option maxRecDepth 100000 in
theorem c_X5_bits_3 (la : Launch) {y : js_L} (hy : js_Dy y) {G : js_G} {c : js_C} (hC : mr_C G c) {i : Nat} (hi : i < 6) {b : Nat} (hb2 : 2 ≤ b) (hb6 : b ≤ 6) : js_Ci la y yX5_bits wsX5_bits 5 101 [.ref (js_ad y (191)), .int (nI (i)), .int (nI (b))] G (fun r G' => mP (ms_bits c (nI i) (nI b)) r G G') := by
  have hS : mr_K G 192 (1 + 106 * i) (c.1.2 i) := hC.K hi
  have hp : 2 ^ (c.1.2 i).1 ≤ 64 := jm_p6 hS.2.1
  have hp1 := jm_p1 (c.1.2 i).1
  have hB6 := hS.2.1
  have hB2 := hS.1
  have hs6 := hC.1.2.1
  refine js_ofi mf_X5_bits (Nat.le_of_ble_eq_true rfl) hy (fun X F hr => ?_)
  replace F : js_F X y cX5_bits 4 RX5 wsX5_bits 5 101 := F
  show js_W X y 4 _ G 0 [(0, .ref (js_ad y (191))), (1, .int (nI (i))), (2, .int (nI (b)))] []
  refine js_iload_n (pc := 0) 1 F rfl dX5_bits_0 ?_
  refine js_callsi (pc := 1) F (c_X5_isSketch _ hy (x := nI (i))) mf_X5_isSketch gX5_bits_X5_isSketch (by decide) rfl rfl (Nat.le_of_ble_eq_true rfl) dX5_bits_1 ?_
  rintro _ _ ⟨rfl, rfl⟩
  refine js_if_neB (pc := 4) (tgt := 9) F dX5_bits_4 (by decide) (fun h4 => ?_) (fun h4 => by exact absurd (jb_no hi (by decide)) h4)
  refine js_iload_n (pc := 9) 2 F rfl dX5_bits_9 ?_
  refine js_iconst (pc := 10) (v := nI (2)) F (by decide) dX5_bits_10 ?_
  refine js_bipush (pc := 11) (v := nI (6)) F (by decide) dX5_bits_11 ?_
  refine js_callsi (pc := 13) F (c_X5_within _ hy (v := (nI b)) (lo := nI 2) (hi := nI 6)) mf_X5_within gX5_bits_X5_within (by decide) rfl rfl (Nat.le_of_ble_eq_true rfl) dX5_bits_13 ?_
  rintro _ _ ⟨rfl, rfl⟩
  refine js_if_neB (pc := 16) (tgt := 22) F dX5_bits_16 (by decide) (fun h16 => ?_) (fun h16 => by exact absurd ⟨(nI_leI (by decide) (by omega)).mpr hb2, (nI_leI (by omega) (by decide)).mpr hb6⟩ h16)
  refine js_aload_n (pc := 22) 0 F rfl dX5_bits_22 ?_
  refine js_callv (pc := 23) F (c_X5_record _ hy (h := c.2.1) hC.2.1 hC.1) mf_X5_record gX5_bits_X5_record rfl (by decide) (by decide) (js_ct_M) rfl rfl rfl (Nat.le_of_ble_eq_true rfl) dX5_bits_23 ?_
  rintro G1 ⟨q1, q2⟩
  have hC1 := hC.rec q1 q2
  have hS1 : mr_K G1 192 (1 + 106 * i) (c.1.2 i) := hC1.K hi
  refine js_aload_n (pc := 26) 0 F rfl dX5_bits_26 ?_
  refine js_iload_n (pc := 27) 1 F rfl dX5_bits_27 ?_
  refine js_iconst (pc := 28) (v := nI (0)) F (by decide) dX5_bits_28 ?_
  refine js_calli (pc := 29) F (c_X5_part _ hy (G := G1) (s := i) (p := 0) (by omega)) mf_X5_part gX5_bits_X5_part rfl (by decide) (by decide) (js_ct_M) rfl rfl rfl (Nat.le_of_ble_eq_true rfl) dX5_bits_29 ?_
  rintro _ _ ⟨hv29, rfl⟩
  rw [hv29, show G1 192 ((1 + 106 * i) + 0) = nI ((c.1.2 i).1) from (hS1.2.2.1)]
  clear hv29
  refine js_istore_n (pc := 32) (lv2 := [(0, .ref (js_ad y (191))), (1, .int (nI (i))), (2, .int (nI (b))), (3, .int (nI ((c.1.2 i).1)))]) F dX5_bits_32 (by decide) [1, 2, 3, 0] rfl ?_
  refine js_aload_n (pc := 33) 0 F rfl dX5_bits_33 ?_
  refine js_iload_n (pc := 34) 1 F rfl dX5_bits_34 ?_
  refine js_calli (pc := 35) F (c_X5_empties _ hy (s := i) (by omega) (G := G1) hS1) mf_X5_empties gX5_bits_X5_empties rfl (by decide) (by decide) (js_ct_M) rfl rfl rfl (Nat.le_of_ble_eq_true rfl) dX5_bits_35 ?_
  rintro _ G2 ⟨rfl, p1, p2⟩
  refine js_pop (pc := 38) rfl F dX5_bits_38 ?_
  refine js_aload_n (pc := 39) 0 F rfl dX5_bits_39 ?_
  refine js_iload_n (pc := 40) 1 F rfl dX5_bits_40 ?_
  refine js_iconst (pc := 41) (v := nI (0)) F (by decide) dX5_bits_41 ?_
  refine js_iload_n (pc := 42) 2 F rfl dX5_bits_42 ?_
  refine js_callv (pc := 43) F (c_X5_setPart _ hy (G := G2) (s := i) (p := 0) (v := nI (b)) (by omega)) mf_X5_setPart gX5_bits_X5_setPart rfl (by decide) (by decide) (js_ct_M) rfl rfl rfl (Nat.le_of_ble_eq_true rfl) dX5_bits_43 ?_
  rintro _ rfl
  refine js_iload_n (pc := 46) 3 F rfl dX5_bits_46 ?_
  refine js_iret (pc := 47) F hr (rfl) ?_ dX5_bits_47
  show mP (ms_bits c (nI i) (nI b)) _ _ _
  rw [show ms_bits c (nI i) (nI b) = (nI (c.1.2 i).1, jm_chg c (jm_sk c.1 i (b, fun _ => 0, some []))) from by unfold ms_bits; rw [if_neg (jb_no hi (by decide)), if_neg (fun q => by rcases q with q | q; have := (nI_ltI (by omega) (by decide)).mp q; omega; have := (nI_ltI (by decide) (by omega)).mp q; omega), jx (by omega), jx (by omega)]]
  exact ⟨rfl, hC1.sk hi (p2.tr (mfS.st (by decide))) (mr_S_bits p1 hb2 hb6), (js_frM.H q2).tr (js_frM.S (p2.tr (mfS.st (by decide))))⟩
theorem mf_X5_add : js_M yX5_add cX5_add 3 (some .int) wsX5_add 2 := ⟨⟨_, rfl⟩, by decide +kernel, by decide +kernel, by decide +kernel, by decide +kernel⟩
set_option maxHeartbeats 4000000 in
set_option maxRecDepth 100000 in
theorem c_X5_add_1 (la : Launch) {y : js_L} (hy : js_Dy y) {G : js_G} {c : js_C} (hC : mr_C G c) {x : Int32} {t : Int32} (hx : jb x 6) : js_Ci la y yX5_add wsX5_add 6 122 [.ref (js_ad y (191)), .int (x), .int (t)] G (fun r G' => mP (ms_add c x t) r G G') := by
  refine js_ofi mf_X5_add (Nat.le_of_ble_eq_true rfl) hy (fun X F hr => ?_)
  replace F : js_F X y cX5_add 3 RX5 wsX5_add 6 122 := F
  show js_W X y 3 _ G 0 [(0, .ref (js_ad y (191))), (1, .int (x)), (2, .int (t))] []
  refine js_iload_n (pc := 0) 1 F rfl dX5_add_0 ?_
  refine js_callsi (pc := 1) F (c_X5_isSketch _ hy (x := x)) mf_X5_isSketch gX5_add_X5_isSketch (by decide) rfl rfl (Nat.le_of_ble_eq_true rfl) dX5_add_1 ?_
  rintro _ _ ⟨rfl, rfl⟩
  refine js_if_neB (pc := 4) (tgt := 9) F dX5_add_4 (by decide) (fun h4 => by exact absurd hx h4) (fun h4 => ?_)
  refine js_iconst (pc := 7) (v := (-1)) F (by decide) dX5_add_7 ?_
  refine js_iret (pc := 8) F hr (rfl) ?_ dX5_add_8
  show mP (ms_add c x t) _ _ _
  rw [show ms_add c x t = (-1, c) from if_pos hx]
  exact ⟨rfl, hC, js_frM.rf⟩
set_option maxHeartbeats 4000000 in
set_option maxRecDepth 100000 in
theorem c_X5_add_2 (la : Launch) {y : js_L} (hy : js_Dy y) {G : js_G} {c : js_C} (hC : mr_C G c) {i : Nat} (hi : i < 6) {t : Int32} (ht : jb t 100000) : js_Ci la y yX5_add wsX5_add 6 122 [.ref (js_ad y (191)), .int (nI (i)), .int (t)] G (fun r G' => mP (ms_add c (nI i) t) r G G') := by
  refine js_ofi mf_X5_add (Nat.le_of_ble_eq_true rfl) hy (fun X F hr => ?_)
  replace F : js_F X y cX5_add 3 RX5 wsX5_add 6 122 := F
  show js_W X y 3 _ G 0 [(0, .ref (js_ad y (191))), (1, .int (nI (i))), (2, .int (t))] []
  refine js_iload_n (pc := 0) 1 F rfl dX5_add_0 ?_
  refine js_callsi (pc := 1) F (c_X5_isSketch _ hy (x := nI (i))) mf_X5_isSketch gX5_add_X5_isSketch (by decide) rfl rfl (Nat.le_of_ble_eq_true rfl) dX5_add_1 ?_
  rintro _ _ ⟨rfl, rfl⟩
  refine js_if_neB (pc := 4) (tgt := 9) F dX5_add_4 (by decide) (fun h4 => ?_) (fun h4 => by exact absurd (jb_no hi (by decide)) h4)
  refine js_iload_n (pc := 9) 2 F rfl dX5_add_9 ?_
  refine js_callsi (pc := 10) F (c_X5_isThing _ hy (x := t)) mf_X5_isThing gX5_add_X5_isThing (by decide) rfl rfl (Nat.le_of_ble_eq_true rfl) dX5_add_10 ?_
  rintro _ _ ⟨rfl, rfl⟩
  refine js_if_neB (pc := 13) (tgt := 19) F dX5_add_13 (by decide) (fun h13 => by exact absurd ht h13) (fun h13 => ?_)
  refine js_bipush (pc := 16) (v := (-2)) F (by decide) dX5_add_16 ?_
  refine js_iret (pc := 18) F hr (rfl) ?_ dX5_add_18
  show mP (ms_add c (nI i) t) _ _ _
  rw [show ms_add c (nI i) t = (-2, c) from by unfold ms_add; rw [if_neg (jb_no hi (by decide)), if_pos ht]]
  exact ⟨rfl, hC, js_frM.rf⟩
set_option maxHeartbeats 4000000 in
set_option maxRecDepth 100000 in
theorem c_X5_add_3 (la : Launch) {y : js_L} (hy : js_Dy y) {G : js_G} {c : js_C} (hC : mr_C G c) {i : Nat} (hi : i < 6) {t : Nat} (ht : t < 100000) : js_Ci la y yX5_add wsX5_add 6 122 [.ref (js_ad y (191)), .int (nI (i)), .int (nI (t))] G (fun r G' => mP (ms_add c (nI i) (nI t)) r G G') := by
  have hS : mr_K G 192 (1 + 106 * i) (c.1.2 i) := hC.K hi
  have hp : 2 ^ (c.1.2 i).1 ≤ 64 := jm_p6 hS.2.1
  have hp1 := jm_p1 (c.1.2 i).1
  have hB6 := hS.2.1
  have hB2 := hS.1
  have hs6 := hC.1.2.1
  refine js_ofi mf_X5_add (Nat.le_of_ble_eq_true rfl) hy (fun X F hr => ?_)
  replace F : js_F X y cX5_add 3 RX5 wsX5_add 6 122 := F
  show js_W X y 3 _ G 0 [(0, .ref (js_ad y (191))), (1, .int (nI (i))), (2, .int (nI (t)))] []
  refine js_iload_n (pc := 0) 1 F rfl dX5_add_0 ?_
  refine js_callsi (pc := 1) F (c_X5_isSketch _ hy (x := nI (i))) mf_X5_isSketch gX5_add_X5_isSketch (by decide) rfl rfl (Nat.le_of_ble_eq_true rfl) dX5_add_1 ?_
  rintro _ _ ⟨rfl, rfl⟩
  refine js_if_neB (pc := 4) (tgt := 9) F dX5_add_4 (by decide) (fun h4 => ?_) (fun h4 => by exact absurd (jb_no hi (by decide)) h4)
  refine js_iload_n (pc := 9) 2 F rfl dX5_add_9 ?_
  refine js_callsi (pc := 10) F (c_X5_isThing _ hy (x := nI (t))) mf_X5_isThing gX5_add_X5_isThing (by decide) rfl rfl (Nat.le_of_ble_eq_true rfl) dX5_add_10 ?_
  rintro _ _ ⟨rfl, rfl⟩
  refine js_if_neB (pc := 13) (tgt := 19) F dX5_add_13 (by decide) (fun h13 => ?_) (fun h13 => by exact absurd (jb_no ht (by decide)) h13)
  refine js_aload_n (pc := 19) 0 F rfl dX5_add_19 ?_
  refine js_callv (pc := 20) F (c_X5_record _ hy (h := c.2.1) hC.2.1 hC.1) mf_X5_record gX5_add_X5_record rfl (by decide) (by decide) (js_ct_M) rfl rfl rfl (Nat.le_of_ble_eq_true rfl) dX5_add_20 ?_
  rintro G1 ⟨q1, q2⟩
  have hC1 := hC.rec q1 q2
  have hS1 : mr_K G1 192 (1 + 106 * i) (c.1.2 i) := hC1.K hi
  refine js_aload_n (pc := 23) 0 F rfl dX5_add_23 ?_
  refine js_iload_n (pc := 24) 1 F rfl dX5_add_24 ?_
  refine js_iload_n (pc := 25) 2 F rfl dX5_add_25 ?_
  refine js_calli (pc := 26) F (c_X5_adds _ hy (s := i) (by omega) (G := G1) hS1 (sl := c.1.1) hC1.1.1 hs6 (t := t) ht) mf_X5_adds gX5_add_X5_adds rfl (by decide) (by decide) (js_ct_M) rfl rfl rfl (Nat.le_of_ble_eq_true rfl) dX5_add_26 ?_
  rintro _ G2 ⟨rfl, p1, p2⟩
  rw [← jm_tk1 (ls := (c.1.2 i).2.2)]
  refine js_iret (pc := 29) F hr (rfl) ?_ dX5_add_29
  show mP (ms_add c (nI i) (nI t)) _ _ _
  rw [show ms_add c (nI i) (nI t) = (nI (jm_tkN c.1.1 (c.1.2 i) t 1), jm_chg c (jm_sk c.1 i (jm_tkK c.1.1 (c.1.2 i) t 1))) from by unfold ms_add; rw [if_neg (jb_no hi (by decide)), if_neg (jb_no ht (by decide)), jx (by omega), jx (by omega)]]
  exact ⟨rfl, hC1.sk hi p2 p1, (js_frM.H q2).tr (js_frM.S p2)⟩
theorem mf_X5_addRange : js_M yX5_addRange cX5_addRange 4 (some .int) wsX5_addRange 3 := ⟨⟨_, rfl⟩, by decide +kernel, by decide +kernel, by decide +kernel, by decide +kernel⟩
set_option maxHeartbeats 4000000 in
set_option maxRecDepth 100000 in
theorem c_X5_addRange_1 (la : Launch) {y : js_L} (hy : js_Dy y) {G : js_G} {c : js_C} (hC : mr_C G c) {x : Int32} {a : Int32} {m : Int32} (hx : jb x 6) : js_Ci la y yX5_addRange wsX5_addRange 7 147 [.ref (js_ad y (191)), .int (x), .int (a), .int (m)] G (fun r G' => mP (ms_addRange c x a m) r G G') := by
  refine js_ofi mf_X5_addRange (Nat.le_of_ble_eq_true rfl) hy (fun X F hr => ?_)
  replace F : js_F X y cX5_addRange 4 RX5 wsX5_addRange 7 147 := F
  show js_W X y 4 _ G 0 [(0, .ref (js_ad y (191))), (1, .int (x)), (2, .int (a)), (3, .int (m))] []
  refine js_iload_n (pc := 0) 1 F rfl dX5_addRange_0 ?_
  refine js_callsi (pc := 1) F (c_X5_isSketch _ hy (x := x)) mf_X5_isSketch gX5_addRange_X5_isSketch (by decide) rfl rfl (Nat.le_of_ble_eq_true rfl) dX5_addRange_1 ?_
  rintro _ _ ⟨rfl, rfl⟩
  refine js_if_neB (pc := 4) (tgt := 9) F dX5_addRange_4 (by decide) (fun h4 => by exact absurd hx h4) (fun h4 => ?_)
  refine js_iconst (pc := 7) (v := (-1)) F (by decide) dX5_addRange_7 ?_
  refine js_iret (pc := 8) F hr (rfl) ?_ dX5_addRange_8
  show mP (ms_addRange c x a m) _ _ _
  rw [show ms_addRange c x a m = (-1, c) from if_pos hx]
  exact ⟨rfl, hC, js_frM.rf⟩
set_option maxHeartbeats 4000000 in
set_option maxRecDepth 100000 in
theorem c_X5_addRange_2 (la : Launch) {y : js_L} (hy : js_Dy y) {G : js_G} {c : js_C} (hC : mr_C G c) {i : Nat} (hi : i < 6) {a m : Int32} (ht : ¬ jm_rng a m) : js_Ci la y yX5_addRange wsX5_addRange 7 147 [.ref (js_ad y (191)), .int (nI (i)), .int (a), .int (m)] G (fun r G' => mP (ms_addRange c (nI i) a m) r G G') := by
  refine js_ofi mf_X5_addRange (Nat.le_of_ble_eq_true rfl) hy (fun X F hr => ?_)
  replace F : js_F X y cX5_addRange 4 RX5 wsX5_addRange 7 147 := F
  show js_W X y 4 _ G 0 [(0, .ref (js_ad y (191))), (1, .int (nI (i))), (2, .int (a)), (3, .int (m))] []
  refine js_iload_n (pc := 0) 1 F rfl dX5_addRange_0 ?_
  refine js_callsi (pc := 1) F (c_X5_isSketch _ hy (x := nI (i))) mf_X5_isSketch gX5_addRange_X5_isSketch (by decide) rfl rfl (Nat.le_of_ble_eq_true rfl) dX5_addRange_1 ?_
  rintro _ _ ⟨rfl, rfl⟩
  refine js_if_neB (pc := 4) (tgt := 9) F dX5_addRange_4 (by decide) (fun h4 => ?_) (fun h4 => by exact absurd (jb_no hi (by decide)) h4)
  refine js_iload_n (pc := 9) 2 F rfl dX5_addRange_9 ?_
  refine js_iload_n (pc := 10) 3 F rfl dX5_addRange_10 ?_
  refine js_callsi (pc := 11) F (c_X5_isRange _ hy (x := a) (m := m)) mf_X5_isRange gX5_addRange_X5_isRange (by decide) rfl rfl (Nat.le_of_ble_eq_true rfl) dX5_addRange_11 ?_
  rintro _ _ ⟨rfl, rfl⟩
  refine js_if_neB (pc := 14) (tgt := 20) F dX5_addRange_14 (by decide) (fun h14 => by exact absurd h14 ht) (fun h14 => ?_)
  refine js_bipush (pc := 17) (v := (-2)) F (by decide) dX5_addRange_17 ?_
  refine js_iret (pc := 19) F hr (rfl) ?_ dX5_addRange_19
  show mP (ms_addRange c (nI i) a m) _ _ _
  rw [show ms_addRange c (nI i) a m = (-2, c) from by unfold ms_addRange; rw [if_neg (jb_no hi (by decide)), if_pos ht]]
  exact ⟨rfl, hC, js_frM.rf⟩
set_option maxHeartbeats 4000000 in
set_option maxRecDepth 100000 in
theorem c_X5_addRange_3 (la : Launch) {y : js_L} (hy : js_Dy y) {G : js_G} {c : js_C} (hC : mr_C G c) {i : Nat} (hi : i < 6) {a n : Nat} (h1 : 1 ≤ n) (h2 : n ≤ 999) (h3 : a + n ≤ 100000) : js_Ci la y yX5_addRange wsX5_addRange 7 147 [.ref (js_ad y (191)), .int (nI (i)), .int (nI (a)), .int (nI (n))] G (fun r G' => mP (ms_addRange c (nI i) (nI a) (nI n)) r G G') := by
  have hS : mr_K G 192 (1 + 106 * i) (c.1.2 i) := hC.K hi
  have hp : 2 ^ (c.1.2 i).1 ≤ 64 := jm_p6 hS.2.1
  have hp1 := jm_p1 (c.1.2 i).1
  have hB6 := hS.2.1
  have hB2 := hS.1
  have hs6 := hC.1.2.1
  refine js_ofi mf_X5_addRange (Nat.le_of_ble_eq_true rfl) hy (fun X F hr => ?_)
  replace F : js_F X y cX5_addRange 4 RX5 wsX5_addRange 7 147 := F
  show js_W X y 4 _ G 0 [(0, .ref (js_ad y (191))), (1, .int (nI (i))), (2, .int (nI (a))), (3, .int (nI (n)))] []
  refine js_iload_n (pc := 0) 1 F rfl dX5_addRange_0 ?_
  refine js_callsi (pc := 1) F (c_X5_isSketch _ hy (x := nI (i))) mf_X5_isSketch gX5_addRange_X5_isSketch (by decide) rfl rfl (Nat.le_of_ble_eq_true rfl) dX5_addRange_1 ?_
  rintro _ _ ⟨rfl, rfl⟩
  refine js_if_neB (pc := 4) (tgt := 9) F dX5_addRange_4 (by decide) (fun h4 => ?_) (fun h4 => by exact absurd (jb_no hi (by decide)) h4)
  refine js_iload_n (pc := 9) 2 F rfl dX5_addRange_9 ?_
  refine js_iload_n (pc := 10) 3 F rfl dX5_addRange_10 ?_
  refine js_callsi (pc := 11) F (c_X5_isRange _ hy (x := nI (a)) (m := nI (n))) mf_X5_isRange gX5_addRange_X5_isRange (by decide) rfl rfl (Nat.le_of_ble_eq_true rfl) dX5_addRange_11 ?_
  rintro _ _ ⟨rfl, rfl⟩
  refine js_if_neB (pc := 14) (tgt := 20) F dX5_addRange_14 (by decide) (fun h14 => ?_) (fun h14 => by exact absurd (jm_rng_of h1 h2 h3) h14)
  refine js_aload_n (pc := 20) 0 F rfl dX5_addRange_20 ?_
  refine js_callv (pc := 21) F (c_X5_record _ hy (h := c.2.1) hC.2.1 hC.1) mf_X5_record gX5_addRange_X5_record rfl (by decide) (by decide) (js_ct_M) rfl rfl rfl (Nat.le_of_ble_eq_true rfl) dX5_addRange_21 ?_
  rintro G1 ⟨q1, q2⟩
  have hC1 := hC.rec q1 q2
  have hS1 : mr_K G1 192 (1 + 106 * i) (c.1.2 i) := hC1.K hi
  refine js_aload_n (pc := 24) 0 F rfl dX5_addRange_24 ?_
  refine js_iload_n (pc := 25) 1 F rfl dX5_addRange_25 ?_
  refine js_iload_n (pc := 26) 2 F rfl dX5_addRange_26 ?_
  refine js_iload_n (pc := 27) 3 F rfl dX5_addRange_27 ?_
  refine js_calli (pc := 28) F (c_X5_addsRange _ hy (s := i) (by omega) (G := G1) hS1 (sl := c.1.1) hC1.1.1 hs6 (a := a) (n := n) h3) mf_X5_addsRange gX5_addRange_X5_addsRange rfl (by decide) (by decide) (js_ct_M) rfl rfl rfl (Nat.le_of_ble_eq_true rfl) dX5_addRange_28 ?_
  rintro _ G2 ⟨rfl, p1, p2⟩
  refine js_iret (pc := 31) F hr (rfl) ?_ dX5_addRange_31
  show mP (ms_addRange c (nI i) (nI a) (nI n)) _ _ _
  rw [show ms_addRange c (nI i) (nI a) (nI n) = (nI (jm_tkN c.1.1 (c.1.2 i) a n), jm_chg c (jm_sk c.1 i (jm_tkK c.1.1 (c.1.2 i) a n))) from by unfold ms_addRange; rw [if_neg (jb_no hi (by decide)), if_neg (fun q => q (jm_rng_of h1 h2 h3)), jx (by omega), jx (by omega), jx (by omega)]]
  exact ⟨rfl, hC1.sk hi p2 p1, (js_frM.H q2).tr (js_frM.S p2)⟩
theorem mf_X5_join : js_M yX5_join cX5_join 4 (some .int) wsX5_join 2 := ⟨⟨_, rfl⟩, by decide +kernel, by decide +kernel, by decide +kernel, by decide +kernel⟩
set_option maxHeartbeats 4000000 in
set_option maxRecDepth 100000 in
theorem c_X5_join_1 (la : Launch) {y : js_L} (hy : js_Dy y) {G : js_G} {c : js_C} (hC : mr_C G c) {x z : Int32} (hx : jb x 6 ∨ jb z 6) : js_Ci la y yX5_join wsX5_join 6 125 [.ref (js_ad y (191)), .int (x), .int (z)] G (fun r G' => mP (ms_join c x z) r G G') := by
  refine js_ofi mf_X5_join (Nat.le_of_ble_eq_true rfl) hy (fun X F hr => ?_)
  replace F : js_F X y cX5_join 4 RX5 wsX5_join 6 125 := F
  show js_W X y 4 _ G 0 [(0, .ref (js_ad y (191))), (1, .int (x)), (2, .int (z))] []
  refine js_aload_n (pc := 0) 0 F rfl dX5_join_0 ?_
  refine js_iload_n (pc := 1) 1 F rfl dX5_join_1 ?_
  refine js_iload_n (pc := 2) 2 F rfl dX5_join_2 ?_
  refine js_calli (pc := 3) F (c_X5_whyNotJoined_1 _ hy (x := x) (z := z) (hx)) mf_X5_whyNotJoined gX5_join_X5_whyNotJoined rfl (by decide) (by decide) (js_ct_M) rfl rfl rfl (Nat.le_of_ble_eq_true rfl) dX5_join_3 ?_
  rintro _ _ ⟨rfl, rfl⟩
  refine js_istore_n (pc := 6) (lv2 := [(0, .ref (js_ad y (191))), (1, .int (x)), (2, .int (z)), (3, .int ((-1)))]) F dX5_join_6 (by decide) [1, 2, 3, 0] rfl ?_
  refine js_iload_n (pc := 7) 3 F rfl dX5_join_7 ?_
  refine js_if_ge (pc := 8) (tgt := 13) F dX5_join_8 (by decide) (fun h8 => absurd h8 (by decide)) (fun _ => ?_)
  refine js_iload_n (pc := 11) 3 F rfl dX5_join_11 ?_
  refine js_iret (pc := 12) F hr (rfl) ?_ dX5_join_12
  show mP (ms_join c x z) _ _ _
  rw [show ms_join c x z = (-1, c) from if_pos hx]
  exact ⟨rfl, hC, js_frM.rf⟩
set_option maxHeartbeats 4000000 in
set_option maxRecDepth 100000 in
theorem c_X5_join_2 (la : Launch) {y : js_L} (hy : js_Dy y) {G : js_G} {c : js_C} (hC : mr_C G c) {i : Nat} (hi : i < 6) {i2 : Nat} (hi2 : i2 < 6) (hn : ¬ (i ≠ i2 ∧ (c.1.2 i).1 = (c.1.2 i2).1)) : js_Ci la y yX5_join wsX5_join 6 125 [.ref (js_ad y (191)), .int (nI (i)), .int (nI (i2))] G (fun r G' => mP (ms_join c (nI i) (nI i2)) r G G') := by
  refine js_ofi mf_X5_join (Nat.le_of_ble_eq_true rfl) hy (fun X F hr => ?_)
  replace F : js_F X y cX5_join 4 RX5 wsX5_join 6 125 := F
  show js_W X y 4 _ G 0 [(0, .ref (js_ad y (191))), (1, .int (nI (i))), (2, .int (nI (i2)))] []
  refine js_aload_n (pc := 0) 0 F rfl dX5_join_0 ?_
  refine js_iload_n (pc := 1) 1 F rfl dX5_join_1 ?_
  refine js_iload_n (pc := 2) 2 F rfl dX5_join_2 ?_
  refine js_calli (pc := 3) F (c_X5_whyNotJoined_2 _ hy hC.1 (i := i) (by omega) (i2 := i2) (by omega)) mf_X5_whyNotJoined gX5_join_X5_whyNotJoined rfl (by decide) (by decide) (js_ct_M) rfl rfl rfl (Nat.le_of_ble_eq_true rfl) dX5_join_3 ?_
  rintro _ _ ⟨rfl, rfl⟩
  rw [if_neg hn]
  refine js_istore_n (pc := 6) (lv2 := [(0, .ref (js_ad y (191))), (1, .int (nI (i))), (2, .int (nI (i2))), (3, .int ((-5)))]) F dX5_join_6 (by decide) [1, 2, 3, 0] rfl ?_
  refine js_iload_n (pc := 7) 3 F rfl dX5_join_7 ?_
  refine js_if_ge (pc := 8) (tgt := 13) F dX5_join_8 (by decide) (fun h8 => absurd h8 (by decide)) (fun _ => ?_)
  refine js_iload_n (pc := 11) 3 F rfl dX5_join_11 ?_
  refine js_iret (pc := 12) F hr (rfl) ?_ dX5_join_12
  show mP (ms_join c (nI i) (nI i2)) _ _ _
  rw [show ms_join c (nI i) (nI i2) = (-5, c) from by unfold ms_join; rw [if_neg (fun q => q.elim (jb_no hi (by decide)) (jb_no hi2 (by decide))), jx (by omega), jx (by omega), if_pos hn]]
  exact ⟨rfl, hC, js_frM.rf⟩
set_option maxHeartbeats 4000000 in
set_option maxRecDepth 100000 in
theorem c_X5_join_3 (la : Launch) {y : js_L} (hy : js_Dy y) {G : js_G} {c : js_C} (hC : mr_C G c) {i : Nat} (hi : i < 6) {i2 : Nat} (hi2 : i2 < 6) (hn : i ≠ i2 ∧ (c.1.2 i).1 = (c.1.2 i2).1) : js_Ci la y yX5_join wsX5_join 6 125 [.ref (js_ad y (191)), .int (nI (i)), .int (nI (i2))] G (fun r G' => mP (ms_join c (nI i) (nI i2)) r G G') := by
  have hS : mr_K G 192 (1 + 106 * i) (c.1.2 i) := hC.K hi
  have hp : 2 ^ (c.1.2 i).1 ≤ 64 := jm_p6 hS.2.1
  have hp1 := jm_p1 (c.1.2 i).1
  have hB6 := hS.2.1
  have hB2 := hS.1
  have hs6 := hC.1.2.1
  have hS2 : mr_K G 192 (1 + 106 * i2) (c.1.2 i2) := hC.K hi2
  have hB26 := hS2.2.1
  refine js_ofi mf_X5_join (Nat.le_of_ble_eq_true rfl) hy (fun X F hr => ?_)
  replace F : js_F X y cX5_join 4 RX5 wsX5_join 6 125 := F
  show js_W X y 4 _ G 0 [(0, .ref (js_ad y (191))), (1, .int (nI (i))), (2, .int (nI (i2)))] []
  refine js_aload_n (pc := 0) 0 F rfl dX5_join_0 ?_
  refine js_iload_n (pc := 1) 1 F rfl dX5_join_1 ?_
  refine js_iload_n (pc := 2) 2 F rfl dX5_join_2 ?_
  refine js_calli (pc := 3) F (c_X5_whyNotJoined_2 _ hy hC.1 (i := i) (by omega) (i2 := i2) (by omega)) mf_X5_whyNotJoined gX5_join_X5_whyNotJoined rfl (by decide) (by decide) (js_ct_M) rfl rfl rfl (Nat.le_of_ble_eq_true rfl) dX5_join_3 ?_
  rintro _ _ ⟨rfl, rfl⟩
  rw [if_pos hn]
  refine js_istore_n (pc := 6) (lv2 := [(0, .ref (js_ad y (191))), (1, .int (nI (i))), (2, .int (nI (i2))), (3, .int (nI (0)))]) F dX5_join_6 (by decide) [1, 2, 3, 0] rfl ?_
  refine js_iload_n (pc := 7) 3 F rfl dX5_join_7 ?_
  refine js_if_geN (pc := 8) (a := 0) (tgt := 13) F (by decide) dX5_join_8 (by decide) (fun _ => ?_) (fun h8 => by exfalso; revert h8; decide)
  refine js_aload_n (pc := 13) 0 F rfl dX5_join_13 ?_
  refine js_callv (pc := 14) F (c_X5_record _ hy (h := c.2.1) hC.2.1 hC.1) mf_X5_record gX5_join_X5_record rfl (by decide) (by decide) (js_ct_M) rfl rfl rfl (Nat.le_of_ble_eq_true rfl) dX5_join_14 ?_
  rintro G1 ⟨q1, q2⟩
  have hC1 := hC.rec q1 q2
  have hS1 : mr_K G1 192 (1 + 106 * i) (c.1.2 i) := hC1.K hi
  have hS21 : mr_K G1 192 (1 + 106 * i2) (c.1.2 i2) := hC1.K hi2
  refine js_aload_n (pc := 17) 0 F rfl dX5_join_17 ?_
  refine js_iload_n (pc := 18) 1 F rfl dX5_join_18 ?_
  refine js_iload_n (pc := 19) 2 F rfl dX5_join_19 ?_
  refine js_calli (pc := 20) F (c_X5_joins _ hy (s := i) (by omega) (G := G1) hS1 (so := i2) (by omega) (Ne.symm hn.1) (by rw [hn.2]; exact hS21)) mf_X5_joins gX5_join_X5_joins rfl (by decide) (by decide) (js_ct_M) rfl rfl rfl (Nat.le_of_ble_eq_true rfl) dX5_join_20 ?_
  rintro _ G2 ⟨rfl, Gm, p1, p2, p3⟩
  refine js_iret (pc := 23) F hr (rfl) ?_ dX5_join_23
  show mP (ms_join c (nI i) (nI i2)) _ _ _
  rw [show ms_join c (nI i) (nI i2) = (nI (jm_esK (jm_joK (c.1.2 i) (c.1.2 i2))), jm_chg c (jm_sk c.1 i (jm_joK (c.1.2 i) (c.1.2 i2)))) from by unfold ms_join; rw [if_neg (fun q => q.elim (jb_no hi (by decide)) (jb_no hi2 (by decide))), jx (by omega), jx (by omega), if_neg (fun q => q hn)]]
  exact ⟨rfl, (hC1.sk hi p2 p1).R p3, (js_frM.H q2).tr ((js_frM.S p2).tr (js_frM.R p3))⟩
theorem mf_X5_fold : js_M yX5_fold cX5_fold 3 (some .int) wsX5_fold 1 := ⟨⟨_, rfl⟩, by decide +kernel, by decide +kernel, by decide +kernel, by decide +kernel⟩
set_option maxHeartbeats 4000000 in
set_option maxRecDepth 100000 in
theorem c_X5_fold_1 (la : Launch) {y : js_L} (hy : js_Dy y) {G : js_G} {c : js_C} (hC : mr_C G c) {x : Int32} (hx : jb x 6) : js_Ci la y yX5_fold wsX5_fold 4 80 [.ref (js_ad y (191)), .int (x)] G (fun r G' => mP (ms_fold c x) r G G') := by
  refine js_ofi mf_X5_fold (Nat.le_of_ble_eq_true rfl) hy (fun X F hr => ?_)
  replace F : js_F X y cX5_fold 3 RX5 wsX5_fold 4 80 := F
  show js_W X y 3 _ G 0 [(0, .ref (js_ad y (191))), (1, .int (x))] []
  refine js_aload_n (pc := 0) 0 F rfl dX5_fold_0 ?_
  refine js_iload_n (pc := 1) 1 F rfl dX5_fold_1 ?_
  refine js_calli (pc := 2) F (c_X5_whyNotFolded_1 _ hy (x := x) hx) mf_X5_whyNotFolded gX5_fold_X5_whyNotFolded rfl (by decide) (by decide) (js_ct_M) rfl rfl rfl (Nat.le_of_ble_eq_true rfl) dX5_fold_2 ?_
  rintro _ _ ⟨rfl, rfl⟩
  refine js_istore_n (pc := 5) (lv2 := [(0, .ref (js_ad y (191))), (1, .int (x)), (2, .int ((-1)))]) F dX5_fold_5 (by decide) [1, 2, 0] rfl ?_
  refine js_iload_n (pc := 6) 2 F rfl dX5_fold_6 ?_
  refine js_if_ge (pc := 7) (tgt := 12) F dX5_fold_7 (by decide) (fun h7 => absurd h7 (by decide)) (fun _ => ?_)
  refine js_iload_n (pc := 10) 2 F rfl dX5_fold_10 ?_
  refine js_iret (pc := 11) F hr (rfl) ?_ dX5_fold_11
  show mP (ms_fold c x) _ _ _
  rw [show ms_fold c x = (-1, c) from if_pos hx]
  exact ⟨rfl, hC, js_frM.rf⟩
set_option maxHeartbeats 4000000 in
set_option maxRecDepth 100000 in
theorem c_X5_fold_2 (la : Launch) {y : js_L} (hy : js_Dy y) {G : js_G} {c : js_C} (hC : mr_C G c) {i : Nat} (hi : i < 6) (hn : ¬ 2 < (c.1.2 i).1) : js_Ci la y yX5_fold wsX5_fold 4 80 [.ref (js_ad y (191)), .int (nI (i))] G (fun r G' => mP (ms_fold c (nI i)) r G G') := by
  refine js_ofi mf_X5_fold (Nat.le_of_ble_eq_true rfl) hy (fun X F hr => ?_)
  replace F : js_F X y cX5_fold 3 RX5 wsX5_fold 4 80 := F
  show js_W X y 3 _ G 0 [(0, .ref (js_ad y (191))), (1, .int (nI (i)))] []
  refine js_aload_n (pc := 0) 0 F rfl dX5_fold_0 ?_
  refine js_iload_n (pc := 1) 1 F rfl dX5_fold_1 ?_
  refine js_calli (pc := 2) F (c_X5_whyNotFolded_2 _ hy hC.1 (i := i) (by omega)) mf_X5_whyNotFolded gX5_fold_X5_whyNotFolded rfl (by decide) (by decide) (js_ct_M) rfl rfl rfl (Nat.le_of_ble_eq_true rfl) dX5_fold_2 ?_
  rintro _ _ ⟨rfl, rfl⟩
  rw [if_neg hn]
  refine js_istore_n (pc := 5) (lv2 := [(0, .ref (js_ad y (191))), (1, .int (nI (i))), (2, .int ((-5)))]) F dX5_fold_5 (by decide) [1, 2, 0] rfl ?_
  refine js_iload_n (pc := 6) 2 F rfl dX5_fold_6 ?_
  refine js_if_ge (pc := 7) (tgt := 12) F dX5_fold_7 (by decide) (fun h7 => absurd h7 (by decide)) (fun _ => ?_)
  refine js_iload_n (pc := 10) 2 F rfl dX5_fold_10 ?_
  refine js_iret (pc := 11) F hr (rfl) ?_ dX5_fold_11
  show mP (ms_fold c (nI i)) _ _ _
  rw [show ms_fold c (nI i) = (-5, c) from by unfold ms_fold; rw [if_neg (jb_no hi (by decide)), jx (by omega), if_pos hn]]
  exact ⟨rfl, hC, js_frM.rf⟩
set_option maxHeartbeats 4000000 in
set_option maxRecDepth 100000 in
theorem c_X5_fold_3 (la : Launch) {y : js_L} (hy : js_Dy y) {G : js_G} {c : js_C} (hC : mr_C G c) {i : Nat} (hi : i < 6) (hn : 2 < (c.1.2 i).1) : js_Ci la y yX5_fold wsX5_fold 4 80 [.ref (js_ad y (191)), .int (nI (i))] G (fun r G' => mP (ms_fold c (nI i)) r G G') := by
  have hS : mr_K G 192 (1 + 106 * i) (c.1.2 i) := hC.K hi
  have hp : 2 ^ (c.1.2 i).1 ≤ 64 := jm_p6 hS.2.1
  have hp1 := jm_p1 (c.1.2 i).1
  have hB6 := hS.2.1
  have hB2 := hS.1
  have hs6 := hC.1.2.1
  refine js_ofi mf_X5_fold (Nat.le_of_ble_eq_true rfl) hy (fun X F hr => ?_)
  replace F : js_F X y cX5_fold 3 RX5 wsX5_fold 4 80 := F
  show js_W X y 3 _ G 0 [(0, .ref (js_ad y (191))), (1, .int (nI (i)))] []
  refine js_aload_n (pc := 0) 0 F rfl dX5_fold_0 ?_
  refine js_iload_n (pc := 1) 1 F rfl dX5_fold_1 ?_
  refine js_calli (pc := 2) F (c_X5_whyNotFolded_2 _ hy hC.1 (i := i) (by omega)) mf_X5_whyNotFolded gX5_fold_X5_whyNotFolded rfl (by decide) (by decide) (js_ct_M) rfl rfl rfl (Nat.le_of_ble_eq_true rfl) dX5_fold_2 ?_
  rintro _ _ ⟨rfl, rfl⟩
  rw [if_pos hn]
  refine js_istore_n (pc := 5) (lv2 := [(0, .ref (js_ad y (191))), (1, .int (nI (i))), (2, .int (nI (0)))]) F dX5_fold_5 (by decide) [1, 2, 0] rfl ?_
  refine js_iload_n (pc := 6) 2 F rfl dX5_fold_6 ?_
  refine js_if_geN (pc := 7) (a := 0) (tgt := 12) F (by decide) dX5_fold_7 (by decide) (fun _ => ?_) (fun h7 => by exfalso; revert h7; decide)
  refine js_aload_n (pc := 12) 0 F rfl dX5_fold_12 ?_
  refine js_callv (pc := 13) F (c_X5_record _ hy (h := c.2.1) hC.2.1 hC.1) mf_X5_record gX5_fold_X5_record rfl (by decide) (by decide) (js_ct_M) rfl rfl rfl (Nat.le_of_ble_eq_true rfl) dX5_fold_13 ?_
  rintro G1 ⟨q1, q2⟩
  have hC1 := hC.rec q1 q2
  have hS1 : mr_K G1 192 (1 + 106 * i) (c.1.2 i) := hC1.K hi
  refine js_aload_n (pc := 16) 0 F rfl dX5_fold_16 ?_
  refine js_iload_n (pc := 17) 1 F rfl dX5_fold_17 ?_
  refine js_calli (pc := 18) F (c_X5_folds _ hy (s := i) (by omega) (G := G1) hS1 hn) mf_X5_folds gX5_fold_X5_folds rfl (by decide) (by decide) (js_ct_M) rfl rfl rfl (Nat.le_of_ble_eq_true rfl) dX5_fold_18 ?_
  rintro _ G2 ⟨rfl, p1, p2⟩
  refine js_iret (pc := 21) F hr (rfl) ?_ dX5_fold_21
  show mP (ms_fold c (nI i)) _ _ _
  rw [show ms_fold c (nI i) = (nI (2 ^ ((c.1.2 i).1 - 1)), jm_chg c (jm_sk c.1 i (jm_foK (c.1.2 i)))) from by unfold ms_fold; rw [if_neg (jb_no hi (by decide)), jx (by omega), if_neg (fun q => q hn)]]
  exact ⟨rfl, hC1.sk hi p2 p1, (js_frM.H q2).tr (js_frM.S p2)⟩
theorem mf_X5_empty : js_M yX5_empty cX5_empty 2 (some .int) wsX5_empty 1 := ⟨⟨_, rfl⟩, by decide +kernel, by decide +kernel, by decide +kernel, by decide +kernel⟩
set_option maxHeartbeats 4000000 in
set_option maxRecDepth 100000 in
theorem c_X5_empty_1 (la : Launch) {y : js_L} (hy : js_Dy y) {G : js_G} {c : js_C} (hC : mr_C G c) {x : Int32} (hx : jb x 6) : js_Ci la y yX5_empty wsX5_empty 5 101 [.ref (js_ad y (191)), .int (x)] G (fun r G' => mP (ms_empty c x) r G G') := by
  refine js_ofi mf_X5_empty (Nat.le_of_ble_eq_true rfl) hy (fun X F hr => ?_)
  replace F : js_F X y cX5_empty 2 RX5 wsX5_empty 5 101 := F
  show js_W X y 2 _ G 0 [(0, .ref (js_ad y (191))), (1, .int (x))] []
  refine js_iload_n (pc := 0) 1 F rfl dX5_empty_0 ?_
  refine js_callsi (pc := 1) F (c_X5_isSketch _ hy (x := x)) mf_X5_isSketch gX5_empty_X5_isSketch (by decide) rfl rfl (Nat.le_of_ble_eq_true rfl) dX5_empty_1 ?_
  rintro _ _ ⟨rfl, rfl⟩
  refine js_if_neB (pc := 4) (tgt := 9) F dX5_empty_4 (by decide) (fun h4 => by exact absurd hx h4) (fun h4 => ?_)
  refine js_iconst (pc := 7) (v := (-1)) F (by decide) dX5_empty_7 ?_
  refine js_iret (pc := 8) F hr (rfl) ?_ dX5_empty_8
  show mP (ms_empty c x) _ _ _
  rw [show ms_empty c x = (-1, c) from if_pos hx]
  exact ⟨rfl, hC, js_frM.rf⟩
set_option maxHeartbeats 4000000 in
set_option maxRecDepth 100000 in
theorem c_X5_empty_3 (la : Launch) {y : js_L} (hy : js_Dy y) {G : js_G} {c : js_C} (hC : mr_C G c) {i : Nat} (hi : i < 6) : js_Ci la y yX5_empty wsX5_empty 5 101 [.ref (js_ad y (191)), .int (nI (i))] G (fun r G' => mP (ms_empty c (nI i)) r G G') := by
  have hS : mr_K G 192 (1 + 106 * i) (c.1.2 i) := hC.K hi
  have hp : 2 ^ (c.1.2 i).1 ≤ 64 := jm_p6 hS.2.1
  have hp1 := jm_p1 (c.1.2 i).1
  have hB6 := hS.2.1
  have hB2 := hS.1
  have hs6 := hC.1.2.1
  refine js_ofi mf_X5_empty (Nat.le_of_ble_eq_true rfl) hy (fun X F hr => ?_)
  replace F : js_F X y cX5_empty 2 RX5 wsX5_empty 5 101 := F
  show js_W X y 2 _ G 0 [(0, .ref (js_ad y (191))), (1, .int (nI (i)))] []
  refine js_iload_n (pc := 0) 1 F rfl dX5_empty_0 ?_
  refine js_callsi (pc := 1) F (c_X5_isSketch _ hy (x := nI (i))) mf_X5_isSketch gX5_empty_X5_isSketch (by decide) rfl rfl (Nat.le_of_ble_eq_true rfl) dX5_empty_1 ?_
  rintro _ _ ⟨rfl, rfl⟩
  refine js_if_neB (pc := 4) (tgt := 9) F dX5_empty_4 (by decide) (fun h4 => ?_) (fun h4 => by exact absurd (jb_no hi (by decide)) h4)
  refine js_aload_n (pc := 9) 0 F rfl dX5_empty_9 ?_
  refine js_callv (pc := 10) F (c_X5_record _ hy (h := c.2.1) hC.2.1 hC.1) mf_X5_record gX5_empty_X5_record rfl (by decide) (by decide) (js_ct_M) rfl rfl rfl (Nat.le_of_ble_eq_true rfl) dX5_empty_10 ?_
  rintro G1 ⟨q1, q2⟩
  have hC1 := hC.rec q1 q2
  have hS1 : mr_K G1 192 (1 + 106 * i) (c.1.2 i) := hC1.K hi
  refine js_aload_n (pc := 13) 0 F rfl dX5_empty_13 ?_
  refine js_iload_n (pc := 14) 1 F rfl dX5_empty_14 ?_
  refine js_calli (pc := 15) F (c_X5_empties _ hy (s := i) (by omega) (G := G1) hS1) mf_X5_empties gX5_empty_X5_empties rfl (by decide) (by decide) (js_ct_M) rfl rfl rfl (Nat.le_of_ble_eq_true rfl) dX5_empty_15 ?_
  rintro _ G2 ⟨rfl, p1, p2⟩
  refine js_iret (pc := 18) F hr (rfl) ?_ dX5_empty_18
  show mP (ms_empty c (nI i)) _ _ _
  rw [show ms_empty c (nI i) = (nI (jm_fiK (c.1.2 i)), jm_chg c (jm_sk c.1 i (jm_e (c.1.2 i)))) from by unfold ms_empty; rw [if_neg (jb_no hi (by decide)), jx (by omega)]]
  exact ⟨rfl, hC1.sk hi p2 p1, (js_frM.H q2).tr (js_frM.S p2)⟩
theorem mf_X5_thing : js_M yX5_thing cX5_thing 4 (some .int) wsX5_thing 3 := ⟨⟨_, rfl⟩, by decide +kernel, by decide +kernel, by decide +kernel, by decide +kernel⟩
set_option maxHeartbeats 4000000 in
set_option maxRecDepth 100000 in
theorem c_X5_thing_1 (la : Launch) {y : js_L} (hy : js_Dy y) {G : js_G} {c : js_C} (hC : mr_C G c) {x : Int32} {t : Int32} {w : Int32} (hx : jb x 6) : js_Ci la y yX5_thing wsX5_thing 5 99 [.ref (js_ad y (191)), .int (x), .int (t), .int (w)] G (fun r G' => mP (mq_thing c x t w, c) r G G') := by
  refine js_ofi mf_X5_thing (Nat.le_of_ble_eq_true rfl) hy (fun X F hr => ?_)
  replace F : js_F X y cX5_thing 4 RX5 wsX5_thing 5 99 := F
  show js_W X y 4 _ G 0 [(0, .ref (js_ad y (191))), (1, .int (x)), (2, .int (t)), (3, .int (w))] []
  refine js_iload_n (pc := 0) 1 F rfl dX5_thing_0 ?_
  refine js_callsi (pc := 1) F (c_X5_isSketch _ hy (x := x)) mf_X5_isSketch gX5_thing_X5_isSketch (by decide) rfl rfl (Nat.le_of_ble_eq_true rfl) dX5_thing_1 ?_
  rintro _ _ ⟨rfl, rfl⟩
  refine js_if_neB (pc := 4) (tgt := 9) F dX5_thing_4 (by decide) (fun h4 => by exact absurd hx h4) (fun h4 => ?_)
  refine js_iconst (pc := 7) (v := (-1)) F (by decide) dX5_thing_7 ?_
  refine js_iret (pc := 8) F hr (rfl) ?_ dX5_thing_8
  show mP (mq_thing c x t w, c) _ _ _
  rw [show mq_thing c x t w = -1 from if_pos hx]
  exact ⟨rfl, hC, js_frM.rf⟩
set_option maxHeartbeats 4000000 in
set_option maxRecDepth 100000 in
theorem c_X5_thing_2 (la : Launch) {y : js_L} (hy : js_Dy y) {G : js_G} {c : js_C} (hC : mr_C G c) {i : Nat} (hi : i < 6) {t w : Int32} (ht : jb t 100000) : js_Ci la y yX5_thing wsX5_thing 5 99 [.ref (js_ad y (191)), .int (nI (i)), .int (t), .int (w)] G (fun r G' => mP (mq_thing c (nI i) t w, c) r G G') := by
  refine js_ofi mf_X5_thing (Nat.le_of_ble_eq_true rfl) hy (fun X F hr => ?_)
  replace F : js_F X y cX5_thing 4 RX5 wsX5_thing 5 99 := F
  show js_W X y 4 _ G 0 [(0, .ref (js_ad y (191))), (1, .int (nI (i))), (2, .int (t)), (3, .int (w))] []
  refine js_iload_n (pc := 0) 1 F rfl dX5_thing_0 ?_
  refine js_callsi (pc := 1) F (c_X5_isSketch _ hy (x := nI (i))) mf_X5_isSketch gX5_thing_X5_isSketch (by decide) rfl rfl (Nat.le_of_ble_eq_true rfl) dX5_thing_1 ?_
  rintro _ _ ⟨rfl, rfl⟩
  refine js_if_neB (pc := 4) (tgt := 9) F dX5_thing_4 (by decide) (fun h4 => ?_) (fun h4 => by exact absurd (jb_no hi (by decide)) h4)
  refine js_iload_n (pc := 9) 2 F rfl dX5_thing_9 ?_
  refine js_callsi (pc := 10) F (c_X5_isThing _ hy (x := t)) mf_X5_isThing gX5_thing_X5_isThing (by decide) rfl rfl (Nat.le_of_ble_eq_true rfl) dX5_thing_10 ?_
  rintro _ _ ⟨rfl, rfl⟩
  refine js_if_neB (pc := 13) (tgt := 19) F dX5_thing_13 (by decide) (fun h13 => by exact absurd ht h13) (fun h13 => ?_)
  refine js_bipush (pc := 16) (v := (-2)) F (by decide) dX5_thing_16 ?_
  refine js_iret (pc := 18) F hr (rfl) ?_ dX5_thing_18
  show mP (mq_thing c (nI i) t w, c) _ _ _
  rw [show mq_thing c (nI i) t w = -2 from by unfold mq_thing; rw [if_neg (jb_no hi (by decide)), if_pos ht]]
  exact ⟨rfl, hC, js_frM.rf⟩
set_option maxHeartbeats 4000000 in
set_option maxRecDepth 100000 in
theorem c_X5_thing_3 (la : Launch) {y : js_L} (hy : js_Dy y) {G : js_G} {c : js_C} (hC : mr_C G c) {i : Nat} (hi : i < 6) {t : Nat} (ht : t < 100000) {w : Int32} (hw : jb w 4) : js_Ci la y yX5_thing wsX5_thing 5 99 [.ref (js_ad y (191)), .int (nI (i)), .int (nI (t)), .int (w)] G (fun r G' => mP (mq_thing c (nI i) (nI t) w, c) r G G') := by
  refine js_ofi mf_X5_thing (Nat.le_of_ble_eq_true rfl) hy (fun X F hr => ?_)
  replace F : js_F X y cX5_thing 4 RX5 wsX5_thing 5 99 := F
  show js_W X y 4 _ G 0 [(0, .ref (js_ad y (191))), (1, .int (nI (i))), (2, .int (nI (t))), (3, .int (w))] []
  refine js_iload_n (pc := 0) 1 F rfl dX5_thing_0 ?_
  refine js_callsi (pc := 1) F (c_X5_isSketch _ hy (x := nI (i))) mf_X5_isSketch gX5_thing_X5_isSketch (by decide) rfl rfl (Nat.le_of_ble_eq_true rfl) dX5_thing_1 ?_
  rintro _ _ ⟨rfl, rfl⟩
  refine js_if_neB (pc := 4) (tgt := 9) F dX5_thing_4 (by decide) (fun h4 => ?_) (fun h4 => by exact absurd (jb_no hi (by decide)) h4)
  refine js_iload_n (pc := 9) 2 F rfl dX5_thing_9 ?_
  refine js_callsi (pc := 10) F (c_X5_isThing _ hy (x := nI (t))) mf_X5_isThing gX5_thing_X5_isThing (by decide) rfl rfl (Nat.le_of_ble_eq_true rfl) dX5_thing_10 ?_
  rintro _ _ ⟨rfl, rfl⟩
  refine js_if_neB (pc := 13) (tgt := 19) F dX5_thing_13 (by decide) (fun h13 => ?_) (fun h13 => by exact absurd (jb_no ht (by decide)) h13)
  refine js_iload_n (pc := 19) 3 F rfl dX5_thing_19 ?_
  refine js_tableOut (pc := 20) (tgt := 92) F dX5_thing_20 (by have := jb_sw (n := 4) (by decide) hw; omega) (by decide) ?_
  refine js_bipush (pc := 92) (v := (-2)) F (by decide) dX5_thing_92 ?_
  refine js_iret (pc := 94) F hr (rfl) ?_ dX5_thing_94
  show mP (mq_thing c (nI i) (nI t) w, c) _ _ _
  rw [show mq_thing c (nI i) (nI t) w = -2 from by unfold mq_thing; rw [if_neg (jb_no hi (by decide)), if_neg (jb_no ht (by decide)), if_neg (jb_ne hw (by decide) (by decide)), if_neg (jb_ne hw (by decide) (by decide)), if_neg (jb_ne hw (by decide) (by decide)), if_neg (jb_ne hw (by decide) (by decide))]]
  exact ⟨rfl, hC, js_frM.rf⟩
theorem in_X5_thing_5 : ∀ w ∈ wsX50, w ∈ wsX5_thing := by decide +kernel
theorem lk_X5_thing_fieldLink_RX5_7_JoinedSketchesModel_state_I : Cond.fieldLink RX5 7 "JoinedSketchesModel" "state" "[I" ∈ wsX5_thing := by decide +kernel
set_option maxHeartbeats 4000000 in
set_option maxRecDepth 100000 in
theorem c_X5_thing_40 (la : Launch) {y : js_L} (hy : js_Dy y) {G : js_G} {c : js_C} (hC : mr_C G c) {i : Nat} (hi : i < 6) {t : Nat} (ht : t < 100000) : js_Ci la y yX5_thing wsX5_thing 5 99 [.ref (js_ad y (191)), .int (nI (i)), .int (nI (t)), .int (nI (0))] G (fun r G' => mP (mq_thing c (nI i) (nI t) (nI 0), c) r G G') := by
  have hS : mr_K G 192 (1 + 106 * i) (c.1.2 i) := hC.K hi
  have hp : 2 ^ (c.1.2 i).1 ≤ 64 := jm_p6 hS.2.1
  have hp1 := jm_p1 (c.1.2 i).1
  have hB6 := hS.2.1
  have hB2 := hS.1
  have hs6 := hC.1.2.1
  refine js_ofi mf_X5_thing (Nat.le_of_ble_eq_true rfl) hy (fun X F hr => ?_)
  replace F : js_F X y cX5_thing 4 RX5 wsX5_thing 5 99 := F
  show js_W X y 4 _ G 0 [(0, .ref (js_ad y (191))), (1, .int (nI (i))), (2, .int (nI (t))), (3, .int (nI (0)))] []
  refine js_iload_n (pc := 0) 1 F rfl dX5_thing_0 ?_
  refine js_callsi (pc := 1) F (c_X5_isSketch _ hy (x := nI (i))) mf_X5_isSketch gX5_thing_X5_isSketch (by decide) rfl rfl (Nat.le_of_ble_eq_true rfl) dX5_thing_1 ?_
  rintro _ _ ⟨rfl, rfl⟩
  refine js_if_neB (pc := 4) (tgt := 9) F dX5_thing_4 (by decide) (fun h4 => ?_) (fun h4 => by exact absurd (jb_no hi (by decide)) h4)
  refine js_iload_n (pc := 9) 2 F rfl dX5_thing_9 ?_
  refine js_callsi (pc := 10) F (c_X5_isThing _ hy (x := nI (t))) mf_X5_isThing gX5_thing_X5_isThing (by decide) rfl rfl (Nat.le_of_ble_eq_true rfl) dX5_thing_10 ?_
  rintro _ _ ⟨rfl, rfl⟩
  refine js_if_neB (pc := 13) (tgt := 19) F dX5_thing_13 (by decide) (fun h13 => ?_) (fun h13 => by exact absurd (jb_no ht (by decide)) h13)
  refine js_iload_n (pc := 19) 3 F rfl dX5_thing_19 ?_
  refine js_tableIn (pc := 20) (off := 32) (tgt := 52) F dX5_thing_20 (by decide) (by decide) (by decide) (by decide) ?_
  refine js_iload_n (pc := 52) 2 F rfl dX5_thing_52 ?_
  refine js_aload_n (pc := 53) 0 F rfl dX5_thing_53 ?_
  refine jg_M_state (pc := 54) F in_X5_thing_5 (lk_X5_thing_fieldLink_RX5_7_JoinedSketchesModel_state_I) dX5_thing_54 ?_
  refine js_iconst (pc := 57) (v := nI (0)) F (by decide) dX5_thing_57 ?_
  refine js_iald (pc := 58) (j := 0) (v := nI (c.1.1)) F (by decide) (js_ct_Ms) rfl (by omega) (by decide) (hC.1.1) dX5_thing_58 ?_
  refine js_callsi (pc := 59) F (c_X5_hashOf _ hy (t := t) (sl := c.1.1) (by omega) (by omega)) mf_X5_hashOf gX5_thing_X5_hashOf (by decide) rfl rfl (Nat.le_of_ble_eq_true rfl) dX5_thing_59 ?_
  rintro _ _ ⟨rfl, rfl⟩
  refine js_iret (pc := 62) F hr (rfl) ?_ dX5_thing_62
  show mP (mq_thing c (nI i) (nI t) (nI 0), c) _ _ _
  rw [show mq_thing c (nI i) (nI t) (nI 0) = nI (jm_hash t c.1.1) from by unfold mq_thing; rw [if_neg (jb_no hi (by decide)), if_neg (jb_no ht (by decide)), if_pos rfl, jx (by omega)]]
  exact ⟨rfl, hC, js_frM.rf⟩
set_option maxHeartbeats 4000000 in
set_option maxRecDepth 100000 in
theorem c_X5_thing_41 (la : Launch) {y : js_L} (hy : js_Dy y) {G : js_G} {c : js_C} (hC : mr_C G c) {i : Nat} (hi : i < 6) {t : Nat} (ht : t < 100000) : js_Ci la y yX5_thing wsX5_thing 5 99 [.ref (js_ad y (191)), .int (nI (i)), .int (nI (t)), .int (nI (1))] G (fun r G' => mP (mq_thing c (nI i) (nI t) (nI 1), c) r G G') := by
  have hS : mr_K G 192 (1 + 106 * i) (c.1.2 i) := hC.K hi
  have hp : 2 ^ (c.1.2 i).1 ≤ 64 := jm_p6 hS.2.1
  have hp1 := jm_p1 (c.1.2 i).1
  have hB6 := hS.2.1
  have hB2 := hS.1
  have hs6 := hC.1.2.1
  refine js_ofi mf_X5_thing (Nat.le_of_ble_eq_true rfl) hy (fun X F hr => ?_)
  replace F : js_F X y cX5_thing 4 RX5 wsX5_thing 5 99 := F
  show js_W X y 4 _ G 0 [(0, .ref (js_ad y (191))), (1, .int (nI (i))), (2, .int (nI (t))), (3, .int (nI (1)))] []
  refine js_iload_n (pc := 0) 1 F rfl dX5_thing_0 ?_
  refine js_callsi (pc := 1) F (c_X5_isSketch _ hy (x := nI (i))) mf_X5_isSketch gX5_thing_X5_isSketch (by decide) rfl rfl (Nat.le_of_ble_eq_true rfl) dX5_thing_1 ?_
  rintro _ _ ⟨rfl, rfl⟩
  refine js_if_neB (pc := 4) (tgt := 9) F dX5_thing_4 (by decide) (fun h4 => ?_) (fun h4 => by exact absurd (jb_no hi (by decide)) h4)
  refine js_iload_n (pc := 9) 2 F rfl dX5_thing_9 ?_
  refine js_callsi (pc := 10) F (c_X5_isThing _ hy (x := nI (t))) mf_X5_isThing gX5_thing_X5_isThing (by decide) rfl rfl (Nat.le_of_ble_eq_true rfl) dX5_thing_10 ?_
  rintro _ _ ⟨rfl, rfl⟩
  refine js_if_neB (pc := 13) (tgt := 19) F dX5_thing_13 (by decide) (fun h13 => ?_) (fun h13 => by exact absurd (jb_no ht (by decide)) h13)
  refine js_iload_n (pc := 19) 3 F rfl dX5_thing_19 ?_
  refine js_tableIn (pc := 20) (off := 43) (tgt := 63) F dX5_thing_20 (by decide) (by decide) (by decide) (by decide) ?_
  refine js_aload_n (pc := 63) 0 F rfl dX5_thing_63 ?_
  refine js_iload_n (pc := 64) 1 F rfl dX5_thing_64 ?_
  refine js_iload_n (pc := 65) 2 F rfl dX5_thing_65 ?_
  refine js_calli (pc := 66) F (c_X5_bucketOf _ hy (s := i) (by omega) (G := G) (hS) (sl := c.1.1) (hC.1.1) (by omega) (t := t) (by omega)) mf_X5_bucketOf gX5_thing_X5_bucketOf rfl (by decide) (by decide) (js_ct_M) rfl rfl rfl (Nat.le_of_ble_eq_true rfl) dX5_thing_66 ?_
  rintro _ _ ⟨rfl, rfl⟩
  refine js_iret (pc := 69) F hr (rfl) ?_ dX5_thing_69
  show mP (mq_thing c (nI i) (nI t) (nI 1), c) _ _ _
  rw [show mq_thing c (nI i) (nI t) (nI 1) = nI (jm_hash t c.1.1 % 2 ^ (c.1.2 i).1) from by unfold mq_thing; rw [if_neg (jb_no hi (by decide)), if_neg (jb_no ht (by decide)), if_neg (show ¬ nI 1 = nI 0 by decide), if_pos rfl, jx (by omega), jx (by omega)]]
  exact ⟨rfl, hC, js_frM.rf⟩
set_option maxHeartbeats 4000000 in
set_option maxRecDepth 100000 in
theorem c_X5_thing_42 (la : Launch) {y : js_L} (hy : js_Dy y) {G : js_G} {c : js_C} (hC : mr_C G c) {i : Nat} (hi : i < 6) {t : Nat} (ht : t < 100000) : js_Ci la y yX5_thing wsX5_thing 5 99 [.ref (js_ad y (191)), .int (nI (i)), .int (nI (t)), .int (nI (2))] G (fun r G' => mP (mq_thing c (nI i) (nI t) (nI 2), c) r G G') := by
  have hS : mr_K G 192 (1 + 106 * i) (c.1.2 i) := hC.K hi
  have hp : 2 ^ (c.1.2 i).1 ≤ 64 := jm_p6 hS.2.1
  have hp1 := jm_p1 (c.1.2 i).1
  have hB6 := hS.2.1
  have hB2 := hS.1
  have hs6 := hC.1.2.1
  refine js_ofi mf_X5_thing (Nat.le_of_ble_eq_true rfl) hy (fun X F hr => ?_)
  replace F : js_F X y cX5_thing 4 RX5 wsX5_thing 5 99 := F
  show js_W X y 4 _ G 0 [(0, .ref (js_ad y (191))), (1, .int (nI (i))), (2, .int (nI (t))), (3, .int (nI (2)))] []
  refine js_iload_n (pc := 0) 1 F rfl dX5_thing_0 ?_
  refine js_callsi (pc := 1) F (c_X5_isSketch _ hy (x := nI (i))) mf_X5_isSketch gX5_thing_X5_isSketch (by decide) rfl rfl (Nat.le_of_ble_eq_true rfl) dX5_thing_1 ?_
  rintro _ _ ⟨rfl, rfl⟩
  refine js_if_neB (pc := 4) (tgt := 9) F dX5_thing_4 (by decide) (fun h4 => ?_) (fun h4 => by exact absurd (jb_no hi (by decide)) h4)
  refine js_iload_n (pc := 9) 2 F rfl dX5_thing_9 ?_
  refine js_callsi (pc := 10) F (c_X5_isThing _ hy (x := nI (t))) mf_X5_isThing gX5_thing_X5_isThing (by decide) rfl rfl (Nat.le_of_ble_eq_true rfl) dX5_thing_10 ?_
  rintro _ _ ⟨rfl, rfl⟩
  refine js_if_neB (pc := 13) (tgt := 19) F dX5_thing_13 (by decide) (fun h13 => ?_) (fun h13 => by exact absurd (jb_no ht (by decide)) h13)
  refine js_iload_n (pc := 19) 3 F rfl dX5_thing_19 ?_
  refine js_tableIn (pc := 20) (off := 50) (tgt := 70) F dX5_thing_20 (by decide) (by decide) (by decide) (by decide) ?_
  refine js_aload_n (pc := 70) 0 F rfl dX5_thing_70 ?_
  refine js_iload_n (pc := 71) 1 F rfl dX5_thing_71 ?_
  refine js_iload_n (pc := 72) 2 F rfl dX5_thing_72 ?_
  refine js_calli (pc := 73) F (c_X5_rankIn _ hy (s := i) (by omega) (G := G) (hS) (sl := c.1.1) (hC.1.1) (by omega) (t := t) (by omega)) mf_X5_rankIn gX5_thing_X5_rankIn rfl (by decide) (by decide) (js_ct_M) rfl rfl rfl (Nat.le_of_ble_eq_true rfl) dX5_thing_73 ?_
  rintro _ _ ⟨rfl, rfl⟩
  refine js_iret (pc := 76) F hr (rfl) ?_ dX5_thing_76
  show mP (mq_thing c (nI i) (nI t) (nI 2), c) _ _ _
  rw [show mq_thing c (nI i) (nI t) (nI 2) = nI (jm_rank (jm_hash t c.1.1) (c.1.2 i).1) from by unfold mq_thing; rw [if_neg (jb_no hi (by decide)), if_neg (jb_no ht (by decide)), if_neg (show ¬ nI 2 = nI 0 by decide), if_neg (show ¬ nI 2 = nI 1 by decide), if_pos rfl, jx (by omega), jx (by omega)]]
  exact ⟨rfl, hC, js_frM.rf⟩
set_option maxHeartbeats 4000000 in
set_option maxRecDepth 100000 in
theorem c_X5_thing_43 (la : Launch) {y : js_L} (hy : js_Dy y) {G : js_G} {c : js_C} (hC : mr_C G c) {i : Nat} (hi : i < 6) {t : Nat} (ht : t < 100000) : js_Ci la y yX5_thing wsX5_thing 5 99 [.ref (js_ad y (191)), .int (nI (i)), .int (nI (t)), .int (nI (3))] G (fun r G' => mP (mq_thing c (nI i) (nI t) (nI 3), c) r G G') := by
  have hS : mr_K G 192 (1 + 106 * i) (c.1.2 i) := hC.K hi
  have hp : 2 ^ (c.1.2 i).1 ≤ 64 := jm_p6 hS.2.1
  have hp1 := jm_p1 (c.1.2 i).1
  have hB6 := hS.2.1
  have hB2 := hS.1
  have hs6 := hC.1.2.1
  refine js_ofi mf_X5_thing (Nat.le_of_ble_eq_true rfl) hy (fun X F hr => ?_)
  replace F : js_F X y cX5_thing 4 RX5 wsX5_thing 5 99 := F
  show js_W X y 4 _ G 0 [(0, .ref (js_ad y (191))), (1, .int (nI (i))), (2, .int (nI (t))), (3, .int (nI (3)))] []
  refine js_iload_n (pc := 0) 1 F rfl dX5_thing_0 ?_
  refine js_callsi (pc := 1) F (c_X5_isSketch _ hy (x := nI (i))) mf_X5_isSketch gX5_thing_X5_isSketch (by decide) rfl rfl (Nat.le_of_ble_eq_true rfl) dX5_thing_1 ?_
  rintro _ _ ⟨rfl, rfl⟩
  refine js_if_neB (pc := 4) (tgt := 9) F dX5_thing_4 (by decide) (fun h4 => ?_) (fun h4 => by exact absurd (jb_no hi (by decide)) h4)
  refine js_iload_n (pc := 9) 2 F rfl dX5_thing_9 ?_
  refine js_callsi (pc := 10) F (c_X5_isThing _ hy (x := nI (t))) mf_X5_isThing gX5_thing_X5_isThing (by decide) rfl rfl (Nat.le_of_ble_eq_true rfl) dX5_thing_10 ?_
  rintro _ _ ⟨rfl, rfl⟩
  refine js_if_neB (pc := 13) (tgt := 19) F dX5_thing_13 (by decide) (fun h13 => ?_) (fun h13 => by exact absurd (jb_no ht (by decide)) h13)
  refine js_iload_n (pc := 19) 3 F rfl dX5_thing_19 ?_
  refine js_tableIn (pc := 20) (off := 57) (tgt := 77) F dX5_thing_20 (by decide) (by decide) (by decide) (by decide) ?_
  refine js_aload_n (pc := 77) 0 F rfl dX5_thing_77 ?_
  refine js_iload_n (pc := 78) 1 F rfl dX5_thing_78 ?_
  refine js_iload_n (pc := 79) 2 F rfl dX5_thing_79 ?_
  refine js_calli (pc := 80) F (c_X5_wouldChange _ hy (s := i) (by omega) (G := G) (hS) (sl := c.1.1) (hC.1.1) (by omega) (t := t) (by omega)) mf_X5_wouldChange gX5_thing_X5_wouldChange rfl (by decide) (by decide) (js_ct_M) rfl rfl rfl (Nat.le_of_ble_eq_true rfl) dX5_thing_80 ?_
  rintro _ _ ⟨rfl, rfl⟩
  refine js_if_eqB (pc := 83) (tgt := 90) F dX5_thing_83 (by decide) (fun h83 => ?_) (fun h83 => ?_)
  · skip
    refine js_iconst (pc := 90) (v := nI (0)) F (by decide) dX5_thing_90 ?_
    refine js_iret (pc := 91) F hr (rfl) ?_ dX5_thing_91
    show mP (mq_thing c (nI i) (nI t) (nI 3), c) _ _ _
    rw [show mq_thing c (nI i) (nI t) (nI 3) = nI (if (c.1.2 i).2.1 (jm_hash t c.1.1 % 2 ^ (c.1.2 i).1) < jm_rank (jm_hash t c.1.1) (c.1.2 i).1 then 1 else 0) from by unfold mq_thing; rw [if_neg (jb_no hi (by decide)), if_neg (jb_no ht (by decide)), if_neg (show ¬ nI 3 = nI 0 by decide), if_neg (show ¬ nI 3 = nI 1 by decide), if_neg (show ¬ nI 3 = nI 2 by decide), if_pos rfl, jx (by omega), jx (by omega)]]
    exact ⟨by show nI 0 = nI _; rw [if_neg h83], hC, js_frM.rf⟩
  · skip
    refine js_iconst (pc := 86) (v := nI (1)) F (by decide) dX5_thing_86 ?_
    refine js_goto (pc := 87) (tgt := 91) F dX5_thing_87 (by decide) ?_
    refine js_iret (pc := 91) F hr (rfl) ?_ dX5_thing_91
    show mP (mq_thing c (nI i) (nI t) (nI 3), c) _ _ _
    rw [show mq_thing c (nI i) (nI t) (nI 3) = nI (if (c.1.2 i).2.1 (jm_hash t c.1.1 % 2 ^ (c.1.2 i).1) < jm_rank (jm_hash t c.1.1) (c.1.2 i).1 then 1 else 0) from by unfold mq_thing; rw [if_neg (jb_no hi (by decide)), if_neg (jb_no ht (by decide)), if_neg (show ¬ nI 3 = nI 0 by decide), if_neg (show ¬ nI 3 = nI 1 by decide), if_neg (show ¬ nI 3 = nI 2 by decide), if_pos rfl, jx (by omega), jx (by omega)]]
    exact ⟨by show nI 1 = nI _; rw [if_pos h83], hC, js_frM.rf⟩
theorem mf_X5_bucket : js_M yX5_bucket cX5_bucket 3 (some .int) wsX5_bucket 2 := ⟨⟨_, rfl⟩, by decide +kernel, by decide +kernel, by decide +kernel, by decide +kernel⟩
set_option maxHeartbeats 4000000 in
set_option maxRecDepth 100000 in
theorem c_X5_bucket_1 (la : Launch) {y : js_L} (hy : js_Dy y) {G : js_G} {c : js_C} (hC : mr_C G c) {x : Int32} {b : Int32} (hx : jb x 6) : js_Ci la y yX5_bucket wsX5_bucket 3 55 [.ref (js_ad y (191)), .int (x), .int (b)] G (fun r G' => mP (mq_bucket c x b, c) r G G') := by
  refine js_ofi mf_X5_bucket (Nat.le_of_ble_eq_true rfl) hy (fun X F hr => ?_)
  replace F : js_F X y cX5_bucket 3 RX5 wsX5_bucket 3 55 := F
  show js_W X y 3 _ G 0 [(0, .ref (js_ad y (191))), (1, .int (x)), (2, .int (b))] []
  refine js_iload_n (pc := 0) 1 F rfl dX5_bucket_0 ?_
  refine js_callsi (pc := 1) F (c_X5_isSketch _ hy (x := x)) mf_X5_isSketch gX5_bucket_X5_isSketch (by decide) rfl rfl (Nat.le_of_ble_eq_true rfl) dX5_bucket_1 ?_
  rintro _ _ ⟨rfl, rfl⟩
  refine js_if_eqB (pc := 4) (tgt := 33) F dX5_bucket_4 (by decide) (fun h4 => ?_) (fun h4 => by exact absurd hx h4)
  refine js_iconst (pc := 33) (v := (-1)) F (by decide) dX5_bucket_33 ?_
  refine js_iret (pc := 34) F hr (rfl) ?_ dX5_bucket_34
  show mP (mq_bucket c x b, c) _ _ _
  rw [show mq_bucket c x b = -1 from if_pos hx]
  exact ⟨rfl, hC, js_frM.rf⟩
set_option maxHeartbeats 4000000 in
set_option maxRecDepth 100000 in
theorem c_X5_bucket_2 (la : Launch) {y : js_L} (hy : js_Dy y) {G : js_G} {c : js_C} (hC : mr_C G c) {i : Nat} (hi : i < 6) {b : Int32} (hb : jb b (2 ^ (c.1.2 i).1)) : js_Ci la y yX5_bucket wsX5_bucket 3 55 [.ref (js_ad y (191)), .int (nI (i)), .int (b)] G (fun r G' => mP (mq_bucket c (nI i) b, c) r G G') := by
  have hS : mr_K G 192 (1 + 106 * i) (c.1.2 i) := hC.K hi
  have hp : 2 ^ (c.1.2 i).1 ≤ 64 := jm_p6 hS.2.1
  have hp1 := jm_p1 (c.1.2 i).1
  have hB6 := hS.2.1
  have hB2 := hS.1
  have hs6 := hC.1.2.1
  refine js_ofi mf_X5_bucket (Nat.le_of_ble_eq_true rfl) hy (fun X F hr => ?_)
  replace F : js_F X y cX5_bucket 3 RX5 wsX5_bucket 3 55 := F
  show js_W X y 3 _ G 0 [(0, .ref (js_ad y (191))), (1, .int (nI (i))), (2, .int (b))] []
  refine js_iload_n (pc := 0) 1 F rfl dX5_bucket_0 ?_
  refine js_callsi (pc := 1) F (c_X5_isSketch _ hy (x := nI (i))) mf_X5_isSketch gX5_bucket_X5_isSketch (by decide) rfl rfl (Nat.le_of_ble_eq_true rfl) dX5_bucket_1 ?_
  rintro _ _ ⟨rfl, rfl⟩
  refine js_if_eqB (pc := 4) (tgt := 33) F dX5_bucket_4 (by decide) (fun h4 => by exact absurd (jb_no hi (by decide)) h4) (fun h4 => ?_)
  refine js_iload_n (pc := 7) 2 F rfl dX5_bucket_7 ?_
  refine js_iconst (pc := 8) (v := nI (0)) F (by decide) dX5_bucket_8 ?_
  refine js_aload_n (pc := 9) 0 F rfl dX5_bucket_9 ?_
  refine js_iload_n (pc := 10) 1 F rfl dX5_bucket_10 ?_
  refine js_calli (pc := 11) F (c_X5_bucketsOf _ hy (s := i) (by omega) (G := G) (hS)) mf_X5_bucketsOf gX5_bucket_X5_bucketsOf rfl (by decide) (by decide) (js_ct_M) rfl rfl rfl (Nat.le_of_ble_eq_true rfl) dX5_bucket_11 ?_
  rintro _ _ ⟨rfl, rfl⟩
  refine js_iconst (pc := 14) (v := nI (1)) F (by decide) dX5_bucket_14 ?_
  refine js_isubN (pc := 15) (a := 2 ^ ((c.1.2 i).1)) (b := 1) F (by omega) dX5_bucket_15 ?_
  refine js_callsi (pc := 16) F (c_X5_within _ hy (v := b) (lo := nI (0)) (hi := nI ((2 ^ ((c.1.2 i).1)) - 1))) mf_X5_within gX5_bucket_X5_within (by decide) rfl rfl (Nat.le_of_ble_eq_true rfl) dX5_bucket_16 ?_
  rintro _ _ ⟨rfl, rfl⟩
  rw [jw_ifn (n := 2 ^ (c.1.2 i).1) (by omega) (by omega)]
  refine js_if_eqB (pc := 19) (tgt := 33) F dX5_bucket_19 (by decide) (fun h19 => ?_) (fun h19 => by exact absurd hb h19)
  refine js_iconst (pc := 33) (v := (-1)) F (by decide) dX5_bucket_33 ?_
  refine js_iret (pc := 34) F hr (rfl) ?_ dX5_bucket_34
  show mP (mq_bucket c (nI i) b, c) _ _ _
  rw [show mq_bucket c (nI i) b = -1 from by unfold mq_bucket; rw [if_neg (jb_no hi (by decide)), jx (by omega), if_pos hb]]
  exact ⟨rfl, hC, js_frM.rf⟩
set_option maxHeartbeats 4000000 in
set_option maxRecDepth 100000 in
theorem c_X5_bucket_3 (la : Launch) {y : js_L} (hy : js_Dy y) {G : js_G} {c : js_C} (hC : mr_C G c) {i : Nat} (hi : i < 6) {b : Nat} (hb : b < 2 ^ (c.1.2 i).1) : js_Ci la y yX5_bucket wsX5_bucket 3 55 [.ref (js_ad y (191)), .int (nI (i)), .int (nI (b))] G (fun r G' => mP (mq_bucket c (nI i) (nI b), c) r G G') := by
  have hS : mr_K G 192 (1 + 106 * i) (c.1.2 i) := hC.K hi
  have hp : 2 ^ (c.1.2 i).1 ≤ 64 := jm_p6 hS.2.1
  have hp1 := jm_p1 (c.1.2 i).1
  have hB6 := hS.2.1
  have hB2 := hS.1
  have hs6 := hC.1.2.1
  refine js_ofi mf_X5_bucket (Nat.le_of_ble_eq_true rfl) hy (fun X F hr => ?_)
  replace F : js_F X y cX5_bucket 3 RX5 wsX5_bucket 3 55 := F
  show js_W X y 3 _ G 0 [(0, .ref (js_ad y (191))), (1, .int (nI (i))), (2, .int (nI (b)))] []
  refine js_iload_n (pc := 0) 1 F rfl dX5_bucket_0 ?_
  refine js_callsi (pc := 1) F (c_X5_isSketch _ hy (x := nI (i))) mf_X5_isSketch gX5_bucket_X5_isSketch (by decide) rfl rfl (Nat.le_of_ble_eq_true rfl) dX5_bucket_1 ?_
  rintro _ _ ⟨rfl, rfl⟩
  refine js_if_eqB (pc := 4) (tgt := 33) F dX5_bucket_4 (by decide) (fun h4 => by exact absurd (jb_no hi (by decide)) h4) (fun h4 => ?_)
  refine js_iload_n (pc := 7) 2 F rfl dX5_bucket_7 ?_
  refine js_iconst (pc := 8) (v := nI (0)) F (by decide) dX5_bucket_8 ?_
  refine js_aload_n (pc := 9) 0 F rfl dX5_bucket_9 ?_
  refine js_iload_n (pc := 10) 1 F rfl dX5_bucket_10 ?_
  refine js_calli (pc := 11) F (c_X5_bucketsOf _ hy (s := i) (by omega) (G := G) (hS)) mf_X5_bucketsOf gX5_bucket_X5_bucketsOf rfl (by decide) (by decide) (js_ct_M) rfl rfl rfl (Nat.le_of_ble_eq_true rfl) dX5_bucket_11 ?_
  rintro _ _ ⟨rfl, rfl⟩
  refine js_iconst (pc := 14) (v := nI (1)) F (by decide) dX5_bucket_14 ?_
  refine js_isubN (pc := 15) (a := 2 ^ ((c.1.2 i).1)) (b := 1) F (by omega) dX5_bucket_15 ?_
  refine js_callsi (pc := 16) F (c_X5_within _ hy (v := nI (b)) (lo := nI (0)) (hi := nI ((2 ^ ((c.1.2 i).1)) - 1))) mf_X5_within gX5_bucket_X5_within (by decide) rfl rfl (Nat.le_of_ble_eq_true rfl) dX5_bucket_16 ?_
  rintro _ _ ⟨rfl, rfl⟩
  rw [jw_ifn (n := 2 ^ (c.1.2 i).1) (by omega) (by omega)]
  refine js_if_eqB (pc := 19) (tgt := 33) F dX5_bucket_19 (by decide) (fun h19 => by exact absurd (jb_no hb (by omega)) h19) (fun h19 => ?_)
  refine js_aload_n (pc := 22) 0 F rfl dX5_bucket_22 ?_
  refine js_iload_n (pc := 23) 1 F rfl dX5_bucket_23 ?_
  refine js_iconst (pc := 24) (v := nI (2)) F (by decide) dX5_bucket_24 ?_
  refine js_iload_n (pc := 25) 2 F rfl dX5_bucket_25 ?_
  refine js_iaddN (pc := 26) (a := 2) (b := b) F dX5_bucket_26 ?_
  refine js_calli (pc := 27) F (c_X5_part _ hy (G := G) (s := i) (p := 2 + b) (by omega)) mf_X5_part gX5_bucket_X5_part rfl (by decide) (by decide) (js_ct_M) rfl rfl rfl (Nat.le_of_ble_eq_true rfl) dX5_bucket_27 ?_
  rintro _ _ ⟨hv27, rfl⟩
  rw [hv27, show G 192 ((1 + 106 * i) + (2 + b)) = nI (((c.1.2 i).2.1) (b)) from ((hS.2.2.2.1 _ (by omega)).trans (congrArg nI (jz_lt (by omega))))]
  clear hv27
  refine js_goto (pc := 30) (tgt := 34) F dX5_bucket_30 (by decide) ?_
  refine js_iret (pc := 34) F hr (rfl) ?_ dX5_bucket_34
  show mP (mq_bucket c (nI i) (nI b), c) _ _ _
  rw [show mq_bucket c (nI i) (nI b) = nI ((c.1.2 i).2.1 b) from by unfold mq_bucket; rw [if_neg (jb_no hi (by decide)), jx (by omega), if_neg (jb_no hb (by omega)), jx (by omega)]]
  exact ⟨rfl, hC, js_frM.rf⟩
theorem mf_X5_ofSketch : js_M yX5_ofSketch cX5_ofSketch 4 (some .int) wsX5_ofSketch 2 := ⟨⟨_, rfl⟩, by decide +kernel, by decide +kernel, by decide +kernel, by decide +kernel⟩
set_option maxHeartbeats 4000000 in
set_option maxRecDepth 100000 in
theorem c_X5_ofSketch_1 (la : Launch) {y : js_L} (hy : js_Dy y) {G : js_G} {c : js_C} (hC : mr_C G c) {x : Int32} {w : Int32} (hx : jb x 6) : js_Ci la y yX5_ofSketch wsX5_ofSketch 6 124 [.ref (js_ad y (191)), .int (x), .int (w)] G (fun r G' => mP (mq_ofSketch c x w, c) r G G') := by
  refine js_ofi mf_X5_ofSketch (Nat.le_of_ble_eq_true rfl) hy (fun X F hr => ?_)
  replace F : js_F X y cX5_ofSketch 4 RX5 wsX5_ofSketch 6 124 := F
  show js_W X y 4 _ G 0 [(0, .ref (js_ad y (191))), (1, .int (x)), (2, .int (w))] []
  refine js_iload_n (pc := 0) 1 F rfl dX5_ofSketch_0 ?_
  refine js_callsi (pc := 1) F (c_X5_isSketch _ hy (x := x)) mf_X5_isSketch gX5_ofSketch_X5_isSketch (by decide) rfl rfl (Nat.le_of_ble_eq_true rfl) dX5_ofSketch_1 ?_
  rintro _ _ ⟨rfl, rfl⟩
  refine js_if_neB (pc := 4) (tgt := 9) F dX5_ofSketch_4 (by decide) (fun h4 => by exact absurd hx h4) (fun h4 => ?_)
  refine js_iconst (pc := 7) (v := (-1)) F (by decide) dX5_ofSketch_7 ?_
  refine js_iret (pc := 8) F hr (rfl) ?_ dX5_ofSketch_8
  show mP (mq_ofSketch c x w, c) _ _ _
  rw [show mq_ofSketch c x w = -1 from if_pos hx]
  exact ⟨rfl, hC, js_frM.rf⟩
set_option maxHeartbeats 4000000 in
set_option maxRecDepth 100000 in
theorem c_X5_ofSketch_2 (la : Launch) {y : js_L} (hy : js_Dy y) {G : js_G} {c : js_C} (hC : mr_C G c) {i : Nat} (hi : i < 6) {w : Int32} (hw : jb w 9) : js_Ci la y yX5_ofSketch wsX5_ofSketch 6 124 [.ref (js_ad y (191)), .int (nI (i)), .int (w)] G (fun r G' => mP (mq_ofSketch c (nI i) w, c) r G G') := by
  have hS : mr_K G 192 (1 + 106 * i) (c.1.2 i) := hC.K hi
  have hp : 2 ^ (c.1.2 i).1 ≤ 64 := jm_p6 hS.2.1
  have hp1 := jm_p1 (c.1.2 i).1
  have hB6 := hS.2.1
  have hB2 := hS.1
  have hs6 := hC.1.2.1
  refine js_ofi mf_X5_ofSketch (Nat.le_of_ble_eq_true rfl) hy (fun X F hr => ?_)
  replace F : js_F X y cX5_ofSketch 4 RX5 wsX5_ofSketch 6 124 := F
  show js_W X y 4 _ G 0 [(0, .ref (js_ad y (191))), (1, .int (nI (i))), (2, .int (w))] []
  refine js_iload_n (pc := 0) 1 F rfl dX5_ofSketch_0 ?_
  refine js_callsi (pc := 1) F (c_X5_isSketch _ hy (x := nI (i))) mf_X5_isSketch gX5_ofSketch_X5_isSketch (by decide) rfl rfl (Nat.le_of_ble_eq_true rfl) dX5_ofSketch_1 ?_
  rintro _ _ ⟨rfl, rfl⟩
  refine js_if_neB (pc := 4) (tgt := 9) F dX5_ofSketch_4 (by decide) (fun h4 => ?_) (fun h4 => by exact absurd (jb_no hi (by decide)) h4)
  refine js_aload_n (pc := 9) 0 F rfl dX5_ofSketch_9 ?_
  refine js_iload_n (pc := 10) 1 F rfl dX5_ofSketch_10 ?_
  refine js_calli (pc := 11) F (c_X5_bucketsOf _ hy (s := i) (by omega) (G := G) (hS)) mf_X5_bucketsOf gX5_ofSketch_X5_bucketsOf rfl (by decide) (by decide) (js_ct_M) rfl rfl rfl (Nat.le_of_ble_eq_true rfl) dX5_ofSketch_11 ?_
  rintro _ _ ⟨rfl, rfl⟩
  refine js_istore_n (pc := 14) (lv2 := [(0, .ref (js_ad y (191))), (1, .int (nI (i))), (2, .int (w)), (3, .int (nI (2 ^ ((c.1.2 i).1))))]) F dX5_ofSketch_14 (by decide) [1, 2, 3, 0] rfl ?_
  refine js_aload_n (pc := 15) 0 F rfl dX5_ofSketch_15 ?_
  refine js_iload_n (pc := 16) 1 F rfl dX5_ofSketch_16 ?_
  refine js_callv (pc := 17) F (c_X5_takeRanks _ hy (s := i) (by omega) (G := G) (hS)) mf_X5_takeRanks gX5_ofSketch_X5_takeRanks rfl (by decide) (by decide) (js_ct_M) rfl rfl rfl (Nat.le_of_ble_eq_true rfl) dX5_ofSketch_17 ?_
  rintro G17 ⟨t17, f17⟩
  refine js_iload_n (pc := 20) 2 F rfl dX5_ofSketch_20 ?_
  refine js_tableOut (pc := 21) (tgt := 124) F dX5_ofSketch_21 (by have := jb_sw (n := 9) (by decide) hw; omega) (by decide) ?_
  refine js_bipush (pc := 124) (v := (-2)) F (by decide) dX5_ofSketch_124 ?_
  refine js_iret (pc := 126) F hr (rfl) ?_ dX5_ofSketch_126
  show mP (mq_ofSketch c (nI i) w, c) _ _ _
  rw [show mq_ofSketch c (nI i) w = -2 from by unfold mq_ofSketch; rw [if_neg (jb_no hi (by decide)), if_pos hw]]
  exact ⟨rfl, hC.R f17, js_frM.R f17⟩
set_option maxHeartbeats 4000000 in
set_option maxRecDepth 100000 in
theorem c_X5_ofSketch_30 (la : Launch) {y : js_L} (hy : js_Dy y) {G : js_G} {c : js_C} (hC : mr_C G c) {i : Nat} (hi : i < 6) : js_Ci la y yX5_ofSketch wsX5_ofSketch 6 124 [.ref (js_ad y (191)), .int (nI (i)), .int (nI (0))] G (fun r G' => mP (mq_ofSketch c (nI i) (nI 0), c) r G G') := by
  have hS : mr_K G 192 (1 + 106 * i) (c.1.2 i) := hC.K hi
  have hp : 2 ^ (c.1.2 i).1 ≤ 64 := jm_p6 hS.2.1
  have hp1 := jm_p1 (c.1.2 i).1
  have hB6 := hS.2.1
  have hB2 := hS.1
  have hs6 := hC.1.2.1
  refine js_ofi mf_X5_ofSketch (Nat.le_of_ble_eq_true rfl) hy (fun X F hr => ?_)
  replace F : js_F X y cX5_ofSketch 4 RX5 wsX5_ofSketch 6 124 := F
  show js_W X y 4 _ G 0 [(0, .ref (js_ad y (191))), (1, .int (nI (i))), (2, .int (nI (0)))] []
  refine js_iload_n (pc := 0) 1 F rfl dX5_ofSketch_0 ?_
  refine js_callsi (pc := 1) F (c_X5_isSketch _ hy (x := nI (i))) mf_X5_isSketch gX5_ofSketch_X5_isSketch (by decide) rfl rfl (Nat.le_of_ble_eq_true rfl) dX5_ofSketch_1 ?_
  rintro _ _ ⟨rfl, rfl⟩
  refine js_if_neB (pc := 4) (tgt := 9) F dX5_ofSketch_4 (by decide) (fun h4 => ?_) (fun h4 => by exact absurd (jb_no hi (by decide)) h4)
  refine js_aload_n (pc := 9) 0 F rfl dX5_ofSketch_9 ?_
  refine js_iload_n (pc := 10) 1 F rfl dX5_ofSketch_10 ?_
  refine js_calli (pc := 11) F (c_X5_bucketsOf _ hy (s := i) (by omega) (G := G) (hS)) mf_X5_bucketsOf gX5_ofSketch_X5_bucketsOf rfl (by decide) (by decide) (js_ct_M) rfl rfl rfl (Nat.le_of_ble_eq_true rfl) dX5_ofSketch_11 ?_
  rintro _ _ ⟨rfl, rfl⟩
  refine js_istore_n (pc := 14) (lv2 := [(0, .ref (js_ad y (191))), (1, .int (nI (i))), (2, .int (nI (0))), (3, .int (nI (2 ^ ((c.1.2 i).1))))]) F dX5_ofSketch_14 (by decide) [1, 2, 3, 0] rfl ?_
  refine js_aload_n (pc := 15) 0 F rfl dX5_ofSketch_15 ?_
  refine js_iload_n (pc := 16) 1 F rfl dX5_ofSketch_16 ?_
  refine js_callv (pc := 17) F (c_X5_takeRanks _ hy (s := i) (by omega) (G := G) (hS)) mf_X5_takeRanks gX5_ofSketch_X5_takeRanks rfl (by decide) (by decide) (js_ct_M) rfl rfl rfl (Nat.le_of_ble_eq_true rfl) dX5_ofSketch_17 ?_
  rintro G17 ⟨t17, f17⟩
  refine js_iload_n (pc := 20) 2 F rfl dX5_ofSketch_20 ?_
  refine js_tableIn (pc := 21) (off := 51) (tgt := 72) F dX5_ofSketch_21 (by decide) (by decide) (by decide) (by decide) ?_
  refine js_aload_n (pc := 72) 0 F rfl dX5_ofSketch_72 ?_
  refine js_iload_n (pc := 73) 1 F rfl dX5_ofSketch_73 ?_
  refine js_iconst (pc := 74) (v := nI (0)) F (by decide) dX5_ofSketch_74 ?_
  refine js_calli (pc := 75) F (c_X5_part _ hy (G := G17) (s := i) (p := 0) (by omega)) mf_X5_part gX5_ofSketch_X5_part rfl (by decide) (by decide) (js_ct_M) rfl rfl rfl (Nat.le_of_ble_eq_true rfl) dX5_ofSketch_75 ?_
  rintro _ _ ⟨hv75, rfl⟩
  rw [hv75, show G17 192 ((1 + 106 * i) + 0) = nI ((c.1.2 i).1) from (((hS).co (f17 192 (by decide))).2.2.1)]
  clear hv75
  refine js_iret (pc := 78) F hr (rfl) ?_ dX5_ofSketch_78
  show mP (mq_ofSketch c (nI i) (nI 0), c) _ _ _
  rw [show mq_ofSketch c (nI i) (nI 0) = nI (c.1.2 i).1 from by unfold mq_ofSketch; rw [if_neg (jb_no hi (by decide)), if_neg (jb_no (by decide) (by decide)), jx (by omega), jx (by decide)]; rfl]
  exact ⟨rfl, hC.R f17, js_frM.R f17⟩
set_option maxHeartbeats 4000000 in
set_option maxRecDepth 100000 in
theorem c_X5_ofSketch_31 (la : Launch) {y : js_L} (hy : js_Dy y) {G : js_G} {c : js_C} (hC : mr_C G c) {i : Nat} (hi : i < 6) : js_Ci la y yX5_ofSketch wsX5_ofSketch 6 124 [.ref (js_ad y (191)), .int (nI (i)), .int (nI (1))] G (fun r G' => mP (mq_ofSketch c (nI i) (nI 1), c) r G G') := by
  have hS : mr_K G 192 (1 + 106 * i) (c.1.2 i) := hC.K hi
  have hp : 2 ^ (c.1.2 i).1 ≤ 64 := jm_p6 hS.2.1
  have hp1 := jm_p1 (c.1.2 i).1
  have hB6 := hS.2.1
  have hB2 := hS.1
  have hs6 := hC.1.2.1
  refine js_ofi mf_X5_ofSketch (Nat.le_of_ble_eq_true rfl) hy (fun X F hr => ?_)
  replace F : js_F X y cX5_ofSketch 4 RX5 wsX5_ofSketch 6 124 := F
  show js_W X y 4 _ G 0 [(0, .ref (js_ad y (191))), (1, .int (nI (i))), (2, .int (nI (1)))] []
  refine js_iload_n (pc := 0) 1 F rfl dX5_ofSketch_0 ?_
  refine js_callsi (pc := 1) F (c_X5_isSketch _ hy (x := nI (i))) mf_X5_isSketch gX5_ofSketch_X5_isSketch (by decide) rfl rfl (Nat.le_of_ble_eq_true rfl) dX5_ofSketch_1 ?_
  rintro _ _ ⟨rfl, rfl⟩
  refine js_if_neB (pc := 4) (tgt := 9) F dX5_ofSketch_4 (by decide) (fun h4 => ?_) (fun h4 => by exact absurd (jb_no hi (by decide)) h4)
  refine js_aload_n (pc := 9) 0 F rfl dX5_ofSketch_9 ?_
  refine js_iload_n (pc := 10) 1 F rfl dX5_ofSketch_10 ?_
  refine js_calli (pc := 11) F (c_X5_bucketsOf _ hy (s := i) (by omega) (G := G) (hS)) mf_X5_bucketsOf gX5_ofSketch_X5_bucketsOf rfl (by decide) (by decide) (js_ct_M) rfl rfl rfl (Nat.le_of_ble_eq_true rfl) dX5_ofSketch_11 ?_
  rintro _ _ ⟨rfl, rfl⟩
  refine js_istore_n (pc := 14) (lv2 := [(0, .ref (js_ad y (191))), (1, .int (nI (i))), (2, .int (nI (1))), (3, .int (nI (2 ^ ((c.1.2 i).1))))]) F dX5_ofSketch_14 (by decide) [1, 2, 3, 0] rfl ?_
  refine js_aload_n (pc := 15) 0 F rfl dX5_ofSketch_15 ?_
  refine js_iload_n (pc := 16) 1 F rfl dX5_ofSketch_16 ?_
  refine js_callv (pc := 17) F (c_X5_takeRanks _ hy (s := i) (by omega) (G := G) (hS)) mf_X5_takeRanks gX5_ofSketch_X5_takeRanks rfl (by decide) (by decide) (js_ct_M) rfl rfl rfl (Nat.le_of_ble_eq_true rfl) dX5_ofSketch_17 ?_
  rintro G17 ⟨t17, f17⟩
  refine js_iload_n (pc := 20) 2 F rfl dX5_ofSketch_20 ?_
  refine js_tableIn (pc := 21) (off := 58) (tgt := 79) F dX5_ofSketch_21 (by decide) (by decide) (by decide) (by decide) ?_
  refine js_iload_n (pc := 79) 3 F rfl dX5_ofSketch_79 ?_
  refine js_iret (pc := 80) F hr (rfl) ?_ dX5_ofSketch_80
  show mP (mq_ofSketch c (nI i) (nI 1), c) _ _ _
  rw [show mq_ofSketch c (nI i) (nI 1) = nI (2 ^ (c.1.2 i).1) from by unfold mq_ofSketch; rw [if_neg (jb_no hi (by decide)), if_neg (jb_no (by decide) (by decide)), jx (by omega), jx (by decide)]; rfl]
  exact ⟨rfl, hC.R f17, js_frM.R f17⟩
set_option maxHeartbeats 4000000 in
set_option maxRecDepth 100000 in
theorem c_X5_ofSketch_32 (la : Launch) {y : js_L} (hy : js_Dy y) {G : js_G} {c : js_C} (hC : mr_C G c) {i : Nat} (hi : i < 6) : js_Ci la y yX5_ofSketch wsX5_ofSketch 6 124 [.ref (js_ad y (191)), .int (nI (i)), .int (nI (2))] G (fun r G' => mP (mq_ofSketch c (nI i) (nI 2), c) r G G') := by
  have hS : mr_K G 192 (1 + 106 * i) (c.1.2 i) := hC.K hi
  have hp : 2 ^ (c.1.2 i).1 ≤ 64 := jm_p6 hS.2.1
  have hp1 := jm_p1 (c.1.2 i).1
  have hB6 := hS.2.1
  have hB2 := hS.1
  have hs6 := hC.1.2.1
  refine js_ofi mf_X5_ofSketch (Nat.le_of_ble_eq_true rfl) hy (fun X F hr => ?_)
  replace F : js_F X y cX5_ofSketch 4 RX5 wsX5_ofSketch 6 124 := F
  show js_W X y 4 _ G 0 [(0, .ref (js_ad y (191))), (1, .int (nI (i))), (2, .int (nI (2)))] []
  refine js_iload_n (pc := 0) 1 F rfl dX5_ofSketch_0 ?_
  refine js_callsi (pc := 1) F (c_X5_isSketch _ hy (x := nI (i))) mf_X5_isSketch gX5_ofSketch_X5_isSketch (by decide) rfl rfl (Nat.le_of_ble_eq_true rfl) dX5_ofSketch_1 ?_
  rintro _ _ ⟨rfl, rfl⟩
  refine js_if_neB (pc := 4) (tgt := 9) F dX5_ofSketch_4 (by decide) (fun h4 => ?_) (fun h4 => by exact absurd (jb_no hi (by decide)) h4)
  refine js_aload_n (pc := 9) 0 F rfl dX5_ofSketch_9 ?_
  refine js_iload_n (pc := 10) 1 F rfl dX5_ofSketch_10 ?_
  refine js_calli (pc := 11) F (c_X5_bucketsOf _ hy (s := i) (by omega) (G := G) (hS)) mf_X5_bucketsOf gX5_ofSketch_X5_bucketsOf rfl (by decide) (by decide) (js_ct_M) rfl rfl rfl (Nat.le_of_ble_eq_true rfl) dX5_ofSketch_11 ?_
  rintro _ _ ⟨rfl, rfl⟩
  refine js_istore_n (pc := 14) (lv2 := [(0, .ref (js_ad y (191))), (1, .int (nI (i))), (2, .int (nI (2))), (3, .int (nI (2 ^ ((c.1.2 i).1))))]) F dX5_ofSketch_14 (by decide) [1, 2, 3, 0] rfl ?_
  refine js_aload_n (pc := 15) 0 F rfl dX5_ofSketch_15 ?_
  refine js_iload_n (pc := 16) 1 F rfl dX5_ofSketch_16 ?_
  refine js_callv (pc := 17) F (c_X5_takeRanks _ hy (s := i) (by omega) (G := G) (hS)) mf_X5_takeRanks gX5_ofSketch_X5_takeRanks rfl (by decide) (by decide) (js_ct_M) rfl rfl rfl (Nat.le_of_ble_eq_true rfl) dX5_ofSketch_17 ?_
  rintro G17 ⟨t17, f17⟩
  refine js_iload_n (pc := 20) 2 F rfl dX5_ofSketch_20 ?_
  refine js_tableIn (pc := 21) (off := 60) (tgt := 81) F dX5_ofSketch_21 (by decide) (by decide) (by decide) (by decide) ?_
  refine js_aload_n (pc := 81) 0 F rfl dX5_ofSketch_81 ?_
  refine js_iload_n (pc := 82) 3 F rfl dX5_ofSketch_82 ?_
  refine js_calli (pc := 83) F (c_X5_emptyBy _ hy (G := G17) (m := 2 ^ ((c.1.2 i).1)) (by omega) (rk := (c.1.2 i).2.1) (fun b hb => (t17 b (by omega)).trans (congrArg nI (jz_lt hb))) (fun b hb => Nat.le_trans ((hS).2.2.2.2.1 b hb) (by omega))) mf_X5_emptyBy gX5_ofSketch_X5_emptyBy rfl (by decide) (by decide) (js_ct_M) rfl rfl rfl (Nat.le_of_ble_eq_true rfl) dX5_ofSketch_83 ?_
  rintro _ _ ⟨rfl, rfl⟩
  refine js_iret (pc := 86) F hr (rfl) ?_ dX5_ofSketch_86
  show mP (mq_ofSketch c (nI i) (nI 2), c) _ _ _
  rw [show mq_ofSketch c (nI i) (nI 2) = nI (jm_emp (c.1.2 i).2.1 (2 ^ (c.1.2 i).1)) from by unfold mq_ofSketch; rw [if_neg (jb_no hi (by decide)), if_neg (jb_no (by decide) (by decide)), jx (by omega), jx (by decide)]; rfl]
  exact ⟨rfl, hC.R f17, js_frM.R f17⟩
set_option maxHeartbeats 4000000 in
set_option maxRecDepth 100000 in
theorem c_X5_ofSketch_33 (la : Launch) {y : js_L} (hy : js_Dy y) {G : js_G} {c : js_C} (hC : mr_C G c) {i : Nat} (hi : i < 6) : js_Ci la y yX5_ofSketch wsX5_ofSketch 6 124 [.ref (js_ad y (191)), .int (nI (i)), .int (nI (3))] G (fun r G' => mP (mq_ofSketch c (nI i) (nI 3), c) r G G') := by
  have hS : mr_K G 192 (1 + 106 * i) (c.1.2 i) := hC.K hi
  have hp : 2 ^ (c.1.2 i).1 ≤ 64 := jm_p6 hS.2.1
  have hp1 := jm_p1 (c.1.2 i).1
  have hB6 := hS.2.1
  have hB2 := hS.1
  have hs6 := hC.1.2.1
  refine js_ofi mf_X5_ofSketch (Nat.le_of_ble_eq_true rfl) hy (fun X F hr => ?_)
  replace F : js_F X y cX5_ofSketch 4 RX5 wsX5_ofSketch 6 124 := F
  show js_W X y 4 _ G 0 [(0, .ref (js_ad y (191))), (1, .int (nI (i))), (2, .int (nI (3)))] []
  refine js_iload_n (pc := 0) 1 F rfl dX5_ofSketch_0 ?_
  refine js_callsi (pc := 1) F (c_X5_isSketch _ hy (x := nI (i))) mf_X5_isSketch gX5_ofSketch_X5_isSketch (by decide) rfl rfl (Nat.le_of_ble_eq_true rfl) dX5_ofSketch_1 ?_
  rintro _ _ ⟨rfl, rfl⟩
  refine js_if_neB (pc := 4) (tgt := 9) F dX5_ofSketch_4 (by decide) (fun h4 => ?_) (fun h4 => by exact absurd (jb_no hi (by decide)) h4)
  refine js_aload_n (pc := 9) 0 F rfl dX5_ofSketch_9 ?_
  refine js_iload_n (pc := 10) 1 F rfl dX5_ofSketch_10 ?_
  refine js_calli (pc := 11) F (c_X5_bucketsOf _ hy (s := i) (by omega) (G := G) (hS)) mf_X5_bucketsOf gX5_ofSketch_X5_bucketsOf rfl (by decide) (by decide) (js_ct_M) rfl rfl rfl (Nat.le_of_ble_eq_true rfl) dX5_ofSketch_11 ?_
  rintro _ _ ⟨rfl, rfl⟩
  refine js_istore_n (pc := 14) (lv2 := [(0, .ref (js_ad y (191))), (1, .int (nI (i))), (2, .int (nI (3))), (3, .int (nI (2 ^ ((c.1.2 i).1))))]) F dX5_ofSketch_14 (by decide) [1, 2, 3, 0] rfl ?_
  refine js_aload_n (pc := 15) 0 F rfl dX5_ofSketch_15 ?_
  refine js_iload_n (pc := 16) 1 F rfl dX5_ofSketch_16 ?_
  refine js_callv (pc := 17) F (c_X5_takeRanks _ hy (s := i) (by omega) (G := G) (hS)) mf_X5_takeRanks gX5_ofSketch_X5_takeRanks rfl (by decide) (by decide) (js_ct_M) rfl rfl rfl (Nat.le_of_ble_eq_true rfl) dX5_ofSketch_17 ?_
  rintro G17 ⟨t17, f17⟩
  refine js_iload_n (pc := 20) 2 F rfl dX5_ofSketch_20 ?_
  refine js_tableIn (pc := 21) (off := 66) (tgt := 87) F dX5_ofSketch_21 (by decide) (by decide) (by decide) (by decide) ?_
  refine js_aload_n (pc := 87) 0 F rfl dX5_ofSketch_87 ?_
  refine js_iload_n (pc := 88) 1 F rfl dX5_ofSketch_88 ?_
  refine js_calli (pc := 89) F (c_X5_greatestRank _ hy (s := i) (by omega) (G := G17) ((hS).co (f17 192 (by decide)))) mf_X5_greatestRank gX5_ofSketch_X5_greatestRank rfl (by decide) (by decide) (js_ct_M) rfl rfl rfl (Nat.le_of_ble_eq_true rfl) dX5_ofSketch_89 ?_
  rintro _ _ ⟨rfl, rfl⟩
  refine js_iret (pc := 92) F hr (rfl) ?_ dX5_ofSketch_92
  show mP (mq_ofSketch c (nI i) (nI 3), c) _ _ _
  rw [show mq_ofSketch c (nI i) (nI 3) = nI (jm_max (c.1.2 i).2.1 (2 ^ (c.1.2 i).1)) from by unfold mq_ofSketch; rw [if_neg (jb_no hi (by decide)), if_neg (jb_no (by decide) (by decide)), jx (by omega), jx (by decide)]; rfl]
  exact ⟨rfl, hC.R f17, js_frM.R f17⟩
set_option maxHeartbeats 4000000 in
set_option maxRecDepth 100000 in
theorem c_X5_ofSketch_34 (la : Launch) {y : js_L} (hy : js_Dy y) {G : js_G} {c : js_C} (hC : mr_C G c) {i : Nat} (hi : i < 6) : js_Ci la y yX5_ofSketch wsX5_ofSketch 6 124 [.ref (js_ad y (191)), .int (nI (i)), .int (nI (4))] G (fun r G' => mP (mq_ofSketch c (nI i) (nI 4), c) r G G') := by
  have hS : mr_K G 192 (1 + 106 * i) (c.1.2 i) := hC.K hi
  have hp : 2 ^ (c.1.2 i).1 ≤ 64 := jm_p6 hS.2.1
  have hp1 := jm_p1 (c.1.2 i).1
  have hB6 := hS.2.1
  have hB2 := hS.1
  have hs6 := hC.1.2.1
  refine js_ofi mf_X5_ofSketch (Nat.le_of_ble_eq_true rfl) hy (fun X F hr => ?_)
  replace F : js_F X y cX5_ofSketch 4 RX5 wsX5_ofSketch 6 124 := F
  show js_W X y 4 _ G 0 [(0, .ref (js_ad y (191))), (1, .int (nI (i))), (2, .int (nI (4)))] []
  refine js_iload_n (pc := 0) 1 F rfl dX5_ofSketch_0 ?_
  refine js_callsi (pc := 1) F (c_X5_isSketch _ hy (x := nI (i))) mf_X5_isSketch gX5_ofSketch_X5_isSketch (by decide) rfl rfl (Nat.le_of_ble_eq_true rfl) dX5_ofSketch_1 ?_
  rintro _ _ ⟨rfl, rfl⟩
  refine js_if_neB (pc := 4) (tgt := 9) F dX5_ofSketch_4 (by decide) (fun h4 => ?_) (fun h4 => by exact absurd (jb_no hi (by decide)) h4)
  refine js_aload_n (pc := 9) 0 F rfl dX5_ofSketch_9 ?_
  refine js_iload_n (pc := 10) 1 F rfl dX5_ofSketch_10 ?_
  refine js_calli (pc := 11) F (c_X5_bucketsOf _ hy (s := i) (by omega) (G := G) (hS)) mf_X5_bucketsOf gX5_ofSketch_X5_bucketsOf rfl (by decide) (by decide) (js_ct_M) rfl rfl rfl (Nat.le_of_ble_eq_true rfl) dX5_ofSketch_11 ?_
  rintro _ _ ⟨rfl, rfl⟩
  refine js_istore_n (pc := 14) (lv2 := [(0, .ref (js_ad y (191))), (1, .int (nI (i))), (2, .int (nI (4))), (3, .int (nI (2 ^ ((c.1.2 i).1))))]) F dX5_ofSketch_14 (by decide) [1, 2, 3, 0] rfl ?_
  refine js_aload_n (pc := 15) 0 F rfl dX5_ofSketch_15 ?_
  refine js_iload_n (pc := 16) 1 F rfl dX5_ofSketch_16 ?_
  refine js_callv (pc := 17) F (c_X5_takeRanks _ hy (s := i) (by omega) (G := G) (hS)) mf_X5_takeRanks gX5_ofSketch_X5_takeRanks rfl (by decide) (by decide) (js_ct_M) rfl rfl rfl (Nat.le_of_ble_eq_true rfl) dX5_ofSketch_17 ?_
  rintro G17 ⟨t17, f17⟩
  refine js_iload_n (pc := 20) 2 F rfl dX5_ofSketch_20 ?_
  refine js_tableIn (pc := 21) (off := 72) (tgt := 93) F dX5_ofSketch_21 (by decide) (by decide) (by decide) (by decide) ?_
  refine js_aload_n (pc := 93) 0 F rfl dX5_ofSketch_93 ?_
  refine js_iload_n (pc := 94) 3 F rfl dX5_ofSketch_94 ?_
  refine js_calli (pc := 95) F (c_X5_sumBy _ hy (G := G17) (m := 2 ^ ((c.1.2 i).1)) (by omega) (rk := (c.1.2 i).2.1) (fun b hb => (t17 b (by omega)).trans (congrArg nI (jz_lt hb))) (fun b hb => Nat.le_trans ((hS).2.2.2.2.1 b hb) (by omega))) mf_X5_sumBy gX5_ofSketch_X5_sumBy rfl (by decide) (by decide) (js_ct_M) rfl rfl rfl (Nat.le_of_ble_eq_true rfl) dX5_ofSketch_95 ?_
  rintro _ _ ⟨rfl, rfl⟩
  refine js_iret (pc := 98) F hr (rfl) ?_ dX5_ofSketch_98
  show mP (mq_ofSketch c (nI i) (nI 4), c) _ _ _
  rw [show mq_ofSketch c (nI i) (nI 4) = nI (jm_S (c.1.2 i).2.1 (2 ^ (c.1.2 i).1)) from by unfold mq_ofSketch; rw [if_neg (jb_no hi (by decide)), if_neg (jb_no (by decide) (by decide)), jx (by omega), jx (by decide)]; rfl]
  exact ⟨rfl, hC.R f17, js_frM.R f17⟩
set_option maxHeartbeats 4000000 in
set_option maxRecDepth 100000 in
theorem c_X5_ofSketch_35 (la : Launch) {y : js_L} (hy : js_Dy y) {G : js_G} {c : js_C} (hC : mr_C G c) {i : Nat} (hi : i < 6) : js_Ci la y yX5_ofSketch wsX5_ofSketch 6 124 [.ref (js_ad y (191)), .int (nI (i)), .int (nI (5))] G (fun r G' => mP (mq_ofSketch c (nI i) (nI 5), c) r G G') := by
  have hS : mr_K G 192 (1 + 106 * i) (c.1.2 i) := hC.K hi
  have hp : 2 ^ (c.1.2 i).1 ≤ 64 := jm_p6 hS.2.1
  have hp1 := jm_p1 (c.1.2 i).1
  have hB6 := hS.2.1
  have hB2 := hS.1
  have hs6 := hC.1.2.1
  refine js_ofi mf_X5_ofSketch (Nat.le_of_ble_eq_true rfl) hy (fun X F hr => ?_)
  replace F : js_F X y cX5_ofSketch 4 RX5 wsX5_ofSketch 6 124 := F
  show js_W X y 4 _ G 0 [(0, .ref (js_ad y (191))), (1, .int (nI (i))), (2, .int (nI (5)))] []
  refine js_iload_n (pc := 0) 1 F rfl dX5_ofSketch_0 ?_
  refine js_callsi (pc := 1) F (c_X5_isSketch _ hy (x := nI (i))) mf_X5_isSketch gX5_ofSketch_X5_isSketch (by decide) rfl rfl (Nat.le_of_ble_eq_true rfl) dX5_ofSketch_1 ?_
  rintro _ _ ⟨rfl, rfl⟩
  refine js_if_neB (pc := 4) (tgt := 9) F dX5_ofSketch_4 (by decide) (fun h4 => ?_) (fun h4 => by exact absurd (jb_no hi (by decide)) h4)
  refine js_aload_n (pc := 9) 0 F rfl dX5_ofSketch_9 ?_
  refine js_iload_n (pc := 10) 1 F rfl dX5_ofSketch_10 ?_
  refine js_calli (pc := 11) F (c_X5_bucketsOf _ hy (s := i) (by omega) (G := G) (hS)) mf_X5_bucketsOf gX5_ofSketch_X5_bucketsOf rfl (by decide) (by decide) (js_ct_M) rfl rfl rfl (Nat.le_of_ble_eq_true rfl) dX5_ofSketch_11 ?_
  rintro _ _ ⟨rfl, rfl⟩
  refine js_istore_n (pc := 14) (lv2 := [(0, .ref (js_ad y (191))), (1, .int (nI (i))), (2, .int (nI (5))), (3, .int (nI (2 ^ ((c.1.2 i).1))))]) F dX5_ofSketch_14 (by decide) [1, 2, 3, 0] rfl ?_
  refine js_aload_n (pc := 15) 0 F rfl dX5_ofSketch_15 ?_
  refine js_iload_n (pc := 16) 1 F rfl dX5_ofSketch_16 ?_
  refine js_callv (pc := 17) F (c_X5_takeRanks _ hy (s := i) (by omega) (G := G) (hS)) mf_X5_takeRanks gX5_ofSketch_X5_takeRanks rfl (by decide) (by decide) (js_ct_M) rfl rfl rfl (Nat.le_of_ble_eq_true rfl) dX5_ofSketch_17 ?_
  rintro G17 ⟨t17, f17⟩
  refine js_iload_n (pc := 20) 2 F rfl dX5_ofSketch_20 ?_
  refine js_tableIn (pc := 21) (off := 78) (tgt := 99) F dX5_ofSketch_21 (by decide) (by decide) (by decide) (by decide) ?_
  refine js_aload_n (pc := 99) 0 F rfl dX5_ofSketch_99 ?_
  refine js_iload_n (pc := 100) 3 F rfl dX5_ofSketch_100 ?_
  refine js_calli (pc := 101) F (c_X5_rawBy _ hy (G := G17) (m := 2 ^ ((c.1.2 i).1)) (by omega) (rk := (c.1.2 i).2.1) (fun b hb => (t17 b (by omega)).trans (congrArg nI (jz_lt hb))) (fun b hb => Nat.le_trans ((hS).2.2.2.2.1 b hb) (by omega)) (by omega)) mf_X5_rawBy gX5_ofSketch_X5_rawBy rfl (by decide) (by decide) (js_ct_M) rfl rfl rfl (Nat.le_of_ble_eq_true rfl) dX5_ofSketch_101 ?_
  rintro _ _ ⟨rfl, rfl⟩
  refine js_iret (pc := 104) F hr (rfl) ?_ dX5_ofSketch_104
  show mP (mq_ofSketch c (nI i) (nI 5), c) _ _ _
  rw [show mq_ofSketch c (nI i) (nI 5) = nI (jm_raw (2 ^ (c.1.2 i).1) (jm_S (c.1.2 i).2.1 (2 ^ (c.1.2 i).1))) from by unfold mq_ofSketch; rw [if_neg (jb_no hi (by decide)), if_neg (jb_no (by decide) (by decide)), jx (by omega), jx (by decide)]; rfl]
  exact ⟨rfl, hC.R f17, js_frM.R f17⟩
set_option maxHeartbeats 4000000 in
set_option maxRecDepth 100000 in
theorem c_X5_ofSketch_36 (la : Launch) {y : js_L} (hy : js_Dy y) {G : js_G} {c : js_C} (hC : mr_C G c) {i : Nat} (hi : i < 6) : js_Ci la y yX5_ofSketch wsX5_ofSketch 6 124 [.ref (js_ad y (191)), .int (nI (i)), .int (nI (6))] G (fun r G' => mP (mq_ofSketch c (nI i) (nI 6), c) r G G') := by
  have hS : mr_K G 192 (1 + 106 * i) (c.1.2 i) := hC.K hi
  have hp : 2 ^ (c.1.2 i).1 ≤ 64 := jm_p6 hS.2.1
  have hp1 := jm_p1 (c.1.2 i).1
  have hB6 := hS.2.1
  have hB2 := hS.1
  have hs6 := hC.1.2.1
  refine js_ofi mf_X5_ofSketch (Nat.le_of_ble_eq_true rfl) hy (fun X F hr => ?_)
  replace F : js_F X y cX5_ofSketch 4 RX5 wsX5_ofSketch 6 124 := F
  show js_W X y 4 _ G 0 [(0, .ref (js_ad y (191))), (1, .int (nI (i))), (2, .int (nI (6)))] []
  refine js_iload_n (pc := 0) 1 F rfl dX5_ofSketch_0 ?_
  refine js_callsi (pc := 1) F (c_X5_isSketch _ hy (x := nI (i))) mf_X5_isSketch gX5_ofSketch_X5_isSketch (by decide) rfl rfl (Nat.le_of_ble_eq_true rfl) dX5_ofSketch_1 ?_
  rintro _ _ ⟨rfl, rfl⟩
  refine js_if_neB (pc := 4) (tgt := 9) F dX5_ofSketch_4 (by decide) (fun h4 => ?_) (fun h4 => by exact absurd (jb_no hi (by decide)) h4)
  refine js_aload_n (pc := 9) 0 F rfl dX5_ofSketch_9 ?_
  refine js_iload_n (pc := 10) 1 F rfl dX5_ofSketch_10 ?_
  refine js_calli (pc := 11) F (c_X5_bucketsOf _ hy (s := i) (by omega) (G := G) (hS)) mf_X5_bucketsOf gX5_ofSketch_X5_bucketsOf rfl (by decide) (by decide) (js_ct_M) rfl rfl rfl (Nat.le_of_ble_eq_true rfl) dX5_ofSketch_11 ?_
  rintro _ _ ⟨rfl, rfl⟩
  refine js_istore_n (pc := 14) (lv2 := [(0, .ref (js_ad y (191))), (1, .int (nI (i))), (2, .int (nI (6))), (3, .int (nI (2 ^ ((c.1.2 i).1))))]) F dX5_ofSketch_14 (by decide) [1, 2, 3, 0] rfl ?_
  refine js_aload_n (pc := 15) 0 F rfl dX5_ofSketch_15 ?_
  refine js_iload_n (pc := 16) 1 F rfl dX5_ofSketch_16 ?_
  refine js_callv (pc := 17) F (c_X5_takeRanks _ hy (s := i) (by omega) (G := G) (hS)) mf_X5_takeRanks gX5_ofSketch_X5_takeRanks rfl (by decide) (by decide) (js_ct_M) rfl rfl rfl (Nat.le_of_ble_eq_true rfl) dX5_ofSketch_17 ?_
  rintro G17 ⟨t17, f17⟩
  refine js_iload_n (pc := 20) 2 F rfl dX5_ofSketch_20 ?_
  refine js_tableIn (pc := 21) (off := 84) (tgt := 105) F dX5_ofSketch_21 (by decide) (by decide) (by decide) (by decide) ?_
  refine js_aload_n (pc := 105) 0 F rfl dX5_ofSketch_105 ?_
  refine js_iload_n (pc := 106) 3 F rfl dX5_ofSketch_106 ?_
  refine js_calli (pc := 107) F (c_X5_estimateBy _ hy (G := G17) (m := 2 ^ ((c.1.2 i).1)) (by omega) (rk := (c.1.2 i).2.1) (fun b hb => (t17 b (by omega)).trans (congrArg nI (jz_lt hb))) (fun b hb => Nat.le_trans ((hS).2.2.2.2.1 b hb) (by omega)) (by omega)) mf_X5_estimateBy gX5_ofSketch_X5_estimateBy rfl (by decide) (by decide) (js_ct_M) rfl rfl rfl (Nat.le_of_ble_eq_true rfl) dX5_ofSketch_107 ?_
  rintro _ _ ⟨rfl, rfl⟩
  refine js_iret (pc := 110) F hr (rfl) ?_ dX5_ofSketch_110
  show mP (mq_ofSketch c (nI i) (nI 6), c) _ _ _
  rw [show mq_ofSketch c (nI i) (nI 6) = nI (jm_est (c.1.2 i).2.1 (2 ^ (c.1.2 i).1)) from by unfold mq_ofSketch; rw [if_neg (jb_no hi (by decide)), if_neg (jb_no (by decide) (by decide)), jx (by omega), jx (by decide)]; rfl]
  exact ⟨rfl, hC.R f17, js_frM.R f17⟩
set_option maxHeartbeats 4000000 in
set_option maxRecDepth 100000 in
theorem c_X5_ofSketch_37 (la : Launch) {y : js_L} (hy : js_Dy y) {G : js_G} {c : js_C} (hC : mr_C G c) {i : Nat} (hi : i < 6) : js_Ci la y yX5_ofSketch wsX5_ofSketch 6 124 [.ref (js_ad y (191)), .int (nI (i)), .int (nI (7))] G (fun r G' => mP (mq_ofSketch c (nI i) (nI 7), c) r G G') := by
  have hS : mr_K G 192 (1 + 106 * i) (c.1.2 i) := hC.K hi
  have hp : 2 ^ (c.1.2 i).1 ≤ 64 := jm_p6 hS.2.1
  have hp1 := jm_p1 (c.1.2 i).1
  have hB6 := hS.2.1
  have hB2 := hS.1
  have hs6 := hC.1.2.1
  refine js_ofi mf_X5_ofSketch (Nat.le_of_ble_eq_true rfl) hy (fun X F hr => ?_)
  replace F : js_F X y cX5_ofSketch 4 RX5 wsX5_ofSketch 6 124 := F
  show js_W X y 4 _ G 0 [(0, .ref (js_ad y (191))), (1, .int (nI (i))), (2, .int (nI (7)))] []
  refine js_iload_n (pc := 0) 1 F rfl dX5_ofSketch_0 ?_
  refine js_callsi (pc := 1) F (c_X5_isSketch _ hy (x := nI (i))) mf_X5_isSketch gX5_ofSketch_X5_isSketch (by decide) rfl rfl (Nat.le_of_ble_eq_true rfl) dX5_ofSketch_1 ?_
  rintro _ _ ⟨rfl, rfl⟩
  refine js_if_neB (pc := 4) (tgt := 9) F dX5_ofSketch_4 (by decide) (fun h4 => ?_) (fun h4 => by exact absurd (jb_no hi (by decide)) h4)
  refine js_aload_n (pc := 9) 0 F rfl dX5_ofSketch_9 ?_
  refine js_iload_n (pc := 10) 1 F rfl dX5_ofSketch_10 ?_
  refine js_calli (pc := 11) F (c_X5_bucketsOf _ hy (s := i) (by omega) (G := G) (hS)) mf_X5_bucketsOf gX5_ofSketch_X5_bucketsOf rfl (by decide) (by decide) (js_ct_M) rfl rfl rfl (Nat.le_of_ble_eq_true rfl) dX5_ofSketch_11 ?_
  rintro _ _ ⟨rfl, rfl⟩
  refine js_istore_n (pc := 14) (lv2 := [(0, .ref (js_ad y (191))), (1, .int (nI (i))), (2, .int (nI (7))), (3, .int (nI (2 ^ ((c.1.2 i).1))))]) F dX5_ofSketch_14 (by decide) [1, 2, 3, 0] rfl ?_
  refine js_aload_n (pc := 15) 0 F rfl dX5_ofSketch_15 ?_
  refine js_iload_n (pc := 16) 1 F rfl dX5_ofSketch_16 ?_
  refine js_callv (pc := 17) F (c_X5_takeRanks _ hy (s := i) (by omega) (G := G) (hS)) mf_X5_takeRanks gX5_ofSketch_X5_takeRanks rfl (by decide) (by decide) (js_ct_M) rfl rfl rfl (Nat.le_of_ble_eq_true rfl) dX5_ofSketch_17 ?_
  rintro G17 ⟨t17, f17⟩
  refine js_iload_n (pc := 20) 2 F rfl dX5_ofSketch_20 ?_
  refine js_tableIn (pc := 21) (off := 90) (tgt := 111) F dX5_ofSketch_21 (by decide) (by decide) (by decide) (by decide) ?_
  refine js_aload_n (pc := 111) 0 F rfl dX5_ofSketch_111 ?_
  refine js_iload_n (pc := 112) 1 F rfl dX5_ofSketch_112 ?_
  refine js_calli (pc := 113) F (c_X5_errorOf _ hy (s := i) (by omega) (G := G17) (hS.co (f17 192 (by decide)))) mf_X5_errorOf gX5_ofSketch_X5_errorOf rfl (by decide) (by decide) (js_ct_M) rfl rfl rfl (Nat.le_of_ble_eq_true rfl) dX5_ofSketch_113 ?_
  rintro _ G113 ⟨rfl, f113⟩
  refine js_iret (pc := 116) F hr (rfl) ?_ dX5_ofSketch_116
  show mP (mq_ofSketch c (nI i) (nI 7), c) _ _ _
  rw [show mq_ofSketch c (nI i) (nI 7) = nI (jm_err (c.1.2 i).2.1 (2 ^ (c.1.2 i).1)) from by unfold mq_ofSketch; rw [if_neg (jb_no hi (by decide)), if_neg (jb_no (by decide) (by decide)), jx (by omega), jx (by decide)]; rfl]
  exact ⟨rfl, hC.R (f17.tr f113), js_frM.R (f17.tr f113)⟩
set_option maxHeartbeats 4000000 in
set_option maxRecDepth 100000 in
theorem c_X5_ofSketch_38n (la : Launch) {y : js_L} (hy : js_Dy y) {G : js_G} {c : js_C} (hC : mr_C G c) {i : Nat} (hi : i < 6) (hq : (c.1.2 i).2.2 = none) : js_Ci la y yX5_ofSketch wsX5_ofSketch 6 124 [.ref (js_ad y (191)), .int (nI (i)), .int (nI (8))] G (fun r G' => mP (mq_ofSketch c (nI i) (nI 8), c) r G G') := by
  have hS : mr_K G 192 (1 + 106 * i) (c.1.2 i) := hC.K hi
  have hp : 2 ^ (c.1.2 i).1 ≤ 64 := jm_p6 hS.2.1
  have hp1 := jm_p1 (c.1.2 i).1
  have hB6 := hS.2.1
  have hB2 := hS.1
  have hs6 := hC.1.2.1
  have hS0 : mr_S G 192 (1 + 106 * i) (c.1.2 i).1 (c.1.2 i).2.1 none := hq ▸ hS
  refine js_ofi mf_X5_ofSketch (Nat.le_of_ble_eq_true rfl) hy (fun X F hr => ?_)
  replace F : js_F X y cX5_ofSketch 4 RX5 wsX5_ofSketch 6 124 := F
  show js_W X y 4 _ G 0 [(0, .ref (js_ad y (191))), (1, .int (nI (i))), (2, .int (nI (8)))] []
  refine js_iload_n (pc := 0) 1 F rfl dX5_ofSketch_0 ?_
  refine js_callsi (pc := 1) F (c_X5_isSketch _ hy (x := nI (i))) mf_X5_isSketch gX5_ofSketch_X5_isSketch (by decide) rfl rfl (Nat.le_of_ble_eq_true rfl) dX5_ofSketch_1 ?_
  rintro _ _ ⟨rfl, rfl⟩
  refine js_if_neB (pc := 4) (tgt := 9) F dX5_ofSketch_4 (by decide) (fun h4 => ?_) (fun h4 => by exact absurd (jb_no hi (by decide)) h4)
  refine js_aload_n (pc := 9) 0 F rfl dX5_ofSketch_9 ?_
  refine js_iload_n (pc := 10) 1 F rfl dX5_ofSketch_10 ?_
  refine js_calli (pc := 11) F (c_X5_bucketsOf _ hy (s := i) (by omega) (G := G) (hS0)) mf_X5_bucketsOf gX5_ofSketch_X5_bucketsOf rfl (by decide) (by decide) (js_ct_M) rfl rfl rfl (Nat.le_of_ble_eq_true rfl) dX5_ofSketch_11 ?_
  rintro _ _ ⟨rfl, rfl⟩
  refine js_istore_n (pc := 14) (lv2 := [(0, .ref (js_ad y (191))), (1, .int (nI (i))), (2, .int (nI (8))), (3, .int (nI (2 ^ ((c.1.2 i).1))))]) F dX5_ofSketch_14 (by decide) [1, 2, 3, 0] rfl ?_
  refine js_aload_n (pc := 15) 0 F rfl dX5_ofSketch_15 ?_
  refine js_iload_n (pc := 16) 1 F rfl dX5_ofSketch_16 ?_
  refine js_callv (pc := 17) F (c_X5_takeRanks _ hy (s := i) (by omega) (G := G) (hS0)) mf_X5_takeRanks gX5_ofSketch_X5_takeRanks rfl (by decide) (by decide) (js_ct_M) rfl rfl rfl (Nat.le_of_ble_eq_true rfl) dX5_ofSketch_17 ?_
  rintro G17 ⟨t17, f17⟩
  refine js_iload_n (pc := 20) 2 F rfl dX5_ofSketch_20 ?_
  refine js_tableIn (pc := 21) (off := 96) (tgt := 117) F dX5_ofSketch_21 (by decide) (by decide) (by decide) (by decide) ?_
  refine js_aload_n (pc := 117) 0 F rfl dX5_ofSketch_117 ?_
  refine js_iload_n (pc := 118) 1 F rfl dX5_ofSketch_118 ?_
  refine js_iconst (pc := 119) (v := nI (1)) F (by decide) dX5_ofSketch_119 ?_
  refine js_calli (pc := 120) F (c_X5_part _ hy (G := G17) (s := i) (p := 1) (by omega)) mf_X5_part gX5_ofSketch_X5_part rfl (by decide) (by decide) (js_ct_M) rfl rfl rfl (Nat.le_of_ble_eq_true rfl) dX5_ofSketch_120 ?_
  rintro _ _ ⟨hv120, rfl⟩
  rw [hv120, show G17 192 ((1 + 106 * i) + 1) = -6 from (((hS0).co (f17 192 (by decide))).2.2.2.2.2)]
  clear hv120
  refine js_iret (pc := 123) F hr (rfl) ?_ dX5_ofSketch_123
  show mP (mq_ofSketch c (nI i) (nI 8), c) _ _ _
  rw [show mq_ofSketch c (nI i) (nI 8) = -6 from by unfold mq_ofSketch; rw [if_neg (jb_no hi (by decide)), if_neg (jb_no (by decide) (by decide)), jx (by omega), jx (by decide)]; show jm_len (c.1.2 i).2.2 = _; rw [hq]; rfl]
  exact ⟨rfl, hC.R f17, js_frM.R f17⟩
set_option maxHeartbeats 4000000 in
set_option maxRecDepth 100000 in
theorem c_X5_ofSketch_38s (la : Launch) {y : js_L} (hy : js_Dy y) {G : js_G} {c : js_C} (hC : mr_C G c) {i : Nat} (hi : i < 6) {l : List Nat} (hq : (c.1.2 i).2.2 = some l) : js_Ci la y yX5_ofSketch wsX5_ofSketch 6 124 [.ref (js_ad y (191)), .int (nI (i)), .int (nI (8))] G (fun r G' => mP (mq_ofSketch c (nI i) (nI 8), c) r G G') := by
  have hS : mr_K G 192 (1 + 106 * i) (c.1.2 i) := hC.K hi
  have hp : 2 ^ (c.1.2 i).1 ≤ 64 := jm_p6 hS.2.1
  have hp1 := jm_p1 (c.1.2 i).1
  have hB6 := hS.2.1
  have hB2 := hS.1
  have hs6 := hC.1.2.1
  have hS0 : mr_S G 192 (1 + 106 * i) (c.1.2 i).1 (c.1.2 i).2.1 (some l) := hq ▸ hS
  have hlen := hS0.2.2.2.2.2.2.1
  refine js_ofi mf_X5_ofSketch (Nat.le_of_ble_eq_true rfl) hy (fun X F hr => ?_)
  replace F : js_F X y cX5_ofSketch 4 RX5 wsX5_ofSketch 6 124 := F
  show js_W X y 4 _ G 0 [(0, .ref (js_ad y (191))), (1, .int (nI (i))), (2, .int (nI (8)))] []
  refine js_iload_n (pc := 0) 1 F rfl dX5_ofSketch_0 ?_
  refine js_callsi (pc := 1) F (c_X5_isSketch _ hy (x := nI (i))) mf_X5_isSketch gX5_ofSketch_X5_isSketch (by decide) rfl rfl (Nat.le_of_ble_eq_true rfl) dX5_ofSketch_1 ?_
  rintro _ _ ⟨rfl, rfl⟩
  refine js_if_neB (pc := 4) (tgt := 9) F dX5_ofSketch_4 (by decide) (fun h4 => ?_) (fun h4 => by exact absurd (jb_no hi (by decide)) h4)
  refine js_aload_n (pc := 9) 0 F rfl dX5_ofSketch_9 ?_
  refine js_iload_n (pc := 10) 1 F rfl dX5_ofSketch_10 ?_
  refine js_calli (pc := 11) F (c_X5_bucketsOf _ hy (s := i) (by omega) (G := G) (hS0)) mf_X5_bucketsOf gX5_ofSketch_X5_bucketsOf rfl (by decide) (by decide) (js_ct_M) rfl rfl rfl (Nat.le_of_ble_eq_true rfl) dX5_ofSketch_11 ?_
  rintro _ _ ⟨rfl, rfl⟩
  refine js_istore_n (pc := 14) (lv2 := [(0, .ref (js_ad y (191))), (1, .int (nI (i))), (2, .int (nI (8))), (3, .int (nI (2 ^ ((c.1.2 i).1))))]) F dX5_ofSketch_14 (by decide) [1, 2, 3, 0] rfl ?_
  refine js_aload_n (pc := 15) 0 F rfl dX5_ofSketch_15 ?_
  refine js_iload_n (pc := 16) 1 F rfl dX5_ofSketch_16 ?_
  refine js_callv (pc := 17) F (c_X5_takeRanks _ hy (s := i) (by omega) (G := G) (hS0)) mf_X5_takeRanks gX5_ofSketch_X5_takeRanks rfl (by decide) (by decide) (js_ct_M) rfl rfl rfl (Nat.le_of_ble_eq_true rfl) dX5_ofSketch_17 ?_
  rintro G17 ⟨t17, f17⟩
  refine js_iload_n (pc := 20) 2 F rfl dX5_ofSketch_20 ?_
  refine js_tableIn (pc := 21) (off := 96) (tgt := 117) F dX5_ofSketch_21 (by decide) (by decide) (by decide) (by decide) ?_
  refine js_aload_n (pc := 117) 0 F rfl dX5_ofSketch_117 ?_
  refine js_iload_n (pc := 118) 1 F rfl dX5_ofSketch_118 ?_
  refine js_iconst (pc := 119) (v := nI (1)) F (by decide) dX5_ofSketch_119 ?_
  refine js_calli (pc := 120) F (c_X5_part _ hy (G := G17) (s := i) (p := 1) (by omega)) mf_X5_part gX5_ofSketch_X5_part rfl (by decide) (by decide) (js_ct_M) rfl rfl rfl (Nat.le_of_ble_eq_true rfl) dX5_ofSketch_120 ?_
  rintro _ _ ⟨hv120, rfl⟩
  rw [hv120, show G17 192 ((1 + 106 * i) + 1) = nI (l.length) from (((hS0).co (f17 192 (by decide))).2.2.2.2.2.1)]
  clear hv120
  refine js_iret (pc := 123) F hr (rfl) ?_ dX5_ofSketch_123
  show mP (mq_ofSketch c (nI i) (nI 8), c) _ _ _
  rw [show mq_ofSketch c (nI i) (nI 8) = nI l.length from by unfold mq_ofSketch; rw [if_neg (jb_no hi (by decide)), if_neg (jb_no (by decide) (by decide)), jx (by omega), jx (by decide)]; show jm_len (c.1.2 i).2.2 = _; rw [hq]; rfl]
  exact ⟨rfl, hC.R f17, js_frM.R f17⟩
theorem lk_X5_withRank_constantLong_RX5_159_1 : Cond.constantLong RX5 159 (-1) ∈ wsX5_withRank := by decide +kernel
theorem mf_X5_withRank : js_M yX5_withRank cX5_withRank 6 (some .long) wsX5_withRank 2 := ⟨⟨_, rfl⟩, by decide +kernel, by decide +kernel, by decide +kernel, by decide +kernel⟩
set_option maxHeartbeats 4000000 in
set_option maxRecDepth 100000 in
theorem c_X5_withRank_1 (la : Launch) {y : js_L} (hy : js_Dy y) {G : js_G} {c : js_C} (hC : mr_C G c) {x : Int32} {q : Int32} (hx : jb x 6) : js_Cl la y yX5_withRank wsX5_withRank 3 55 [.ref (js_ad y (191)), .int (x), .int (q)] G (fun r G' => r = mq_withRank c x q ∧ mr_C G' c ∧ js_frM G G') := by
  refine js_ofl mf_X5_withRank (Nat.le_of_ble_eq_true rfl) hy (fun X F hr => ?_)
  replace F : js_F X y cX5_withRank 6 RX5 wsX5_withRank 3 55 := F
  show js_W X y 6 _ G 0 [(0, .ref (js_ad y (191))), (1, .int (x)), (2, .int (q))] []
  refine js_iload_n (pc := 0) 1 F rfl dX5_withRank_0 ?_
  refine js_callsi (pc := 1) F (c_X5_isSketch _ hy (x := x)) mf_X5_isSketch gX5_withRank_X5_isSketch (by decide) rfl rfl (Nat.le_of_ble_eq_true rfl) dX5_withRank_1 ?_
  rintro _ _ ⟨rfl, rfl⟩
  refine js_if_neB (pc := 4) (tgt := 11) F dX5_withRank_4 (by decide) (fun h4 => by exact absurd hx h4) (fun h4 => ?_)
  refine js_ldc2 (pc := 7) (v := (-1)) F (lk_X5_withRank_constantLong_RX5_159_1) dX5_withRank_7 ?_
  refine js_lret (pc := 10) F hr ?_ dX5_withRank_10
  exact ⟨by rw [show mq_withRank c x q = -1 from if_pos hx], hC, js_frM.rf⟩
theorem lk_X5_withRank_constantLong_RX5_161_2 : Cond.constantLong RX5 161 (-2) ∈ wsX5_withRank := by decide +kernel
set_option maxHeartbeats 4000000 in
set_option maxRecDepth 100000 in
theorem c_X5_withRank_2 (la : Launch) {y : js_L} (hy : js_Dy y) {G : js_G} {c : js_C} (hC : mr_C G c) {i : Nat} (hi : i < 6) {q : Int32} (hq : jb q 16) : js_Cl la y yX5_withRank wsX5_withRank 3 55 [.ref (js_ad y (191)), .int (nI (i)), .int (q)] G (fun r G' => r = mq_withRank c (nI i) q ∧ mr_C G' c ∧ js_frM G G') := by
  refine js_ofl mf_X5_withRank (Nat.le_of_ble_eq_true rfl) hy (fun X F hr => ?_)
  replace F : js_F X y cX5_withRank 6 RX5 wsX5_withRank 3 55 := F
  show js_W X y 6 _ G 0 [(0, .ref (js_ad y (191))), (1, .int (nI (i))), (2, .int (q))] []
  refine js_iload_n (pc := 0) 1 F rfl dX5_withRank_0 ?_
  refine js_callsi (pc := 1) F (c_X5_isSketch _ hy (x := nI (i))) mf_X5_isSketch gX5_withRank_X5_isSketch (by decide) rfl rfl (Nat.le_of_ble_eq_true rfl) dX5_withRank_1 ?_
  rintro _ _ ⟨rfl, rfl⟩
  refine js_if_neB (pc := 4) (tgt := 11) F dX5_withRank_4 (by decide) (fun h4 => ?_) (fun h4 => by exact absurd (jb_no hi (by decide)) h4)
  refine js_iload_n (pc := 11) 2 F rfl dX5_withRank_11 ?_
  refine js_iconst (pc := 12) (v := nI (0)) F (by decide) dX5_withRank_12 ?_
  refine js_bipush (pc := 13) (v := nI (15)) F (by decide) dX5_withRank_13 ?_
  refine js_callsi (pc := 15) F (c_X5_within _ hy (v := q) (lo := nI (0)) (hi := nI (15))) mf_X5_within gX5_withRank_X5_within (by decide) rfl rfl (Nat.le_of_ble_eq_true rfl) dX5_withRank_15 ?_
  rintro _ _ ⟨rfl, rfl⟩
  rw [jw_if (k := 15) (by decide)]
  refine js_if_neB (pc := 18) (tgt := 25) F dX5_withRank_18 (by decide) (fun h18 => by exact absurd hq h18) (fun h18 => ?_)
  refine js_ldc2 (pc := 21) (v := (-2)) F (lk_X5_withRank_constantLong_RX5_161_2) dX5_withRank_21 ?_
  refine js_lret (pc := 24) F hr ?_ dX5_withRank_24
  exact ⟨by rw [show mq_withRank c (nI i) q = -2 from by unfold mq_withRank; rw [if_neg (jb_no hi (by decide)), if_pos hq]], hC, js_frM.rf⟩
set_option maxHeartbeats 4000000 in
set_option maxRecDepth 100000 in
theorem c_X5_withRank_3 (la : Launch) {y : js_L} (hy : js_Dy y) {G : js_G} {c : js_C} (hC : mr_C G c) {i : Nat} (hi : i < 6) {q : Nat} (hq : q < 16) : js_Cl la y yX5_withRank wsX5_withRank 3 55 [.ref (js_ad y (191)), .int (nI (i)), .int (nI (q))] G (fun r G' => r = mq_withRank c (nI i) (nI q) ∧ mr_C G' c ∧ js_frM G G') := by
  have hS : mr_K G 192 (1 + 106 * i) (c.1.2 i) := hC.K hi
  have hp : 2 ^ (c.1.2 i).1 ≤ 64 := jm_p6 hS.2.1
  have hp1 := jm_p1 (c.1.2 i).1
  have hB6 := hS.2.1
  have hB2 := hS.1
  have hs6 := hC.1.2.1
  refine js_ofl mf_X5_withRank (Nat.le_of_ble_eq_true rfl) hy (fun X F hr => ?_)
  replace F : js_F X y cX5_withRank 6 RX5 wsX5_withRank 3 55 := F
  show js_W X y 6 _ G 0 [(0, .ref (js_ad y (191))), (1, .int (nI (i))), (2, .int (nI (q)))] []
  refine js_iload_n (pc := 0) 1 F rfl dX5_withRank_0 ?_
  refine js_callsi (pc := 1) F (c_X5_isSketch _ hy (x := nI (i))) mf_X5_isSketch gX5_withRank_X5_isSketch (by decide) rfl rfl (Nat.le_of_ble_eq_true rfl) dX5_withRank_1 ?_
  rintro _ _ ⟨rfl, rfl⟩
  refine js_if_neB (pc := 4) (tgt := 11) F dX5_withRank_4 (by decide) (fun h4 => ?_) (fun h4 => by exact absurd (jb_no hi (by decide)) h4)
  refine js_iload_n (pc := 11) 2 F rfl dX5_withRank_11 ?_
  refine js_iconst (pc := 12) (v := nI (0)) F (by decide) dX5_withRank_12 ?_
  refine js_bipush (pc := 13) (v := nI (15)) F (by decide) dX5_withRank_13 ?_
  refine js_callsi (pc := 15) F (c_X5_within _ hy (v := nI (q)) (lo := nI (0)) (hi := nI (15))) mf_X5_within gX5_withRank_X5_within (by decide) rfl rfl (Nat.le_of_ble_eq_true rfl) dX5_withRank_15 ?_
  rintro _ _ ⟨rfl, rfl⟩
  rw [jw_if (k := 15) (by decide)]
  refine js_if_neB (pc := 18) (tgt := 25) F dX5_withRank_18 (by decide) (fun h18 => ?_) (fun h18 => by exact absurd (jb_no hq (by decide)) h18)
  refine js_lconst (pc := 25) (v := lN 0) F rfl dX5_withRank_25 ?_
  refine js_lstore_n (pc := 26) (lv2 := [(0, .ref (js_ad y (191))), (1, .int (nI (i))), (2, .int (nI (q))), (3, .long (lN (0)))]) F dX5_withRank_26 (by decide) [1, 2, 3, 0] rfl ?_
  refine js_iconst (pc := 27) (v := nI (0)) F (by decide) dX5_withRank_27 ?_
  refine js_istore (pc := 28) (lv2 := [(0, .ref (js_ad y (191))), (1, .int (nI (i))), (2, .int (nI (q))), (3, .long (lN (0))), (5, .int (nI (0)))]) F dX5_withRank_28 (by decide) [1, 2, 3, 4, 0] rfl ?_
  have L30 : ∀ (fu30 : Nat) (b : Nat) (v : Int64) (hb : b ≤ 2 ^ (c.1.2 i).1) (hv : v = jm_set (fun b => decide ((c.1.2 i).2.1 b = q)) b) (hfu30 : 2 ^ (c.1.2 i).1 - b < fu30), js_W X y 6 (js_Ql X y (fun r G' => r = mq_withRank c (nI i) (nI q) ∧ mr_C G' c ∧ js_frM G G')) G 30 [(0, .ref (js_ad y (191))), (1, .int (nI (i))), (2, .int (nI (q))), (3, .long (v)), (5, .int (nI (b)))] [] := by
    intro fu30
    induction fu30 with
    | zero => intro b v hb hv hfu30; exact absurd hfu30 (Nat.not_lt_zero _)
    | succ fu30 ih30 =>
      intro b v hb hv hfu30
      refine js_iload (pc := 30) 4 F rfl dX5_withRank_30 ?_
      refine js_aload_n (pc := 32) 0 F rfl dX5_withRank_32 ?_
      refine js_iload_n (pc := 33) 1 F rfl dX5_withRank_33 ?_
      refine js_calli (pc := 34) F (c_X5_bucketsOf _ hy (s := i) (by omega) (G := G) (hS)) mf_X5_bucketsOf gX5_withRank_X5_bucketsOf rfl (by decide) (by decide) (js_ct_M) rfl rfl rfl (Nat.le_of_ble_eq_true rfl) dX5_withRank_34 ?_
      rintro _ _ ⟨rfl, rfl⟩
      refine js_icmp_geN (pc := 37) (a := b) (b := 2 ^ ((c.1.2 i).1)) (tgt := 70) F (by first | omega | (have := hS.2.2.2.2.1 b (by omega); omega)) (by first | omega | (have := hS.2.2.2.2.1 b (by omega); omega)) dX5_withRank_37 (by decide) (fun h37 => ?_) (fun h37 => ?_)
      · skip
        refine js_lload_n (pc := 70) 3 F rfl dX5_withRank_70 ?_
        refine js_lret (pc := 71) F hr ?_ dX5_withRank_71
        exact ⟨by rw [show mq_withRank c (nI i) (nI q) = jm_set (fun b => decide ((c.1.2 i).2.1 b = q)) (2 ^ (c.1.2 i).1) from by unfold mq_withRank; rw [if_neg (jb_no hi (by decide)), if_neg (jb_no hq (by decide)), jx (by omega), jx (by omega)]]; exact (by rw [hv, show b = 2 ^ (c.1.2 i).1 by omega]), hC, js_frM.rf⟩
      · skip
        refine js_lload_n (pc := 40) 3 F rfl dX5_withRank_40 ?_
        refine js_aload_n (pc := 41) 0 F rfl dX5_withRank_41 ?_
        refine js_iload_n (pc := 42) 1 F rfl dX5_withRank_42 ?_
        refine js_iconst (pc := 43) (v := nI (2)) F (by decide) dX5_withRank_43 ?_
        refine js_iload (pc := 44) 4 F rfl dX5_withRank_44 ?_
        refine js_iaddN (pc := 46) (a := 2) (b := b) F dX5_withRank_46 ?_
        refine js_calli (pc := 47) F (c_X5_part _ hy (G := G) (s := i) (p := 2 + b) (by omega)) mf_X5_part gX5_withRank_X5_part rfl (by decide) (by decide) (js_ct_M) rfl rfl rfl (Nat.le_of_ble_eq_true rfl) dX5_withRank_47 ?_
        rintro _ _ ⟨hv47, rfl⟩
        rw [hv47, show G 192 ((1 + 106 * i) + (2 + b)) = nI (((c.1.2 i).2.1) (b)) from ((hS.2.2.2.1 _ (by omega)).trans (congrArg nI (jz_lt (by omega))))]
        clear hv47
        refine js_iload_n (pc := 50) 2 F rfl dX5_withRank_50 ?_
        refine js_icmp_neN (pc := 51) (a := ((c.1.2 i).2.1) (b)) (b := q) (tgt := 61) F (by first | omega | (have := hS.2.2.2.2.1 b (by omega); omega)) (by first | omega | (have := hS.2.2.2.2.1 b (by omega); omega)) dX5_withRank_51 (by decide) (fun h51 => ?_) (fun h51 => ?_)
        · skip
          refine js_lconst (pc := 61) (v := lN 0) F rfl dX5_withRank_61 ?_
          refine js_lor (pc := 62) F dX5_withRank_62 ?_
          refine js_lstore_n (pc := 63) (lv2 := [(0, .ref (js_ad y (191))), (1, .int (nI (i))), (2, .int (nI (q))), (3, .long (v ||| (lN (0)))), (5, .int (nI (b)))]) F dX5_withRank_63 (by decide) [1, 2, 3, 0, 4] rfl ?_
          refine js_iinc (pc := 64) (v := nI (b + 1)) (lv2 := [(0, .ref (js_ad y (191))), (1, .int (nI (i))), (2, .int (nI (q))), (3, .long (v ||| (lN (0)))), (5, .int (nI (b + 1)))]) F dX5_withRank_64 4 rfl (nI_add _ _) (by decide) [1, 2, 3, 4, 0] rfl ?_
          refine js_goto (pc := 67) (tgt := 30) F dX5_withRank_67 (by decide) ?_
          exact ih30 (b + 1) (v ||| (lN (0))) (by omega) (by simp only [jm_set]; rw [← hv]; first | (rw [if_pos (by simpa using h51)]; done) | (rw [if_neg (by simpa using h51)]; exact jn_or0 v)) (by omega)
        · skip
          refine js_lconst (pc := 54) (v := lN 1) F rfl dX5_withRank_54 ?_
          refine js_iload (pc := 55) 4 F rfl dX5_withRank_55 ?_
          refine js_lshl (pc := 57) F dX5_withRank_57 ?_
          refine js_goto (pc := 58) (tgt := 62) F dX5_withRank_58 (by decide) ?_
          refine js_lor (pc := 62) F dX5_withRank_62 ?_
          refine js_lstore_n (pc := 63) (lv2 := [(0, .ref (js_ad y (191))), (1, .int (nI (i))), (2, .int (nI (q))), (3, .long (v ||| ((lN (1)) <<< ((nI (b)).toInt64 &&& 63)))), (5, .int (nI (b)))]) F dX5_withRank_63 (by decide) [1, 2, 3, 0, 4] rfl ?_
          refine js_iinc (pc := 64) (v := nI (b + 1)) (lv2 := [(0, .ref (js_ad y (191))), (1, .int (nI (i))), (2, .int (nI (q))), (3, .long (v ||| ((lN (1)) <<< ((nI (b)).toInt64 &&& 63)))), (5, .int (nI (b + 1)))]) F dX5_withRank_64 4 rfl (nI_add _ _) (by decide) [1, 2, 3, 4, 0] rfl ?_
          refine js_goto (pc := 67) (tgt := 30) F dX5_withRank_67 (by decide) ?_
          exact ih30 (b + 1) (v ||| ((lN (1)) <<< ((nI (b)).toInt64 &&& 63))) (by omega) (by simp only [jm_set]; rw [← hv]; first | (rw [if_pos (by simpa using h51)]; done) | (rw [if_neg (by simpa using h51)]; exact jn_or0 v)) (by omega)
  exact L30 (_ + 1) 0 (lN 0) (Nat.zero_le _) (rfl) (Nat.lt_succ_self _)
theorem mf_X5_listed : js_M yX5_listed cX5_listed 3 (some .int) wsX5_listed 2 := ⟨⟨_, rfl⟩, by decide +kernel, by decide +kernel, by decide +kernel, by decide +kernel⟩
set_option maxHeartbeats 4000000 in
set_option maxRecDepth 100000 in
theorem c_X5_listed_1 (la : Launch) {y : js_L} (hy : js_Dy y) {G : js_G} {c : js_C} (hC : mr_C G c) {x : Int32} {p : Int32} (hx : jb x 6) : js_Ci la y yX5_listed wsX5_listed 3 54 [.ref (js_ad y (191)), .int (x), .int (p)] G (fun r G' => mP (mq_listed c x p, c) r G G') := by
  refine js_ofi mf_X5_listed (Nat.le_of_ble_eq_true rfl) hy (fun X F hr => ?_)
  replace F : js_F X y cX5_listed 3 RX5 wsX5_listed 3 54 := F
  show js_W X y 3 _ G 0 [(0, .ref (js_ad y (191))), (1, .int (x)), (2, .int (p))] []
  refine js_iload_n (pc := 0) 1 F rfl dX5_listed_0 ?_
  refine js_callsi (pc := 1) F (c_X5_isSketch _ hy (x := x)) mf_X5_isSketch gX5_listed_X5_isSketch (by decide) rfl rfl (Nat.le_of_ble_eq_true rfl) dX5_listed_1 ?_
  rintro _ _ ⟨rfl, rfl⟩
  refine js_if_eqB (pc := 4) (tgt := 35) F dX5_listed_4 (by decide) (fun h4 => ?_) (fun h4 => by exact absurd hx h4)
  refine js_iconst (pc := 35) (v := (-1)) F (by decide) dX5_listed_35 ?_
  refine js_iret (pc := 36) F hr (rfl) ?_ dX5_listed_36
  show mP (mq_listed c x p, c) _ _ _
  rw [show mq_listed c x p = -1 from if_pos hx]
  exact ⟨rfl, hC, js_frM.rf⟩
set_option maxHeartbeats 4000000 in
set_option maxRecDepth 100000 in
theorem c_X5_listed_2n (la : Launch) {y : js_L} (hy : js_Dy y) {G : js_G} {c : js_C} (hC : mr_C G c) {i : Nat} (hi : i < 6) {p : Int32} (hq : (c.1.2 i).2.2 = none)  : js_Ci la y yX5_listed wsX5_listed 3 54 [.ref (js_ad y (191)), .int (nI (i)), .int (p)] G (fun r G' => mP (mq_listed c (nI i) p, c) r G G') := by
  have hS : mr_K G 192 (1 + 106 * i) (c.1.2 i) := hC.K hi
  have hp : 2 ^ (c.1.2 i).1 ≤ 64 := jm_p6 hS.2.1
  have hp1 := jm_p1 (c.1.2 i).1
  have hB6 := hS.2.1
  have hB2 := hS.1
  have hs6 := hC.1.2.1
  have hS0 : mr_S G 192 (1 + 106 * i) (c.1.2 i).1 (c.1.2 i).2.1 none := hq ▸ hS
  refine js_ofi mf_X5_listed (Nat.le_of_ble_eq_true rfl) hy (fun X F hr => ?_)
  replace F : js_F X y cX5_listed 3 RX5 wsX5_listed 3 54 := F
  show js_W X y 3 _ G 0 [(0, .ref (js_ad y (191))), (1, .int (nI (i))), (2, .int (p))] []
  refine js_iload_n (pc := 0) 1 F rfl dX5_listed_0 ?_
  refine js_callsi (pc := 1) F (c_X5_isSketch _ hy (x := nI (i))) mf_X5_isSketch gX5_listed_X5_isSketch (by decide) rfl rfl (Nat.le_of_ble_eq_true rfl) dX5_listed_1 ?_
  rintro _ _ ⟨rfl, rfl⟩
  refine js_if_eqB (pc := 4) (tgt := 35) F dX5_listed_4 (by decide) (fun h4 => by exact absurd (jb_no hi (by decide)) h4) (fun h4 => ?_)
  refine js_iload_n (pc := 7) 2 F rfl dX5_listed_7 ?_
  refine js_iconst (pc := 8) (v := nI (0)) F (by decide) dX5_listed_8 ?_
  refine js_aload_n (pc := 9) 0 F rfl dX5_listed_9 ?_
  refine js_iload_n (pc := 10) 1 F rfl dX5_listed_10 ?_
  refine js_iconst (pc := 11) (v := nI (1)) F (by decide) dX5_listed_11 ?_
  refine js_calli (pc := 12) F (c_X5_part _ hy (G := G) (s := i) (p := 1) (by omega)) mf_X5_part gX5_listed_X5_part rfl (by decide) (by decide) (js_ct_M) rfl rfl rfl (Nat.le_of_ble_eq_true rfl) dX5_listed_12 ?_
  rintro _ _ ⟨hv12, rfl⟩
  rw [hv12, show G 192 ((1 + 106 * i) + 1) = -6 from (hS0.2.2.2.2.2)]
  clear hv12
  refine js_iconst (pc := 15) (v := nI (1)) F (by decide) dX5_listed_15 ?_
  refine js_isub (pc := 16) F dX5_listed_16 ?_
  refine js_callsi (pc := 17) F (c_X5_within _ hy (v := p) (lo := nI (0)) (hi := (-6) - (nI (1)))) mf_X5_within gX5_listed_X5_within (by decide) rfl rfl (Nat.le_of_ble_eq_true rfl) dX5_listed_17 ?_
  rintro _ _ ⟨rfl, rfl⟩
  refine js_if_eqB (pc := 20) (tgt := 35) F dX5_listed_20 (by decide) (fun h20 => ?_) (fun h20 => by exact absurd h20 jw_none)
  refine js_iconst (pc := 35) (v := (-1)) F (by decide) dX5_listed_35 ?_
  refine js_iret (pc := 36) F hr (rfl) ?_ dX5_listed_36
  show mP (mq_listed c (nI i) p, c) _ _ _
  rw [show mq_listed c (nI i) p = -1 from by unfold mq_listed; rw [if_neg (jb_no hi (by decide)), jx (by omega), hq]; rfl]
  exact ⟨rfl, hC, js_frM.rf⟩
set_option maxHeartbeats 4000000 in
set_option maxRecDepth 100000 in
theorem c_X5_listed_2s (la : Launch) {y : js_L} (hy : js_Dy y) {G : js_G} {c : js_C} (hC : mr_C G c) {i : Nat} (hi : i < 6) {p : Int32} {l : List Nat} (hq : (c.1.2 i).2.2 = some l) (hpl : jb p l.length) : js_Ci la y yX5_listed wsX5_listed 3 54 [.ref (js_ad y (191)), .int (nI (i)), .int (p)] G (fun r G' => mP (mq_listed c (nI i) p, c) r G G') := by
  have hS : mr_K G 192 (1 + 106 * i) (c.1.2 i) := hC.K hi
  have hp : 2 ^ (c.1.2 i).1 ≤ 64 := jm_p6 hS.2.1
  have hp1 := jm_p1 (c.1.2 i).1
  have hB6 := hS.2.1
  have hB2 := hS.1
  have hs6 := hC.1.2.1
  have hS0 : mr_S G 192 (1 + 106 * i) (c.1.2 i).1 (c.1.2 i).2.1 (some l) := hq ▸ hS
  have hlen := hS0.2.2.2.2.2.2.1
  refine js_ofi mf_X5_listed (Nat.le_of_ble_eq_true rfl) hy (fun X F hr => ?_)
  replace F : js_F X y cX5_listed 3 RX5 wsX5_listed 3 54 := F
  show js_W X y 3 _ G 0 [(0, .ref (js_ad y (191))), (1, .int (nI (i))), (2, .int (p))] []
  refine js_iload_n (pc := 0) 1 F rfl dX5_listed_0 ?_
  refine js_callsi (pc := 1) F (c_X5_isSketch _ hy (x := nI (i))) mf_X5_isSketch gX5_listed_X5_isSketch (by decide) rfl rfl (Nat.le_of_ble_eq_true rfl) dX5_listed_1 ?_
  rintro _ _ ⟨rfl, rfl⟩
  refine js_if_eqB (pc := 4) (tgt := 35) F dX5_listed_4 (by decide) (fun h4 => by exact absurd (jb_no hi (by decide)) h4) (fun h4 => ?_)
  refine js_iload_n (pc := 7) 2 F rfl dX5_listed_7 ?_
  refine js_iconst (pc := 8) (v := nI (0)) F (by decide) dX5_listed_8 ?_
  refine js_aload_n (pc := 9) 0 F rfl dX5_listed_9 ?_
  refine js_iload_n (pc := 10) 1 F rfl dX5_listed_10 ?_
  refine js_iconst (pc := 11) (v := nI (1)) F (by decide) dX5_listed_11 ?_
  refine js_calli (pc := 12) F (c_X5_part _ hy (G := G) (s := i) (p := 1) (by omega)) mf_X5_part gX5_listed_X5_part rfl (by decide) (by decide) (js_ct_M) rfl rfl rfl (Nat.le_of_ble_eq_true rfl) dX5_listed_12 ?_
  rintro _ _ ⟨hv12, rfl⟩
  rw [hv12, show G 192 ((1 + 106 * i) + 1) = nI (l.length) from (hS0.2.2.2.2.2.1)]
  clear hv12
  refine js_iconst (pc := 15) (v := nI (1)) F (by decide) dX5_listed_15 ?_
  refine js_isub (pc := 16) F dX5_listed_16 ?_
  refine js_callsi (pc := 17) F (c_X5_within _ hy (v := p) (lo := nI (0)) (hi := (nI (l.length)) - (nI (1)))) mf_X5_within gX5_listed_X5_within (by decide) rfl rfl (Nat.le_of_ble_eq_true rfl) dX5_listed_17 ?_
  rintro _ _ ⟨rfl, rfl⟩
  rw [jw_leni hlen]
  refine js_if_eqB (pc := 20) (tgt := 35) F dX5_listed_20 (by decide) (fun h20 => ?_) (fun h20 => by exact absurd hpl h20)
  refine js_iconst (pc := 35) (v := (-1)) F (by decide) dX5_listed_35 ?_
  refine js_iret (pc := 36) F hr (rfl) ?_ dX5_listed_36
  show mP (mq_listed c (nI i) p, c) _ _ _
  rw [show mq_listed c (nI i) p = -1 from by unfold mq_listed; rw [if_neg (jb_no hi (by decide)), jx (by omega), hq]; exact if_pos hpl]
  exact ⟨rfl, hC, js_frM.rf⟩
set_option maxHeartbeats 4000000 in
set_option maxRecDepth 100000 in
theorem c_X5_listed_3 (la : Launch) {y : js_L} (hy : js_Dy y) {G : js_G} {c : js_C} (hC : mr_C G c) {i : Nat} (hi : i < 6) {p : Nat} {l : List Nat} (hq : (c.1.2 i).2.2 = some l) (hpl : p < l.length) : js_Ci la y yX5_listed wsX5_listed 3 54 [.ref (js_ad y (191)), .int (nI (i)), .int (nI (p))] G (fun r G' => mP (mq_listed c (nI i) (nI p), c) r G G') := by
  have hS : mr_K G 192 (1 + 106 * i) (c.1.2 i) := hC.K hi
  have hp : 2 ^ (c.1.2 i).1 ≤ 64 := jm_p6 hS.2.1
  have hp1 := jm_p1 (c.1.2 i).1
  have hB6 := hS.2.1
  have hB2 := hS.1
  have hs6 := hC.1.2.1
  have hS0 : mr_S G 192 (1 + 106 * i) (c.1.2 i).1 (c.1.2 i).2.1 (some l) := hq ▸ hS
  have hlen := hS0.2.2.2.2.2.2.1
  refine js_ofi mf_X5_listed (Nat.le_of_ble_eq_true rfl) hy (fun X F hr => ?_)
  replace F : js_F X y cX5_listed 3 RX5 wsX5_listed 3 54 := F
  show js_W X y 3 _ G 0 [(0, .ref (js_ad y (191))), (1, .int (nI (i))), (2, .int (nI (p)))] []
  refine js_iload_n (pc := 0) 1 F rfl dX5_listed_0 ?_
  refine js_callsi (pc := 1) F (c_X5_isSketch _ hy (x := nI (i))) mf_X5_isSketch gX5_listed_X5_isSketch (by decide) rfl rfl (Nat.le_of_ble_eq_true rfl) dX5_listed_1 ?_
  rintro _ _ ⟨rfl, rfl⟩
  refine js_if_eqB (pc := 4) (tgt := 35) F dX5_listed_4 (by decide) (fun h4 => by exact absurd (jb_no hi (by decide)) h4) (fun h4 => ?_)
  refine js_iload_n (pc := 7) 2 F rfl dX5_listed_7 ?_
  refine js_iconst (pc := 8) (v := nI (0)) F (by decide) dX5_listed_8 ?_
  refine js_aload_n (pc := 9) 0 F rfl dX5_listed_9 ?_
  refine js_iload_n (pc := 10) 1 F rfl dX5_listed_10 ?_
  refine js_iconst (pc := 11) (v := nI (1)) F (by decide) dX5_listed_11 ?_
  refine js_calli (pc := 12) F (c_X5_part _ hy (G := G) (s := i) (p := 1) (by omega)) mf_X5_part gX5_listed_X5_part rfl (by decide) (by decide) (js_ct_M) rfl rfl rfl (Nat.le_of_ble_eq_true rfl) dX5_listed_12 ?_
  rintro _ _ ⟨hv12, rfl⟩
  rw [hv12, show G 192 ((1 + 106 * i) + 1) = nI (l.length) from (hS0.2.2.2.2.2.1)]
  clear hv12
  refine js_iconst (pc := 15) (v := nI (1)) F (by decide) dX5_listed_15 ?_
  refine js_isub (pc := 16) F dX5_listed_16 ?_
  refine js_callsi (pc := 17) F (c_X5_within _ hy (v := nI (p)) (lo := nI (0)) (hi := (nI (l.length)) - (nI (1)))) mf_X5_within gX5_listed_X5_within (by decide) rfl rfl (Nat.le_of_ble_eq_true rfl) dX5_listed_17 ?_
  rintro _ _ ⟨rfl, rfl⟩
  rw [jw_leni hlen]
  refine js_if_eqB (pc := 20) (tgt := 35) F dX5_listed_20 (by decide) (fun h20 => by exact absurd (jb_no hpl (by omega)) h20) (fun h20 => ?_)
  refine js_aload_n (pc := 23) 0 F rfl dX5_listed_23 ?_
  refine js_iload_n (pc := 24) 1 F rfl dX5_listed_24 ?_
  refine js_bipush (pc := 25) (v := nI (66)) F (by decide) dX5_listed_25 ?_
  refine js_iload_n (pc := 27) 2 F rfl dX5_listed_27 ?_
  refine js_iaddN (pc := 28) (a := 66) (b := p) F dX5_listed_28 ?_
  refine js_calli (pc := 29) F (c_X5_part _ hy (G := G) (s := i) (p := 66 + p) (by omega)) mf_X5_part gX5_listed_X5_part rfl (by decide) (by decide) (js_ct_M) rfl rfl rfl (Nat.le_of_ble_eq_true rfl) dX5_listed_29 ?_
  rintro _ _ ⟨hv29, rfl⟩
  rw [hv29, show G 192 ((1 + 106 * i) + (66 + p)) = nI (l.getD (p) 0) from (hS0.2.2.2.2.2.2.2.2 _ (by omega))]
  clear hv29
  refine js_goto (pc := 32) (tgt := 36) F dX5_listed_32 (by decide) ?_
  refine js_iret (pc := 36) F hr (rfl) ?_ dX5_listed_36
  show mP (mq_listed c (nI i) (nI p), c) _ _ _
  rw [show mq_listed c (nI i) (nI p) = nI (l.getD p 0) from by unfold mq_listed; rw [if_neg (jb_no hi (by decide)), jx (by omega), hq]; unfold jm_lsK; show (if _ then _ else _) = _; rw [if_neg (jb_no hpl (by omega)), jx (by omega)]]
  exact ⟨rfl, hC, js_frM.rf⟩
theorem mf_X5_count : js_M yX5_count cX5_count 2 (some .int) wsX5_count 1 := ⟨⟨_, rfl⟩, by decide +kernel, by decide +kernel, by decide +kernel, by decide +kernel⟩
set_option maxHeartbeats 4000000 in
set_option maxRecDepth 100000 in
theorem c_X5_count_1 (la : Launch) {y : js_L} (hy : js_Dy y) {G : js_G} {c : js_C} (hC : mr_C G c) {w : Int32} (hw : jb w 6) : js_Ci la y yX5_count wsX5_count 5 100 [.ref (js_ad y (191)), .int (w)] G (fun r G' => mP (mq_count c w, c) r G G') := by
  refine js_ofi mf_X5_count (Nat.le_of_ble_eq_true rfl) hy (fun X F hr => ?_)
  replace F : js_F X y cX5_count 2 RX5 wsX5_count 5 100 := F
  show js_W X y 2 _ G 0 [(0, .ref (js_ad y (191))), (1, .int (w))] []
  refine js_iload_n (pc := 0) 1 F rfl dX5_count_0 ?_
  refine js_tableOut (pc := 1) (tgt := 72) F dX5_count_1 (by have := jb_sw (n := 6) (by decide) hw; omega) (by decide) ?_
  refine js_bipush (pc := 72) (v := (-2)) F (by decide) dX5_count_72 ?_
  refine js_iret (pc := 74) F hr (rfl) ?_ dX5_count_74
  show mP (mq_count c w, c) _ _ _
  rw [show mq_count c w = -2 from by unfold mq_count; rw [if_neg (jb_ne hw (by decide) (by decide)), if_neg (jb_ne hw (by decide) (by decide)), if_neg (jb_ne hw (by decide) (by decide)), if_neg (jb_ne hw (by decide) (by decide)), if_neg (jb_ne hw (by decide) (by decide)), if_neg (jb_ne hw (by decide) (by decide))]]
  exact ⟨rfl, hC, js_frM.rf⟩
theorem in_X5_count_5 : ∀ w ∈ wsX50, w ∈ wsX5_count := by decide +kernel
theorem lk_X5_count_fieldLink_RX5_7_JoinedSketchesModel_state_I : Cond.fieldLink RX5 7 "JoinedSketchesModel" "state" "[I" ∈ wsX5_count := by decide +kernel
set_option maxHeartbeats 4000000 in
set_option maxRecDepth 100000 in
theorem c_X5_count_20 (la : Launch) {y : js_L} (hy : js_Dy y) {G : js_G} {c : js_C} (hC : mr_C G c)  : js_Ci la y yX5_count wsX5_count 5 100 [.ref (js_ad y (191)), .int (nI (0))] G (fun r G' => mP (mq_count c (nI 0), c) r G G') := by
  refine js_ofi mf_X5_count (Nat.le_of_ble_eq_true rfl) hy (fun X F hr => ?_)
  replace F : js_F X y cX5_count 2 RX5 wsX5_count 5 100 := F
  show js_W X y 2 _ G 0 [(0, .ref (js_ad y (191))), (1, .int (nI (0)))] []
  refine js_iload_n (pc := 0) 1 F rfl dX5_count_0 ?_
  refine js_tableIn (pc := 1) (off := 39) (tgt := 40) F dX5_count_1 (by decide) (by decide) (by decide) (by decide) ?_
  refine js_aload_n (pc := 40) 0 F rfl dX5_count_40 ?_
  refine jg_M_state (pc := 41) F in_X5_count_5 (lk_X5_count_fieldLink_RX5_7_JoinedSketchesModel_state_I) dX5_count_41 ?_
  refine js_iconst (pc := 44) (v := nI (0)) F (by decide) dX5_count_44 ?_
  refine js_iald (pc := 45) (j := 0) (v := nI (c.1.1)) F (by decide) (js_ct_Ms) rfl (by omega) (by decide) (hC.1.1) dX5_count_45 ?_
  refine js_iret (pc := 46) F hr (rfl) ?_ dX5_count_46
  show mP (mq_count c (nI 0), c) _ _ _
  rw [show mq_count c (nI 0) = nI (c.1.1) from by unfold mq_count; rw [if_pos rfl]]
  exact ⟨rfl, hC, js_frM.rf⟩
set_option maxHeartbeats 4000000 in
set_option maxRecDepth 100000 in
theorem c_X5_count_21 (la : Launch) {y : js_L} (hy : js_Dy y) {G : js_G} {c : js_C} (hC : mr_C G c)  : js_Ci la y yX5_count wsX5_count 5 100 [.ref (js_ad y (191)), .int (nI (1))] G (fun r G' => mP (mq_count c (nI 1), c) r G G') := by
  refine js_ofi mf_X5_count (Nat.le_of_ble_eq_true rfl) hy (fun X F hr => ?_)
  replace F : js_F X y cX5_count 2 RX5 wsX5_count 5 100 := F
  show js_W X y 2 _ G 0 [(0, .ref (js_ad y (191))), (1, .int (nI (1)))] []
  refine js_iload_n (pc := 0) 1 F rfl dX5_count_0 ?_
  refine js_tableIn (pc := 1) (off := 46) (tgt := 47) F dX5_count_1 (by decide) (by decide) (by decide) (by decide) ?_
  refine js_aload_n (pc := 47) 0 F rfl dX5_count_47 ?_
  refine js_calli (pc := 48) F (c_X5_sketchesFilled _ hy (G := G) hC.1) mf_X5_sketchesFilled gX5_count_X5_sketchesFilled rfl (by decide) (by decide) (js_ct_M) rfl rfl rfl (Nat.le_of_ble_eq_true rfl) dX5_count_48 ?_
  rintro _ _ ⟨rfl, rfl⟩
  refine js_iret (pc := 51) F hr (rfl) ?_ dX5_count_51
  show mP (mq_count c (nI 1), c) _ _ _
  rw [show mq_count c (nI 1) = nI (jm_sF c.1) from by unfold mq_count; rw [if_neg (show ¬ nI 1 = nI 0 by decide), if_pos rfl]]
  exact ⟨rfl, hC, js_frM.rf⟩
set_option maxHeartbeats 4000000 in
set_option maxRecDepth 100000 in
theorem c_X5_count_22 (la : Launch) {y : js_L} (hy : js_Dy y) {G : js_G} {c : js_C} (hC : mr_C G c)  : js_Ci la y yX5_count wsX5_count 5 100 [.ref (js_ad y (191)), .int (nI (2))] G (fun r G' => mP (mq_count c (nI 2), c) r G G') := by
  refine js_ofi mf_X5_count (Nat.le_of_ble_eq_true rfl) hy (fun X F hr => ?_)
  replace F : js_F X y cX5_count 2 RX5 wsX5_count 5 100 := F
  show js_W X y 2 _ G 0 [(0, .ref (js_ad y (191))), (1, .int (nI (2)))] []
  refine js_iload_n (pc := 0) 1 F rfl dX5_count_0 ?_
  refine js_tableIn (pc := 1) (off := 51) (tgt := 52) F dX5_count_1 (by decide) (by decide) (by decide) (by decide) ?_
  refine js_aload_n (pc := 52) 0 F rfl dX5_count_52 ?_
  refine js_calli (pc := 53) F (c_X5_allFilled _ hy (G := G) hC.1) mf_X5_allFilled gX5_count_X5_allFilled rfl (by decide) (by decide) (js_ct_M) rfl rfl rfl (Nat.le_of_ble_eq_true rfl) dX5_count_53 ?_
  rintro _ _ ⟨rfl, rfl⟩
  refine js_iret (pc := 56) F hr (rfl) ?_ dX5_count_56
  show mP (mq_count c (nI 2), c) _ _ _
  rw [show mq_count c (nI 2) = nI (jm_aF c.1) from by unfold mq_count; rw [if_neg (show ¬ nI 2 = nI 0 by decide), if_neg (show ¬ nI 2 = nI 1 by decide), if_pos rfl]]
  exact ⟨rfl, hC, js_frM.rf⟩
set_option maxHeartbeats 4000000 in
set_option maxRecDepth 100000 in
theorem c_X5_count_23 (la : Launch) {y : js_L} (hy : js_Dy y) {G : js_G} {c : js_C} (hC : mr_C G c)  : js_Ci la y yX5_count wsX5_count 5 100 [.ref (js_ad y (191)), .int (nI (3))] G (fun r G' => mP (mq_count c (nI 3), c) r G G') := by
  refine js_ofi mf_X5_count (Nat.le_of_ble_eq_true rfl) hy (fun X F hr => ?_)
  replace F : js_F X y cX5_count 2 RX5 wsX5_count 5 100 := F
  show js_W X y 2 _ G 0 [(0, .ref (js_ad y (191))), (1, .int (nI (3)))] []
  refine js_iload_n (pc := 0) 1 F rfl dX5_count_0 ?_
  refine js_tableIn (pc := 1) (off := 56) (tgt := 57) F dX5_count_1 (by decide) (by decide) (by decide) (by decide) ?_
  refine js_aload_n (pc := 57) 0 F rfl dX5_count_57 ?_
  refine js_calli (pc := 58) F (c_X5_fullLists _ hy (G := G) hC.1) mf_X5_fullLists gX5_count_X5_fullLists rfl (by decide) (by decide) (js_ct_M) rfl rfl rfl (Nat.le_of_ble_eq_true rfl) dX5_count_58 ?_
  rintro _ _ ⟨rfl, rfl⟩
  refine js_iret (pc := 61) F hr (rfl) ?_ dX5_count_61
  show mP (mq_count c (nI 3), c) _ _ _
  rw [show mq_count c (nI 3) = nI (jm_fF c.1) from by unfold mq_count; rw [if_neg (show ¬ nI 3 = nI 0 by decide), if_neg (show ¬ nI 3 = nI 1 by decide), if_neg (show ¬ nI 3 = nI 2 by decide), if_pos rfl]]
  exact ⟨rfl, hC, js_frM.rf⟩
theorem lk_X5_count_fieldLink_RX5_173_JoinedSketchesModel_padLength_I : Cond.fieldLink RX5 173 "JoinedSketchesModel" "padLength" "I" ∈ wsX5_count := by decide +kernel
set_option maxHeartbeats 4000000 in
set_option maxRecDepth 100000 in
theorem c_X5_count_24 (la : Launch) {y : js_L} (hy : js_Dy y) {G : js_G} {c : js_C} (hC : mr_C G c)  : js_Ci la y yX5_count wsX5_count 5 100 [.ref (js_ad y (191)), .int (nI (4))] G (fun r G' => mP (mq_count c (nI 4), c) r G G') := by
  refine js_ofi mf_X5_count (Nat.le_of_ble_eq_true rfl) hy (fun X F hr => ?_)
  replace F : js_F X y cX5_count 2 RX5 wsX5_count 5 100 := F
  show js_W X y 2 _ G 0 [(0, .ref (js_ad y (191))), (1, .int (nI (4)))] []
  refine js_iload_n (pc := 0) 1 F rfl dX5_count_0 ?_
  refine js_tableIn (pc := 1) (off := 61) (tgt := 62) F dX5_count_1 (by decide) (by decide) (by decide) (by decide) ?_
  refine js_aload_n (pc := 62) 0 F rfl dX5_count_62 ?_
  refine jg_M_padLength (pc := 63) (v := nI (c.2.2.2.length)) F in_X5_count_5 (lk_X5_count_fieldLink_RX5_173_JoinedSketchesModel_padLength_I) (hC.2.2.2.1) dX5_count_63 ?_
  refine js_iret (pc := 66) F hr (rfl) ?_ dX5_count_66
  show mP (mq_count c (nI 4), c) _ _ _
  rw [show mq_count c (nI 4) = nI (c.2.2.2.length) from by unfold mq_count; rw [if_neg (show ¬ nI 4 = nI 0 by decide), if_neg (show ¬ nI 4 = nI 1 by decide), if_neg (show ¬ nI 4 = nI 2 by decide), if_neg (show ¬ nI 4 = nI 3 by decide), if_pos rfl]]
  exact ⟨rfl, hC, js_frM.rf⟩
theorem lk_X5_count_fieldLink_RX5_35_JoinedSketchesModel_recorded_I : Cond.fieldLink RX5 35 "JoinedSketchesModel" "recorded" "I" ∈ wsX5_count := by decide +kernel
set_option maxHeartbeats 4000000 in
set_option maxRecDepth 100000 in
theorem c_X5_count_25 (la : Launch) {y : js_L} (hy : js_Dy y) {G : js_G} {c : js_C} (hC : mr_C G c)  : js_Ci la y yX5_count wsX5_count 5 100 [.ref (js_ad y (191)), .int (nI (5))] G (fun r G' => mP (mq_count c (nI 5), c) r G G') := by
  refine js_ofi mf_X5_count (Nat.le_of_ble_eq_true rfl) hy (fun X F hr => ?_)
  replace F : js_F X y cX5_count 2 RX5 wsX5_count 5 100 := F
  show js_W X y 2 _ G 0 [(0, .ref (js_ad y (191))), (1, .int (nI (5)))] []
  refine js_iload_n (pc := 0) 1 F rfl dX5_count_0 ?_
  refine js_tableIn (pc := 1) (off := 66) (tgt := 67) F dX5_count_1 (by decide) (by decide) (by decide) (by decide) ?_
  refine js_aload_n (pc := 67) 0 F rfl dX5_count_67 ?_
  refine jg_M_recorded (pc := 68) (v := nI (c.2.1.length)) F in_X5_count_5 (lk_X5_count_fieldLink_RX5_35_JoinedSketchesModel_recorded_I) (hC.2.1.1) dX5_count_68 ?_
  refine js_iret (pc := 71) F hr (rfl) ?_ dX5_count_71
  show mP (mq_count c (nI 5), c) _ _ _
  rw [show mq_count c (nI 5) = nI (c.2.1.length) from by unfold mq_count; rw [if_neg (show ¬ nI 5 = nI 0 by decide), if_neg (show ¬ nI 5 = nI 1 by decide), if_neg (show ¬ nI 5 = nI 2 by decide), if_neg (show ¬ nI 5 = nI 3 by decide), if_neg (show ¬ nI 5 = nI 4 by decide), if_pos rfl]]
  exact ⟨rfl, hC, js_frM.rf⟩
theorem mf_X5_together : js_M yX5_together cX5_together 5 (some .int) wsX5_together 2 := ⟨⟨_, rfl⟩, by decide +kernel, by decide +kernel, by decide +kernel, by decide +kernel⟩
set_option maxHeartbeats 4000000 in
set_option maxRecDepth 100000 in
theorem c_X5_together_1 (la : Launch) {y : js_L} (hy : js_Dy y) {G : js_G} {c : js_C} (hC : mr_C G c) {x z : Int32} (hx : jb x 6 ∨ jb z 6) : js_Ci la y yX5_together wsX5_together 4 81 [.ref (js_ad y (191)), .int (x), .int (z)] G (fun r G' => mP (mq_together c x z, c) r G G') := by
  refine js_ofi mf_X5_together (Nat.le_of_ble_eq_true rfl) hy (fun X F hr => ?_)
  replace F : js_F X y cX5_together 5 RX5 wsX5_together 4 81 := F
  show js_W X y 5 _ G 0 [(0, .ref (js_ad y (191))), (1, .int (x)), (2, .int (z))] []
  refine js_aload_n (pc := 0) 0 F rfl dX5_together_0 ?_
  refine js_iload_n (pc := 1) 1 F rfl dX5_together_1 ?_
  refine js_iload_n (pc := 2) 2 F rfl dX5_together_2 ?_
  refine js_calli (pc := 3) F (c_X5_whyNotJoined_1 _ hy (x := x) (z := z) (hx)) mf_X5_whyNotJoined gX5_together_X5_whyNotJoined rfl (by decide) (by decide) (js_ct_M) rfl rfl rfl (Nat.le_of_ble_eq_true rfl) dX5_together_3 ?_
  rintro _ _ ⟨rfl, rfl⟩
  refine js_istore_n (pc := 6) (lv2 := [(0, .ref (js_ad y (191))), (1, .int (x)), (2, .int (z)), (3, .int ((-1)))]) F dX5_together_6 (by decide) [1, 2, 3, 0] rfl ?_
  refine js_iload_n (pc := 7) 3 F rfl dX5_together_7 ?_
  refine js_if_ge (pc := 8) (tgt := 23) F dX5_together_8 (by decide) (fun h8 => absurd h8 (by decide)) (fun _ => ?_)
  refine js_iload_n (pc := 11) 3 F rfl dX5_together_11 ?_
  refine js_iconst (pc := 12) (v := (-1)) F (by decide) dX5_together_12 ?_
  refine js_icmp_eq (pc := 13) (tgt := 21) F dX5_together_13 (by decide) (fun h13 => ?_) (fun h13 => by exact absurd rfl h13)
  refine js_iload_n (pc := 21) 3 F rfl dX5_together_21 ?_
  refine js_iret (pc := 22) F hr (rfl) ?_ dX5_together_22
  show mP (mq_together c x z, c) _ _ _
  rw [show mq_together c x z = -1 from if_pos hx]
  exact ⟨rfl, hC, js_frM.rf⟩
set_option maxHeartbeats 4000000 in
set_option maxRecDepth 100000 in
theorem c_X5_together_2 (la : Launch) {y : js_L} (hy : js_Dy y) {G : js_G} {c : js_C} (hC : mr_C G c) {i : Nat} (hi : i < 6) {i2 : Nat} (hi2 : i2 < 6) (hn : ¬ (c.1.2 i).1 = (c.1.2 i2).1) : js_Ci la y yX5_together wsX5_together 4 81 [.ref (js_ad y (191)), .int (nI (i)), .int (nI (i2))] G (fun r G' => mP (mq_together c (nI i) (nI i2), c) r G G') := by
  refine js_ofi mf_X5_together (Nat.le_of_ble_eq_true rfl) hy (fun X F hr => ?_)
  replace F : js_F X y cX5_together 5 RX5 wsX5_together 4 81 := F
  show js_W X y 5 _ G 0 [(0, .ref (js_ad y (191))), (1, .int (nI (i))), (2, .int (nI (i2)))] []
  refine js_aload_n (pc := 0) 0 F rfl dX5_together_0 ?_
  refine js_iload_n (pc := 1) 1 F rfl dX5_together_1 ?_
  refine js_iload_n (pc := 2) 2 F rfl dX5_together_2 ?_
  refine js_calli (pc := 3) F (c_X5_whyNotJoined_2 _ hy hC.1 (i := i) (by omega) (i2 := i2) (by omega)) mf_X5_whyNotJoined gX5_together_X5_whyNotJoined rfl (by decide) (by decide) (js_ct_M) rfl rfl rfl (Nat.le_of_ble_eq_true rfl) dX5_together_3 ?_
  rintro _ _ ⟨rfl, rfl⟩
  rw [if_neg (fun q => hn q.2)]
  refine js_istore_n (pc := 6) (lv2 := [(0, .ref (js_ad y (191))), (1, .int (nI (i))), (2, .int (nI (i2))), (3, .int ((-5)))]) F dX5_together_6 (by decide) [1, 2, 3, 0] rfl ?_
  refine js_iload_n (pc := 7) 3 F rfl dX5_together_7 ?_
  refine js_if_ge (pc := 8) (tgt := 23) F dX5_together_8 (by decide) (fun h8 => absurd h8 (by decide)) (fun _ => ?_)
  refine js_iload_n (pc := 11) 3 F rfl dX5_together_11 ?_
  refine js_iconst (pc := 12) (v := (-1)) F (by decide) dX5_together_12 ?_
  refine js_icmp_eq (pc := 13) (tgt := 21) F dX5_together_13 (by decide) (fun h13 => by exact absurd h13 (by decide)) (fun h13 => ?_)
  refine js_iload_n (pc := 16) 1 F rfl dX5_together_16 ?_
  refine js_iload_n (pc := 17) 2 F rfl dX5_together_17 ?_
  refine js_icmp_eqN (pc := 18) (a := i) (b := i2) (tgt := 23) F (by omega) (by omega) dX5_together_18 (by decide) (fun h18 => by exact absurd (by rw [h18]) hn) (fun h18 => ?_)
  refine js_iload_n (pc := 21) 3 F rfl dX5_together_21 ?_
  refine js_iret (pc := 22) F hr (rfl) ?_ dX5_together_22
  show mP (mq_together c (nI i) (nI i2), c) _ _ _
  rw [show mq_together c (nI i) (nI i2) = -5 from by unfold mq_together; rw [if_neg (fun q => q.elim (jb_no hi (by decide)) (jb_no hi2 (by decide))), jx (by omega), jx (by omega), if_pos hn]]
  exact ⟨rfl, hC, js_frM.rf⟩
theorem mf_X5_alike : js_M yX5_alike cX5_alike 6 (some .int) wsX5_alike 2 := ⟨⟨_, rfl⟩, by decide +kernel, by decide +kernel, by decide +kernel, by decide +kernel⟩
set_option maxHeartbeats 4000000 in
set_option maxRecDepth 100000 in
theorem c_X5_alike_1 (la : Launch) {y : js_L} (hy : js_Dy y) {G : js_G} {c : js_C} (hC : mr_C G c) {x z : Int32} (hx : jb x 6 ∨ jb z 6) : js_Ci la y yX5_alike wsX5_alike 4 76 [.ref (js_ad y (191)), .int (x), .int (z)] G (fun r G' => mP (mq_alike c x z, c) r G G') := by
  refine js_ofi mf_X5_alike (Nat.le_of_ble_eq_true rfl) hy (fun X F hr => ?_)
  replace F : js_F X y cX5_alike 6 RX5 wsX5_alike 4 76 := F
  show js_W X y 6 _ G 0 [(0, .ref (js_ad y (191))), (1, .int (x)), (2, .int (z))] []
  refine js_aload_n (pc := 0) 0 F rfl dX5_alike_0 ?_
  refine js_iload_n (pc := 1) 1 F rfl dX5_alike_1 ?_
  refine js_iload_n (pc := 2) 2 F rfl dX5_alike_2 ?_
  refine js_calli (pc := 3) F (c_X5_whyNotJoined_1 _ hy (x := x) (z := z) (hx)) mf_X5_whyNotJoined gX5_alike_X5_whyNotJoined rfl (by decide) (by decide) (js_ct_M) rfl rfl rfl (Nat.le_of_ble_eq_true rfl) dX5_alike_3 ?_
  rintro _ _ ⟨rfl, rfl⟩
  refine js_istore_n (pc := 6) (lv2 := [(0, .ref (js_ad y (191))), (1, .int (x)), (2, .int (z)), (3, .int ((-1)))]) F dX5_alike_6 (by decide) [1, 2, 3, 0] rfl ?_
  refine js_iload_n (pc := 7) 3 F rfl dX5_alike_7 ?_
  refine js_if_ge (pc := 8) (tgt := 23) F dX5_alike_8 (by decide) (fun h8 => absurd h8 (by decide)) (fun _ => ?_)
  refine js_iload_n (pc := 11) 3 F rfl dX5_alike_11 ?_
  refine js_iconst (pc := 12) (v := (-1)) F (by decide) dX5_alike_12 ?_
  refine js_icmp_eq (pc := 13) (tgt := 21) F dX5_alike_13 (by decide) (fun h13 => ?_) (fun h13 => by exact absurd rfl h13)
  refine js_iload_n (pc := 21) 3 F rfl dX5_alike_21 ?_
  refine js_iret (pc := 22) F hr (rfl) ?_ dX5_alike_22
  show mP (mq_alike c x z, c) _ _ _
  rw [show mq_alike c x z = -1 from if_pos hx]
  exact ⟨rfl, hC, js_frM.rf⟩
set_option maxHeartbeats 4000000 in
set_option maxRecDepth 100000 in
theorem c_X5_alike_2 (la : Launch) {y : js_L} (hy : js_Dy y) {G : js_G} {c : js_C} (hC : mr_C G c) {i : Nat} (hi : i < 6) {i2 : Nat} (hi2 : i2 < 6) (hn : ¬ (c.1.2 i).1 = (c.1.2 i2).1) : js_Ci la y yX5_alike wsX5_alike 4 76 [.ref (js_ad y (191)), .int (nI (i)), .int (nI (i2))] G (fun r G' => mP (mq_alike c (nI i) (nI i2), c) r G G') := by
  refine js_ofi mf_X5_alike (Nat.le_of_ble_eq_true rfl) hy (fun X F hr => ?_)
  replace F : js_F X y cX5_alike 6 RX5 wsX5_alike 4 76 := F
  show js_W X y 6 _ G 0 [(0, .ref (js_ad y (191))), (1, .int (nI (i))), (2, .int (nI (i2)))] []
  refine js_aload_n (pc := 0) 0 F rfl dX5_alike_0 ?_
  refine js_iload_n (pc := 1) 1 F rfl dX5_alike_1 ?_
  refine js_iload_n (pc := 2) 2 F rfl dX5_alike_2 ?_
  refine js_calli (pc := 3) F (c_X5_whyNotJoined_2 _ hy hC.1 (i := i) (by omega) (i2 := i2) (by omega)) mf_X5_whyNotJoined gX5_alike_X5_whyNotJoined rfl (by decide) (by decide) (js_ct_M) rfl rfl rfl (Nat.le_of_ble_eq_true rfl) dX5_alike_3 ?_
  rintro _ _ ⟨rfl, rfl⟩
  rw [if_neg (fun q => hn q.2)]
  refine js_istore_n (pc := 6) (lv2 := [(0, .ref (js_ad y (191))), (1, .int (nI (i))), (2, .int (nI (i2))), (3, .int ((-5)))]) F dX5_alike_6 (by decide) [1, 2, 3, 0] rfl ?_
  refine js_iload_n (pc := 7) 3 F rfl dX5_alike_7 ?_
  refine js_if_ge (pc := 8) (tgt := 23) F dX5_alike_8 (by decide) (fun h8 => absurd h8 (by decide)) (fun _ => ?_)
  refine js_iload_n (pc := 11) 3 F rfl dX5_alike_11 ?_
  refine js_iconst (pc := 12) (v := (-1)) F (by decide) dX5_alike_12 ?_
  refine js_icmp_eq (pc := 13) (tgt := 21) F dX5_alike_13 (by decide) (fun h13 => by exact absurd h13 (by decide)) (fun h13 => ?_)
  refine js_iload_n (pc := 16) 1 F rfl dX5_alike_16 ?_
  refine js_iload_n (pc := 17) 2 F rfl dX5_alike_17 ?_
  refine js_icmp_eqN (pc := 18) (a := i) (b := i2) (tgt := 23) F (by omega) (by omega) dX5_alike_18 (by decide) (fun h18 => by exact absurd (by rw [h18]) hn) (fun h18 => ?_)
  refine js_iload_n (pc := 21) 3 F rfl dX5_alike_21 ?_
  refine js_iret (pc := 22) F hr (rfl) ?_ dX5_alike_22
  show mP (mq_alike c (nI i) (nI i2), c) _ _ _
  rw [show mq_alike c (nI i) (nI i2) = -5 from by unfold mq_alike; rw [if_neg (fun q => q.elim (jb_no hi (by decide)) (jb_no hi2 (by decide))), jx (by omega), jx (by omega), if_pos hn]]
  exact ⟨rfl, hC, js_frM.rf⟩
theorem in_X5_together_5 : ∀ w ∈ wsX50, w ∈ wsX5_together := by decide +kernel
theorem lk_X5_together_fieldLink_RX5_25_JoinedSketchesModel_ranks_I : Cond.fieldLink RX5 25 "JoinedSketchesModel" "ranks" "[I" ∈ wsX5_together := by decide +kernel
set_option maxHeartbeats 4000000 in
set_option maxRecDepth 100000 in
theorem c_X5_together_3 (la : Launch) {y : js_L} (hy : js_Dy y) {G : js_G} {c : js_C} (hC : mr_C G c) {i : Nat} (hi : i < 6) {i2 : Nat} (hi2 : i2 < 6) (hne : i ≠ i2) (hn : (c.1.2 i).1 = (c.1.2 i2).1) : js_Ci la y yX5_together wsX5_together 4 81 [.ref (js_ad y (191)), .int (nI (i)), .int (nI (i2))] G (fun r G' => mP (mq_together c (nI i) (nI i2), c) r G G') := by
  have hS : mr_K G 192 (1 + 106 * i) (c.1.2 i) := hC.K hi
  have hp : 2 ^ (c.1.2 i).1 ≤ 64 := jm_p6 hS.2.1
  have hp1 := jm_p1 (c.1.2 i).1
  have hB6 := hS.2.1
  have hB2 := hS.1
  have hs6 := hC.1.2.1
  have hS2 : mr_K G 192 (1 + 106 * i2) (c.1.2 i2) := hC.K hi2
  have hB26 := hS2.2.1
  refine js_ofi mf_X5_together (Nat.le_of_ble_eq_true rfl) hy (fun X F hr => ?_)
  replace F : js_F X y cX5_together 5 RX5 wsX5_together 4 81 := F
  show js_W X y 5 _ G 0 [(0, .ref (js_ad y (191))), (1, .int (nI (i))), (2, .int (nI (i2)))] []
  refine js_aload_n (pc := 0) 0 F rfl dX5_together_0 ?_
  refine js_iload_n (pc := 1) 1 F rfl dX5_together_1 ?_
  refine js_iload_n (pc := 2) 2 F rfl dX5_together_2 ?_
  refine js_calli (pc := 3) F (c_X5_whyNotJoined_2 _ hy hC.1 (i := i) (by omega) (i2 := i2) (by omega)) mf_X5_whyNotJoined gX5_together_X5_whyNotJoined rfl (by decide) (by decide) (js_ct_M) rfl rfl rfl (Nat.le_of_ble_eq_true rfl) dX5_together_3 ?_
  rintro _ _ ⟨rfl, rfl⟩
  rw [if_pos ⟨hne, hn⟩]
  refine js_istore_n (pc := 6) (lv2 := [(0, .ref (js_ad y (191))), (1, .int (nI (i))), (2, .int (nI (i2))), (3, .int (nI (0)))]) F dX5_together_6 (by decide) [1, 2, 3, 0] rfl ?_
  refine js_iload_n (pc := 7) 3 F rfl dX5_together_7 ?_
  refine js_if_geN (pc := 8) (a := 0) (tgt := 23) F (by decide) dX5_together_8 (by decide) (fun _ => ?_) (fun h8 => by exfalso; revert h8; decide)
  refine js_aload_n (pc := 23) 0 F rfl dX5_together_23 ?_
  refine js_iload_n (pc := 24) 1 F rfl dX5_together_24 ?_
  refine js_callv (pc := 25) F (c_X5_takeRanks _ hy (s := i) (by omega) (G := G) (hS)) mf_X5_takeRanks gX5_together_X5_takeRanks rfl (by decide) (by decide) (js_ct_M) rfl rfl rfl (Nat.le_of_ble_eq_true rfl) dX5_together_25 ?_
  rintro G25 ⟨t25, f25⟩
  refine js_iconst (pc := 28) (v := nI (0)) F (by decide) dX5_together_28 ?_
  refine js_istore (pc := 29) (lv2 := [(0, .ref (js_ad y (191))), (1, .int (nI (i))), (2, .int (nI (i2))), (3, .int (nI (0))), (4, .int (nI (0)))]) F dX5_together_29 (by decide) [1, 2, 3, 4, 0] rfl ?_
  have L31 : ∀ (fu31 : Nat) (k : Nat) (G1 : js_G) (hk : k ≤ 64) (h1 : ∀ b, b < 64 → G1 197 b = nI (if b < k then jm_mx (jz (c.1.2 i).1 (c.1.2 i).2.1) (jz (c.1.2 i2).1 (c.1.2 i2).2.1) b else (jz (c.1.2 i).1 (c.1.2 i).2.1) b)) (hf : mfR G G1) (hfu31 : 64 - k < fu31), js_W X y 5 (js_Qi X y (fun r G' => mP (mq_together c (nI i) (nI i2), c) r G G')) G1 31 [(0, .ref (js_ad y (191))), (1, .int (nI (i))), (2, .int (nI (i2))), (3, .int (nI (0))), (4, .int (nI (k)))] [] := by
    intro fu31
    induction fu31 with
    | zero => intro k G1 hk h1 hf hfu31; exact absurd hfu31 (Nat.not_lt_zero _)
    | succ fu31 ih31 =>
      intro k G1 hk h1 hf hfu31
      refine js_iload (pc := 31) 4 F rfl dX5_together_31 ?_
      refine js_bipush (pc := 33) (v := nI (64)) F (by decide) dX5_together_33 ?_
      refine js_icmp_geN (pc := 35) (a := k) (b := 64) (tgt := 89) F (by first | omega | exact Nat.lt_of_le_of_lt hz1 (by omega) | exact Nat.lt_of_le_of_lt hz2 (by omega)) (by decide) dX5_together_35 (by decide) (fun h35 => ?_) (fun h35 => ?_)
      · skip
        refine js_aload_n (pc := 89) 0 F rfl dX5_together_89 ?_
        refine js_aload_n (pc := 90) 0 F rfl dX5_together_90 ?_
        refine js_iload_n (pc := 91) 1 F rfl dX5_together_91 ?_
        refine js_calli (pc := 92) F (c_X5_bucketsOf _ hy (s := i) (by omega) (G := G1) (hS.co (hf 192 (by decide)))) mf_X5_bucketsOf gX5_together_X5_bucketsOf rfl (by decide) (by decide) (js_ct_M) rfl rfl rfl (Nat.le_of_ble_eq_true rfl) dX5_together_92 ?_
        rintro _ _ ⟨rfl, rfl⟩
        have hk64 : k = 64 := by omega
        have hR1 : ∀ b, b < 2 ^ (c.1.2 i).1 → G1 197 b = nI ((jm_mx (c.1.2 i).2.1 (c.1.2 i2).2.1) b) := fun b hb => by rw [h1 b (by omega), if_pos (by omega)]; unfold jm_mx; rw [jz_lt hb, jz_lt (by rw [← hn]; exact hb)]
        refine js_calli (pc := 95) F (c_X5_estimateBy _ hy (G := G1) (m := 2 ^ (c.1.2 i).1) (by omega) (rk := jm_mx (c.1.2 i).2.1 (c.1.2 i2).2.1) hR1 (fun b hb => Nat.le_trans (jm_mx_le (hS.2.2.2.2.1 b hb) (by rw [hn]; exact hS2.2.2.2.2.1 b (by rw [← hn]; exact hb))) (by omega)) (by omega)) mf_X5_estimateBy gX5_together_X5_estimateBy rfl (by decide) (by decide) (js_ct_M) rfl rfl rfl (Nat.le_of_ble_eq_true rfl) dX5_together_95 ?_
        rintro _ _ ⟨rfl, rfl⟩
        refine js_iret (pc := 98) F hr (rfl) ?_ dX5_together_98
        show mP (mq_together c (nI i) (nI i2), c) _ _ _
        rw [show mq_together c (nI i) (nI i2) = nI (jm_est (jm_mx (c.1.2 i).2.1 (c.1.2 i2).2.1) (2 ^ (c.1.2 i).1)) from by unfold mq_together; rw [if_neg (fun q => q.elim (jb_no hi (by decide)) (jb_no hi2 (by decide))), jx (by omega), jx (by omega), if_neg (fun q => q hn)]]
        exact ⟨rfl, hC.R hf, js_frM.R hf⟩
      · skip
        refine js_aload_n (pc := 38) 0 F rfl dX5_together_38 ?_
        refine jg_M_ranks (pc := 39) F in_X5_together_5 (lk_X5_together_fieldLink_RX5_25_JoinedSketchesModel_ranks_I) dX5_together_39 ?_
        refine js_iload (pc := 42) 4 F rfl dX5_together_42 ?_
        refine js_aload_n (pc := 44) 0 F rfl dX5_together_44 ?_
        refine js_iload_n (pc := 45) 2 F rfl dX5_together_45 ?_
        refine js_iconst (pc := 46) (v := nI (2)) F (by decide) dX5_together_46 ?_
        refine js_iload (pc := 47) 4 F rfl dX5_together_47 ?_
        refine js_iaddN (pc := 49) (a := 2) (b := k) F dX5_together_49 ?_
        refine js_calli (pc := 50) F (c_X5_part _ hy (G := G1) (s := i2) (p := 2 + k) (by omega)) mf_X5_part gX5_together_X5_part rfl (by decide) (by decide) (js_ct_M) rfl rfl rfl (Nat.le_of_ble_eq_true rfl) dX5_together_50 ?_
        rintro _ _ ⟨hv50, rfl⟩
        rw [hv50, show G1 192 ((1 + 106 * i2) + (2 + k)) = nI (jz ((c.1.2 i2).1) ((c.1.2 i2).2.1) (k)) from ((hS2.co (hf 192 (by decide))).2.2.2.1 _ (by omega))]
        clear hv50
        refine js_aload_n (pc := 53) 0 F rfl dX5_together_53 ?_
        refine jg_M_ranks (pc := 54) F in_X5_together_5 (lk_X5_together_fieldLink_RX5_25_JoinedSketchesModel_ranks_I) dX5_together_54 ?_
        refine js_iload (pc := 57) 4 F rfl dX5_together_57 ?_
        refine js_iald (pc := 59) (j := k) (v := nI ((jz (c.1.2 i).1 (c.1.2 i).2.1) (k))) F (by decide) (js_ct_Mr) rfl (by omega) (by decide) ((h1 _ (by omega)).trans (congrArg nI (if_neg (Nat.lt_irrefl _)))) dX5_together_59 ?_
        have hz1 := jz_le hS.2.2.2.2.1 k
        have hz2 := jz_le hS2.2.2.2.2.1 k
        refine js_icmp_leN (pc := 60) (a := jz ((c.1.2 i2).1) ((c.1.2 i2).2.1) (k)) (b := (jz (c.1.2 i).1 (c.1.2 i).2.1) (k)) (tgt := 75) F (by first | omega | exact Nat.lt_of_le_of_lt hz1 (by omega) | exact Nat.lt_of_le_of_lt hz2 (by omega)) (by first | omega | exact Nat.lt_of_le_of_lt hz1 (by omega) | exact Nat.lt_of_le_of_lt hz2 (by omega)) dX5_together_60 (by decide) (fun h60 => ?_) (fun h60 => ?_)
        · skip
          refine js_aload_n (pc := 75) 0 F rfl dX5_together_75 ?_
          refine jg_M_ranks (pc := 76) F in_X5_together_5 (lk_X5_together_fieldLink_RX5_25_JoinedSketchesModel_ranks_I) dX5_together_76 ?_
          refine js_iload (pc := 79) 4 F rfl dX5_together_79 ?_
          refine js_iald (pc := 81) (j := k) (v := nI ((jz (c.1.2 i).1 (c.1.2 i).2.1) (k))) F (by decide) (js_ct_Mr) rfl (by omega) (by decide) ((h1 _ (by omega)).trans (congrArg nI (if_neg (Nat.lt_irrefl _)))) dX5_together_81 ?_
          refine js_iast (pc := 82) (j := k) F (by decide) (fun _ => js_ct_Mr) rfl (by omega) (by decide) dX5_together_82 ?_
          refine js_iinc (pc := 83) (v := nI (k + 1)) (lv2 := [(0, .ref (js_ad y (191))), (1, .int (nI (i))), (2, .int (nI (i2))), (3, .int (nI (0))), (4, .int (nI (k + 1)))]) F dX5_together_83 4 rfl (nI_add _ _) (by decide) [1, 2, 3, 4, 0] rfl ?_
          refine js_goto (pc := 86) (tgt := 31) F dX5_together_86 (by decide) ?_
          exact ih31 (k + 1) (js_st G1 (197) (k) (nI ((jz (c.1.2 i).1 (c.1.2 i).2.1) (k)))) (by omega) (jl_st h1 (by unfold jm_mx; first | rw [if_pos h60] | rw [if_neg (Nat.not_lt.mpr h60)])) (hf.tr mfR.st) (by omega)
        · skip
          refine js_aload_n (pc := 63) 0 F rfl dX5_together_63 ?_
          refine js_iload_n (pc := 64) 2 F rfl dX5_together_64 ?_
          refine js_iconst (pc := 65) (v := nI (2)) F (by decide) dX5_together_65 ?_
          refine js_iload (pc := 66) 4 F rfl dX5_together_66 ?_
          refine js_iaddN (pc := 68) (a := 2) (b := k) F dX5_together_68 ?_
          refine js_calli (pc := 69) F (c_X5_part _ hy (G := G1) (s := i2) (p := 2 + k) (by omega)) mf_X5_part gX5_together_X5_part rfl (by decide) (by decide) (js_ct_M) rfl rfl rfl (Nat.le_of_ble_eq_true rfl) dX5_together_69 ?_
          rintro _ _ ⟨hv69, rfl⟩
          rw [hv69, show G1 192 ((1 + 106 * i2) + (2 + k)) = nI (jz ((c.1.2 i2).1) ((c.1.2 i2).2.1) (k)) from ((hS2.co (hf 192 (by decide))).2.2.2.1 _ (by omega))]
          clear hv69
          refine js_goto (pc := 72) (tgt := 82) F dX5_together_72 (by decide) ?_
          refine js_iast (pc := 82) (j := k) F (by decide) (fun _ => js_ct_Mr) rfl (by omega) (by decide) dX5_together_82 ?_
          refine js_iinc (pc := 83) (v := nI (k + 1)) (lv2 := [(0, .ref (js_ad y (191))), (1, .int (nI (i))), (2, .int (nI (i2))), (3, .int (nI (0))), (4, .int (nI (k + 1)))]) F dX5_together_83 4 rfl (nI_add _ _) (by decide) [1, 2, 3, 4, 0] rfl ?_
          refine js_goto (pc := 86) (tgt := 31) F dX5_together_86 (by decide) ?_
          exact ih31 (k + 1) (js_st G1 (197) (k) (nI (jz ((c.1.2 i2).1) ((c.1.2 i2).2.1) (k)))) (by omega) (jl_st h1 (by unfold jm_mx; first | rw [if_pos h60] | rw [if_neg (Nat.not_lt.mpr h60)])) (hf.tr mfR.st) (by omega)
  exact L31 (_ + 1) 0 G25 (by decide) (fun b hb => by rw [if_neg (Nat.not_lt_zero _)]; exact t25 b hb) (f25) (Nat.lt_succ_self _)
set_option maxHeartbeats 4000000 in
set_option maxRecDepth 100000 in
theorem c_X5_together_3e (la : Launch) {y : js_L} (hy : js_Dy y) {G : js_G} {c : js_C} (hC : mr_C G c) {i : Nat} (hi : i < 6) : js_Ci la y yX5_together wsX5_together 4 81 [.ref (js_ad y (191)), .int (nI (i)), .int (nI (i))] G (fun r G' => mP (mq_together c (nI i) (nI i), c) r G G') := by
  have hS : mr_K G 192 (1 + 106 * i) (c.1.2 i) := hC.K hi
  have hp : 2 ^ (c.1.2 i).1 ≤ 64 := jm_p6 hS.2.1
  have hp1 := jm_p1 (c.1.2 i).1
  have hB6 := hS.2.1
  have hB2 := hS.1
  have hs6 := hC.1.2.1
  refine js_ofi mf_X5_together (Nat.le_of_ble_eq_true rfl) hy (fun X F hr => ?_)
  replace F : js_F X y cX5_together 5 RX5 wsX5_together 4 81 := F
  show js_W X y 5 _ G 0 [(0, .ref (js_ad y (191))), (1, .int (nI (i))), (2, .int (nI (i)))] []
  refine js_aload_n (pc := 0) 0 F rfl dX5_together_0 ?_
  refine js_iload_n (pc := 1) 1 F rfl dX5_together_1 ?_
  refine js_iload_n (pc := 2) 2 F rfl dX5_together_2 ?_
  refine js_calli (pc := 3) F (c_X5_whyNotJoined_2 _ hy hC.1 (i := i) (by omega) (i2 := i) (by omega)) mf_X5_whyNotJoined gX5_together_X5_whyNotJoined rfl (by decide) (by decide) (js_ct_M) rfl rfl rfl (Nat.le_of_ble_eq_true rfl) dX5_together_3 ?_
  rintro _ _ ⟨rfl, rfl⟩
  rw [if_neg (fun q => q.1 rfl)]
  refine js_istore_n (pc := 6) (lv2 := [(0, .ref (js_ad y (191))), (1, .int (nI (i))), (2, .int (nI (i))), (3, .int ((-5)))]) F dX5_together_6 (by decide) [1, 2, 3, 0] rfl ?_
  refine js_iload_n (pc := 7) 3 F rfl dX5_together_7 ?_
  refine js_if_ge (pc := 8) (tgt := 23) F dX5_together_8 (by decide) (fun h8 => absurd h8 (by decide)) (fun _ => ?_)
  refine js_iload_n (pc := 11) 3 F rfl dX5_together_11 ?_
  refine js_iconst (pc := 12) (v := (-1)) F (by decide) dX5_together_12 ?_
  refine js_icmp_eq (pc := 13) (tgt := 21) F dX5_together_13 (by decide) (fun h13 => by exact absurd h13 (by decide)) (fun h13 => ?_)
  refine js_iload_n (pc := 16) 1 F rfl dX5_together_16 ?_
  refine js_iload_n (pc := 17) 2 F rfl dX5_together_17 ?_
  refine js_icmp_eqN (pc := 18) (a := i) (b := i) (tgt := 23) F (by first | omega | exact Nat.lt_of_le_of_lt hz1 (by omega) | exact Nat.lt_of_le_of_lt hz2 (by omega)) (by first | omega | exact Nat.lt_of_le_of_lt hz1 (by omega) | exact Nat.lt_of_le_of_lt hz2 (by omega)) dX5_together_18 (by decide) (fun h18 => ?_) (fun h18 => by exact absurd rfl h18)
  refine js_aload_n (pc := 23) 0 F rfl dX5_together_23 ?_
  refine js_iload_n (pc := 24) 1 F rfl dX5_together_24 ?_
  refine js_callv (pc := 25) F (c_X5_takeRanks _ hy (s := i) (by omega) (G := G) (hS)) mf_X5_takeRanks gX5_together_X5_takeRanks rfl (by decide) (by decide) (js_ct_M) rfl rfl rfl (Nat.le_of_ble_eq_true rfl) dX5_together_25 ?_
  rintro G25 ⟨t25, f25⟩
  refine js_iconst (pc := 28) (v := nI (0)) F (by decide) dX5_together_28 ?_
  refine js_istore (pc := 29) (lv2 := [(0, .ref (js_ad y (191))), (1, .int (nI (i))), (2, .int (nI (i))), (3, .int ((-5))), (4, .int (nI (0)))]) F dX5_together_29 (by decide) [1, 2, 3, 4, 0] rfl ?_
  have L31 : ∀ (fu31 : Nat) (k : Nat) (G1 : js_G) (hk : k ≤ 64) (h1 : ∀ b, b < 64 → G1 197 b = nI (if b < k then jm_mx (jz (c.1.2 i).1 (c.1.2 i).2.1) (jz (c.1.2 i).1 (c.1.2 i).2.1) b else (jz (c.1.2 i).1 (c.1.2 i).2.1) b)) (hf : mfR G G1) (hfu31 : 64 - k < fu31), js_W X y 5 (js_Qi X y (fun r G' => mP (mq_together c (nI i) (nI i), c) r G G')) G1 31 [(0, .ref (js_ad y (191))), (1, .int (nI (i))), (2, .int (nI (i))), (3, .int ((-5))), (4, .int (nI (k)))] [] := by
    intro fu31
    induction fu31 with
    | zero => intro k G1 hk h1 hf hfu31; exact absurd hfu31 (Nat.not_lt_zero _)
    | succ fu31 ih31 =>
      intro k G1 hk h1 hf hfu31
      refine js_iload (pc := 31) 4 F rfl dX5_together_31 ?_
      refine js_bipush (pc := 33) (v := nI (64)) F (by decide) dX5_together_33 ?_
      refine js_icmp_geN (pc := 35) (a := k) (b := 64) (tgt := 89) F (by first | omega | exact Nat.lt_of_le_of_lt hz1 (by omega) | exact Nat.lt_of_le_of_lt hz2 (by omega)) (by decide) dX5_together_35 (by decide) (fun h35 => ?_) (fun h35 => ?_)
      · skip
        refine js_aload_n (pc := 89) 0 F rfl dX5_together_89 ?_
        refine js_aload_n (pc := 90) 0 F rfl dX5_together_90 ?_
        refine js_iload_n (pc := 91) 1 F rfl dX5_together_91 ?_
        refine js_calli (pc := 92) F (c_X5_bucketsOf _ hy (s := i) (by omega) (G := G1) (hS.co (hf 192 (by decide)))) mf_X5_bucketsOf gX5_together_X5_bucketsOf rfl (by decide) (by decide) (js_ct_M) rfl rfl rfl (Nat.le_of_ble_eq_true rfl) dX5_together_92 ?_
        rintro _ _ ⟨rfl, rfl⟩
        have hk64 : k = 64 := by omega
        have hR1 : ∀ b, b < 2 ^ (c.1.2 i).1 → G1 197 b = nI ((jm_mx (c.1.2 i).2.1 (c.1.2 i).2.1) b) := fun b hb => by rw [h1 b (by omega), if_pos (by omega)]; unfold jm_mx; rw [jz_lt hb]
        refine js_calli (pc := 95) F (c_X5_estimateBy _ hy (G := G1) (m := 2 ^ (c.1.2 i).1) (by omega) (rk := jm_mx (c.1.2 i).2.1 (c.1.2 i).2.1) hR1 (fun b hb => Nat.le_trans (jm_mx_le (hS.2.2.2.2.1 b hb) (by exact hS.2.2.2.2.1 b hb)) (by omega)) (by omega)) mf_X5_estimateBy gX5_together_X5_estimateBy rfl (by decide) (by decide) (js_ct_M) rfl rfl rfl (Nat.le_of_ble_eq_true rfl) dX5_together_95 ?_
        rintro _ _ ⟨rfl, rfl⟩
        refine js_iret (pc := 98) F hr (rfl) ?_ dX5_together_98
        show mP (mq_together c (nI i) (nI i), c) _ _ _
        rw [show mq_together c (nI i) (nI i) = nI (jm_est (jm_mx (c.1.2 i).2.1 (c.1.2 i).2.1) (2 ^ (c.1.2 i).1)) from by unfold mq_together; rw [if_neg (fun q => q.elim (jb_no hi (by decide)) (jb_no hi (by decide))), jx (by omega), if_neg (fun q => q rfl)]]
        exact ⟨rfl, hC.R hf, js_frM.R hf⟩
      · skip
        refine js_aload_n (pc := 38) 0 F rfl dX5_together_38 ?_
        refine jg_M_ranks (pc := 39) F in_X5_together_5 (lk_X5_together_fieldLink_RX5_25_JoinedSketchesModel_ranks_I) dX5_together_39 ?_
        refine js_iload (pc := 42) 4 F rfl dX5_together_42 ?_
        refine js_aload_n (pc := 44) 0 F rfl dX5_together_44 ?_
        refine js_iload_n (pc := 45) 2 F rfl dX5_together_45 ?_
        refine js_iconst (pc := 46) (v := nI (2)) F (by decide) dX5_together_46 ?_
        refine js_iload (pc := 47) 4 F rfl dX5_together_47 ?_
        refine js_iaddN (pc := 49) (a := 2) (b := k) F dX5_together_49 ?_
        refine js_calli (pc := 50) F (c_X5_part _ hy (G := G1) (s := i) (p := 2 + k) (by omega)) mf_X5_part gX5_together_X5_part rfl (by decide) (by decide) (js_ct_M) rfl rfl rfl (Nat.le_of_ble_eq_true rfl) dX5_together_50 ?_
        rintro _ _ ⟨hv50, rfl⟩
        rw [hv50, show G1 192 ((1 + 106 * i) + (2 + k)) = nI (jz ((c.1.2 i).1) ((c.1.2 i).2.1) (k)) from ((hS.co (hf 192 (by decide))).2.2.2.1 _ (by omega))]
        clear hv50
        refine js_aload_n (pc := 53) 0 F rfl dX5_together_53 ?_
        refine jg_M_ranks (pc := 54) F in_X5_together_5 (lk_X5_together_fieldLink_RX5_25_JoinedSketchesModel_ranks_I) dX5_together_54 ?_
        refine js_iload (pc := 57) 4 F rfl dX5_together_57 ?_
        refine js_iald (pc := 59) (j := k) (v := nI ((jz (c.1.2 i).1 (c.1.2 i).2.1) (k))) F (by decide) (js_ct_Mr) rfl (by omega) (by decide) ((h1 _ (by omega)).trans (congrArg nI (if_neg (Nat.lt_irrefl _)))) dX5_together_59 ?_
        have hz1 := jz_le hS.2.2.2.2.1 k
        have hz2 := jz_le hS.2.2.2.2.1 k
        refine js_icmp_leN (pc := 60) (a := jz ((c.1.2 i).1) ((c.1.2 i).2.1) (k)) (b := (jz (c.1.2 i).1 (c.1.2 i).2.1) (k)) (tgt := 75) F (by first | omega | exact Nat.lt_of_le_of_lt hz1 (by omega) | exact Nat.lt_of_le_of_lt hz2 (by omega)) (by first | omega | exact Nat.lt_of_le_of_lt hz1 (by omega) | exact Nat.lt_of_le_of_lt hz2 (by omega)) dX5_together_60 (by decide) (fun h60 => ?_) (fun h60 => ?_)
        · skip
          refine js_aload_n (pc := 75) 0 F rfl dX5_together_75 ?_
          refine jg_M_ranks (pc := 76) F in_X5_together_5 (lk_X5_together_fieldLink_RX5_25_JoinedSketchesModel_ranks_I) dX5_together_76 ?_
          refine js_iload (pc := 79) 4 F rfl dX5_together_79 ?_
          refine js_iald (pc := 81) (j := k) (v := nI ((jz (c.1.2 i).1 (c.1.2 i).2.1) (k))) F (by decide) (js_ct_Mr) rfl (by omega) (by decide) ((h1 _ (by omega)).trans (congrArg nI (if_neg (Nat.lt_irrefl _)))) dX5_together_81 ?_
          refine js_iast (pc := 82) (j := k) F (by decide) (fun _ => js_ct_Mr) rfl (by omega) (by decide) dX5_together_82 ?_
          refine js_iinc (pc := 83) (v := nI (k + 1)) (lv2 := [(0, .ref (js_ad y (191))), (1, .int (nI (i))), (2, .int (nI (i))), (3, .int ((-5))), (4, .int (nI (k + 1)))]) F dX5_together_83 4 rfl (nI_add _ _) (by decide) [1, 2, 3, 4, 0] rfl ?_
          refine js_goto (pc := 86) (tgt := 31) F dX5_together_86 (by decide) ?_
          exact ih31 (k + 1) (js_st G1 (197) (k) (nI ((jz (c.1.2 i).1 (c.1.2 i).2.1) (k)))) (by omega) (jl_st h1 (by unfold jm_mx; first | rw [if_pos h60] | rw [if_neg (Nat.not_lt.mpr h60)])) (hf.tr mfR.st) (by omega)
        · skip
          refine js_aload_n (pc := 63) 0 F rfl dX5_together_63 ?_
          refine js_iload_n (pc := 64) 2 F rfl dX5_together_64 ?_
          refine js_iconst (pc := 65) (v := nI (2)) F (by decide) dX5_together_65 ?_
          refine js_iload (pc := 66) 4 F rfl dX5_together_66 ?_
          refine js_iaddN (pc := 68) (a := 2) (b := k) F dX5_together_68 ?_
          refine js_calli (pc := 69) F (c_X5_part _ hy (G := G1) (s := i) (p := 2 + k) (by omega)) mf_X5_part gX5_together_X5_part rfl (by decide) (by decide) (js_ct_M) rfl rfl rfl (Nat.le_of_ble_eq_true rfl) dX5_together_69 ?_
          rintro _ _ ⟨hv69, rfl⟩
          rw [hv69, show G1 192 ((1 + 106 * i) + (2 + k)) = nI (jz ((c.1.2 i).1) ((c.1.2 i).2.1) (k)) from ((hS.co (hf 192 (by decide))).2.2.2.1 _ (by omega))]
          clear hv69
          refine js_goto (pc := 72) (tgt := 82) F dX5_together_72 (by decide) ?_
          refine js_iast (pc := 82) (j := k) F (by decide) (fun _ => js_ct_Mr) rfl (by omega) (by decide) dX5_together_82 ?_
          refine js_iinc (pc := 83) (v := nI (k + 1)) (lv2 := [(0, .ref (js_ad y (191))), (1, .int (nI (i))), (2, .int (nI (i))), (3, .int ((-5))), (4, .int (nI (k + 1)))]) F dX5_together_83 4 rfl (nI_add _ _) (by decide) [1, 2, 3, 4, 0] rfl ?_
          refine js_goto (pc := 86) (tgt := 31) F dX5_together_86 (by decide) ?_
          exact ih31 (k + 1) (js_st G1 (197) (k) (nI (jz ((c.1.2 i).1) ((c.1.2 i).2.1) (k)))) (by omega) (jl_st h1 (by unfold jm_mx; first | rw [if_pos h60] | rw [if_neg (Nat.not_lt.mpr h60)])) (hf.tr mfR.st) (by omega)
  exact L31 (_ + 1) 0 G25 (by decide) (fun b hb => by rw [if_neg (Nat.not_lt_zero _)]; exact t25 b hb) (f25) (Nat.lt_succ_self _)
set_option maxHeartbeats 4000000 in
set_option maxRecDepth 100000 in
theorem c_X5_alike_3 (la : Launch) {y : js_L} (hy : js_Dy y) {G : js_G} {c : js_C} (hC : mr_C G c) {i : Nat} (hi : i < 6) {i2 : Nat} (hi2 : i2 < 6) (hne : i ≠ i2) (hn : (c.1.2 i).1 = (c.1.2 i2).1) : js_Ci la y yX5_alike wsX5_alike 4 76 [.ref (js_ad y (191)), .int (nI (i)), .int (nI (i2))] G (fun r G' => mP (mq_alike c (nI i) (nI i2), c) r G G') := by
  have hS : mr_K G 192 (1 + 106 * i) (c.1.2 i) := hC.K hi
  have hp : 2 ^ (c.1.2 i).1 ≤ 64 := jm_p6 hS.2.1
  have hp1 := jm_p1 (c.1.2 i).1
  have hB6 := hS.2.1
  have hB2 := hS.1
  have hs6 := hC.1.2.1
  have hS2 : mr_K G 192 (1 + 106 * i2) (c.1.2 i2) := hC.K hi2
  have hB26 := hS2.2.1
  refine js_ofi mf_X5_alike (Nat.le_of_ble_eq_true rfl) hy (fun X F hr => ?_)
  replace F : js_F X y cX5_alike 6 RX5 wsX5_alike 4 76 := F
  show js_W X y 6 _ G 0 [(0, .ref (js_ad y (191))), (1, .int (nI (i))), (2, .int (nI (i2)))] []
  refine js_aload_n (pc := 0) 0 F rfl dX5_alike_0 ?_
  refine js_iload_n (pc := 1) 1 F rfl dX5_alike_1 ?_
  refine js_iload_n (pc := 2) 2 F rfl dX5_alike_2 ?_
  refine js_calli (pc := 3) F (c_X5_whyNotJoined_2 _ hy hC.1 (i := i) (by omega) (i2 := i2) (by omega)) mf_X5_whyNotJoined gX5_alike_X5_whyNotJoined rfl (by decide) (by decide) (js_ct_M) rfl rfl rfl (Nat.le_of_ble_eq_true rfl) dX5_alike_3 ?_
  rintro _ _ ⟨rfl, rfl⟩
  rw [if_pos ⟨hne, hn⟩]
  refine js_istore_n (pc := 6) (lv2 := [(0, .ref (js_ad y (191))), (1, .int (nI (i))), (2, .int (nI (i2))), (3, .int (nI (0)))]) F dX5_alike_6 (by decide) [1, 2, 3, 0] rfl ?_
  refine js_iload_n (pc := 7) 3 F rfl dX5_alike_7 ?_
  refine js_if_geN (pc := 8) (a := 0) (tgt := 23) F (by decide) dX5_alike_8 (by decide) (fun _ => ?_) (fun h8 => by exfalso; revert h8; decide)
  refine js_iconst (pc := 23) (v := nI (0)) F (by decide) dX5_alike_23 ?_
  refine js_istore (pc := 24) (lv2 := [(0, .ref (js_ad y (191))), (1, .int (nI (i))), (2, .int (nI (i2))), (3, .int (nI (0))), (4, .int (nI (0)))]) F dX5_alike_24 (by decide) [1, 2, 3, 4, 0] rfl ?_
  refine js_iconst (pc := 26) (v := nI (0)) F (by decide) dX5_alike_26 ?_
  refine js_istore (pc := 27) (lv2 := [(0, .ref (js_ad y (191))), (1, .int (nI (i))), (2, .int (nI (i2))), (3, .int (nI (0))), (4, .int (nI (0))), (5, .int (nI (0)))]) F dX5_alike_27 (by decide) [1, 2, 3, 4, 5, 0] rfl ?_
  have L29 : ∀ (fu29 : Nat) (b : Nat) (a : Nat) (hb : b ≤ 2 ^ (c.1.2 i).1) (ha : a = jm_sum (fun b => if (c.1.2 i).2.1 b = (c.1.2 i2).2.1 b then 1 else 0) b) (hfu29 : 2 ^ (c.1.2 i).1 - b < fu29), js_W X y 6 (js_Qi X y (fun r G' => mP (mq_alike c (nI i) (nI i2), c) r G G')) G 29 [(0, .ref (js_ad y (191))), (1, .int (nI (i))), (2, .int (nI (i2))), (3, .int (nI (0))), (4, .int (nI (a))), (5, .int (nI (b)))] [] := by
    intro fu29
    induction fu29 with
    | zero => intro b a hb ha hfu29; exact absurd hfu29 (Nat.not_lt_zero _)
    | succ fu29 ih29 =>
      intro b a hb ha hfu29
      refine js_iload (pc := 29) 5 F rfl dX5_alike_29 ?_
      refine js_aload_n (pc := 31) 0 F rfl dX5_alike_31 ?_
      refine js_iload_n (pc := 32) 1 F rfl dX5_alike_32 ?_
      refine js_calli (pc := 33) F (c_X5_bucketsOf _ hy (s := i) (by omega) (G := G) (hS)) mf_X5_bucketsOf gX5_alike_X5_bucketsOf rfl (by decide) (by decide) (js_ct_M) rfl rfl rfl (Nat.le_of_ble_eq_true rfl) dX5_alike_33 ?_
      rintro _ _ ⟨rfl, rfl⟩
      refine js_icmp_geN (pc := 36) (a := b) (b := 2 ^ ((c.1.2 i).1)) (tgt := 76) F (by first | omega | (have := hS.2.2.2.2.1 b (by omega); omega) | (have := hS2.2.2.2.2.1 b (by rw [← hn]; omega); omega)) (by first | omega | (have := hS.2.2.2.2.1 b (by omega); omega) | (have := hS2.2.2.2.2.1 b (by rw [← hn]; omega); omega)) dX5_alike_36 (by decide) (fun h36 => ?_) (fun h36 => ?_)
      · skip
        refine js_iload (pc := 76) 4 F rfl dX5_alike_76 ?_
        refine js_aload_n (pc := 78) 0 F rfl dX5_alike_78 ?_
        refine js_iload_n (pc := 79) 1 F rfl dX5_alike_79 ?_
        refine js_iconst (pc := 80) (v := nI (0)) F (by decide) dX5_alike_80 ?_
        refine js_calli (pc := 81) F (c_X5_part _ hy (G := G) (s := i) (p := 0) (by omega)) mf_X5_part gX5_alike_X5_part rfl (by decide) (by decide) (js_ct_M) rfl rfl rfl (Nat.le_of_ble_eq_true rfl) dX5_alike_81 ?_
        rintro _ _ ⟨hv81, rfl⟩
        rw [hv81, show G 192 ((1 + 106 * i) + 0) = nI ((c.1.2 i).1) from (hS.2.2.1)]
        clear hv81
        have hsm := jm_same_le (c.1.2 i) (c.1.2 i2)
        have hae : a = jm_same (c.1.2 i) (c.1.2 i2) := by rw [ha, show b = 2 ^ (c.1.2 i).1 by omega]; rfl
        refine js_callsi (pc := 84) F (c_X5_shareBits _ hy (m := a) (B := (c.1.2 i).1) (by omega) (by omega)) mf_X5_shareBits gX5_alike_X5_shareBits (by decide) rfl rfl (Nat.le_of_ble_eq_true rfl) dX5_alike_84 ?_
        rintro _ _ ⟨rfl, rfl⟩
        refine js_iret (pc := 87) F hr (rfl) ?_ dX5_alike_87
        show mP (mq_alike c (nI i) (nI i2), c) _ _ _
        rw [show mq_alike c (nI i) (nI i2) = jm_share (jm_same (c.1.2 i) (c.1.2 i2)) (c.1.2 i).1 from by unfold mq_alike; rw [if_neg (fun q => q.elim (jb_no hi (by decide)) (jb_no hi2 (by decide))), jx (by omega), jx (by omega), if_neg (fun q => q hn)]]
        exact ⟨by rw [hae], hC, js_frM.rf⟩
      · skip
        refine js_iload (pc := 39) 4 F rfl dX5_alike_39 ?_
        refine js_aload_n (pc := 41) 0 F rfl dX5_alike_41 ?_
        refine js_iload_n (pc := 42) 1 F rfl dX5_alike_42 ?_
        refine js_iconst (pc := 43) (v := nI (2)) F (by decide) dX5_alike_43 ?_
        refine js_iload (pc := 44) 5 F rfl dX5_alike_44 ?_
        refine js_iaddN (pc := 46) (a := 2) (b := b) F dX5_alike_46 ?_
        refine js_calli (pc := 47) F (c_X5_part _ hy (G := G) (s := i) (p := 2 + b) (by omega)) mf_X5_part gX5_alike_X5_part rfl (by decide) (by decide) (js_ct_M) rfl rfl rfl (Nat.le_of_ble_eq_true rfl) dX5_alike_47 ?_
        rintro _ _ ⟨hv47, rfl⟩
        rw [hv47, show G 192 ((1 + 106 * i) + (2 + b)) = nI (((c.1.2 i).2.1) (b)) from ((hS.2.2.2.1 _ (by omega)).trans (congrArg nI (jz_lt (by omega))))]
        clear hv47
        refine js_aload_n (pc := 50) 0 F rfl dX5_alike_50 ?_
        refine js_iload_n (pc := 51) 2 F rfl dX5_alike_51 ?_
        refine js_iconst (pc := 52) (v := nI (2)) F (by decide) dX5_alike_52 ?_
        refine js_iload (pc := 53) 5 F rfl dX5_alike_53 ?_
        refine js_iaddN (pc := 55) (a := 2) (b := b) F dX5_alike_55 ?_
        refine js_calli (pc := 56) F (c_X5_part _ hy (G := G) (s := i2) (p := 2 + b) (by omega)) mf_X5_part gX5_alike_X5_part rfl (by decide) (by decide) (js_ct_M) rfl rfl rfl (Nat.le_of_ble_eq_true rfl) dX5_alike_56 ?_
        rintro _ _ ⟨hv56, rfl⟩
        rw [hv56, show G 192 ((1 + 106 * i2) + (2 + b)) = nI ((c.1.2 i2).2.1 (b)) from ((hS2.2.2.2.1 _ (by omega)).trans (congrArg nI (jz_lt (by rw [← hn]; omega))))]
        clear hv56
        refine js_icmp_neN (pc := 59) (a := ((c.1.2 i).2.1) (b)) (b := (c.1.2 i2).2.1 (b)) (tgt := 66) F (by first | omega | (have := hS.2.2.2.2.1 b (by omega); omega) | (have := hS2.2.2.2.2.1 b (by rw [← hn]; omega); omega)) (by first | omega | (have := hS.2.2.2.2.1 b (by omega); omega) | (have := hS2.2.2.2.2.1 b (by rw [← hn]; omega); omega)) dX5_alike_59 (by decide) (fun h59 => ?_) (fun h59 => ?_)
        · skip
          refine js_iconst (pc := 66) (v := nI (0)) F (by decide) dX5_alike_66 ?_
          refine js_iaddN (pc := 67) (a := a) (b := 0) F dX5_alike_67 ?_
          refine js_istore (pc := 68) (lv2 := [(0, .ref (js_ad y (191))), (1, .int (nI (i))), (2, .int (nI (i2))), (3, .int (nI (0))), (4, .int (nI (a + 0))), (5, .int (nI (b)))]) F dX5_alike_68 (by decide) [1, 2, 3, 4, 0, 5] rfl ?_
          refine js_iinc (pc := 70) (v := nI (b + 1)) (lv2 := [(0, .ref (js_ad y (191))), (1, .int (nI (i))), (2, .int (nI (i2))), (3, .int (nI (0))), (4, .int (nI (a + 0))), (5, .int (nI (b + 1)))]) F dX5_alike_70 5 rfl (nI_add _ _) (by decide) [1, 2, 3, 4, 5, 0] rfl ?_
          refine js_goto (pc := 73) (tgt := 29) F dX5_alike_73 (by decide) ?_
          exact ih29 (b + 1) (a + 0) (by omega) (by first | exact absurd rfl h59 | (rw [jm_sum, ← ha, if_pos h59]; done) | (rw [jm_sum, ← ha, if_neg h59]; done)) (by omega)
        · skip
          refine js_iconst (pc := 62) (v := nI (1)) F (by decide) dX5_alike_62 ?_
          refine js_goto (pc := 63) (tgt := 67) F dX5_alike_63 (by decide) ?_
          refine js_iaddN (pc := 67) (a := a) (b := 1) F dX5_alike_67 ?_
          refine js_istore (pc := 68) (lv2 := [(0, .ref (js_ad y (191))), (1, .int (nI (i))), (2, .int (nI (i2))), (3, .int (nI (0))), (4, .int (nI (a + 1))), (5, .int (nI (b)))]) F dX5_alike_68 (by decide) [1, 2, 3, 4, 0, 5] rfl ?_
          refine js_iinc (pc := 70) (v := nI (b + 1)) (lv2 := [(0, .ref (js_ad y (191))), (1, .int (nI (i))), (2, .int (nI (i2))), (3, .int (nI (0))), (4, .int (nI (a + 1))), (5, .int (nI (b + 1)))]) F dX5_alike_70 5 rfl (nI_add _ _) (by decide) [1, 2, 3, 4, 5, 0] rfl ?_
          refine js_goto (pc := 73) (tgt := 29) F dX5_alike_73 (by decide) ?_
          exact ih29 (b + 1) (a + 1) (by omega) (by first | exact absurd rfl h59 | (rw [jm_sum, ← ha, if_pos h59]; done) | (rw [jm_sum, ← ha, if_neg h59]; done)) (by omega)
  exact L29 (_ + 1) 0 0 (Nat.zero_le _) (rfl) (Nat.lt_succ_self _)
set_option maxHeartbeats 4000000 in
set_option maxRecDepth 100000 in
theorem c_X5_alike_3e (la : Launch) {y : js_L} (hy : js_Dy y) {G : js_G} {c : js_C} (hC : mr_C G c) {i : Nat} (hi : i < 6) : js_Ci la y yX5_alike wsX5_alike 4 76 [.ref (js_ad y (191)), .int (nI (i)), .int (nI (i))] G (fun r G' => mP (mq_alike c (nI i) (nI i), c) r G G') := by
  have hS : mr_K G 192 (1 + 106 * i) (c.1.2 i) := hC.K hi
  have hp : 2 ^ (c.1.2 i).1 ≤ 64 := jm_p6 hS.2.1
  have hp1 := jm_p1 (c.1.2 i).1
  have hB6 := hS.2.1
  have hB2 := hS.1
  have hs6 := hC.1.2.1
  refine js_ofi mf_X5_alike (Nat.le_of_ble_eq_true rfl) hy (fun X F hr => ?_)
  replace F : js_F X y cX5_alike 6 RX5 wsX5_alike 4 76 := F
  show js_W X y 6 _ G 0 [(0, .ref (js_ad y (191))), (1, .int (nI (i))), (2, .int (nI (i)))] []
  refine js_aload_n (pc := 0) 0 F rfl dX5_alike_0 ?_
  refine js_iload_n (pc := 1) 1 F rfl dX5_alike_1 ?_
  refine js_iload_n (pc := 2) 2 F rfl dX5_alike_2 ?_
  refine js_calli (pc := 3) F (c_X5_whyNotJoined_2 _ hy hC.1 (i := i) (by omega) (i2 := i) (by omega)) mf_X5_whyNotJoined gX5_alike_X5_whyNotJoined rfl (by decide) (by decide) (js_ct_M) rfl rfl rfl (Nat.le_of_ble_eq_true rfl) dX5_alike_3 ?_
  rintro _ _ ⟨rfl, rfl⟩
  rw [if_neg (fun q => q.1 rfl)]
  refine js_istore_n (pc := 6) (lv2 := [(0, .ref (js_ad y (191))), (1, .int (nI (i))), (2, .int (nI (i))), (3, .int ((-5)))]) F dX5_alike_6 (by decide) [1, 2, 3, 0] rfl ?_
  refine js_iload_n (pc := 7) 3 F rfl dX5_alike_7 ?_
  refine js_if_ge (pc := 8) (tgt := 23) F dX5_alike_8 (by decide) (fun h8 => absurd h8 (by decide)) (fun _ => ?_)
  refine js_iload_n (pc := 11) 3 F rfl dX5_alike_11 ?_
  refine js_iconst (pc := 12) (v := (-1)) F (by decide) dX5_alike_12 ?_
  refine js_icmp_eq (pc := 13) (tgt := 21) F dX5_alike_13 (by decide) (fun h13 => by exact absurd h13 (by decide)) (fun h13 => ?_)
  refine js_iload_n (pc := 16) 1 F rfl dX5_alike_16 ?_
  refine js_iload_n (pc := 17) 2 F rfl dX5_alike_17 ?_
  refine js_icmp_eqN (pc := 18) (a := i) (b := i) (tgt := 23) F (by first | omega | (have := hS.2.2.2.2.1 b (by omega); omega) | (have := hS.2.2.2.2.1 b (by omega); omega)) (by first | omega | (have := hS.2.2.2.2.1 b (by omega); omega) | (have := hS.2.2.2.2.1 b (by omega); omega)) dX5_alike_18 (by decide) (fun h18 => ?_) (fun h18 => by exact absurd rfl h18)
  refine js_iconst (pc := 23) (v := nI (0)) F (by decide) dX5_alike_23 ?_
  refine js_istore (pc := 24) (lv2 := [(0, .ref (js_ad y (191))), (1, .int (nI (i))), (2, .int (nI (i))), (3, .int ((-5))), (4, .int (nI (0)))]) F dX5_alike_24 (by decide) [1, 2, 3, 4, 0] rfl ?_
  refine js_iconst (pc := 26) (v := nI (0)) F (by decide) dX5_alike_26 ?_
  refine js_istore (pc := 27) (lv2 := [(0, .ref (js_ad y (191))), (1, .int (nI (i))), (2, .int (nI (i))), (3, .int ((-5))), (4, .int (nI (0))), (5, .int (nI (0)))]) F dX5_alike_27 (by decide) [1, 2, 3, 4, 5, 0] rfl ?_
  have L29 : ∀ (fu29 : Nat) (b : Nat) (a : Nat) (hb : b ≤ 2 ^ (c.1.2 i).1) (ha : a = jm_sum (fun b => if (c.1.2 i).2.1 b = (c.1.2 i).2.1 b then 1 else 0) b) (hfu29 : 2 ^ (c.1.2 i).1 - b < fu29), js_W X y 6 (js_Qi X y (fun r G' => mP (mq_alike c (nI i) (nI i), c) r G G')) G 29 [(0, .ref (js_ad y (191))), (1, .int (nI (i))), (2, .int (nI (i))), (3, .int ((-5))), (4, .int (nI (a))), (5, .int (nI (b)))] [] := by
    intro fu29
    induction fu29 with
    | zero => intro b a hb ha hfu29; exact absurd hfu29 (Nat.not_lt_zero _)
    | succ fu29 ih29 =>
      intro b a hb ha hfu29
      refine js_iload (pc := 29) 5 F rfl dX5_alike_29 ?_
      refine js_aload_n (pc := 31) 0 F rfl dX5_alike_31 ?_
      refine js_iload_n (pc := 32) 1 F rfl dX5_alike_32 ?_
      refine js_calli (pc := 33) F (c_X5_bucketsOf _ hy (s := i) (by omega) (G := G) (hS)) mf_X5_bucketsOf gX5_alike_X5_bucketsOf rfl (by decide) (by decide) (js_ct_M) rfl rfl rfl (Nat.le_of_ble_eq_true rfl) dX5_alike_33 ?_
      rintro _ _ ⟨rfl, rfl⟩
      refine js_icmp_geN (pc := 36) (a := b) (b := 2 ^ ((c.1.2 i).1)) (tgt := 76) F (by first | omega | (have := hS.2.2.2.2.1 b (by omega); omega) | (have := hS.2.2.2.2.1 b (by omega); omega)) (by first | omega | (have := hS.2.2.2.2.1 b (by omega); omega) | (have := hS.2.2.2.2.1 b (by omega); omega)) dX5_alike_36 (by decide) (fun h36 => ?_) (fun h36 => ?_)
      · skip
        refine js_iload (pc := 76) 4 F rfl dX5_alike_76 ?_
        refine js_aload_n (pc := 78) 0 F rfl dX5_alike_78 ?_
        refine js_iload_n (pc := 79) 1 F rfl dX5_alike_79 ?_
        refine js_iconst (pc := 80) (v := nI (0)) F (by decide) dX5_alike_80 ?_
        refine js_calli (pc := 81) F (c_X5_part _ hy (G := G) (s := i) (p := 0) (by omega)) mf_X5_part gX5_alike_X5_part rfl (by decide) (by decide) (js_ct_M) rfl rfl rfl (Nat.le_of_ble_eq_true rfl) dX5_alike_81 ?_
        rintro _ _ ⟨hv81, rfl⟩
        rw [hv81, show G 192 ((1 + 106 * i) + 0) = nI ((c.1.2 i).1) from (hS.2.2.1)]
        clear hv81
        have hsm := jm_same_le (c.1.2 i) (c.1.2 i)
        have hae : a = jm_same (c.1.2 i) (c.1.2 i) := by rw [ha, show b = 2 ^ (c.1.2 i).1 by omega]; rfl
        refine js_callsi (pc := 84) F (c_X5_shareBits _ hy (m := a) (B := (c.1.2 i).1) (by omega) (by omega)) mf_X5_shareBits gX5_alike_X5_shareBits (by decide) rfl rfl (Nat.le_of_ble_eq_true rfl) dX5_alike_84 ?_
        rintro _ _ ⟨rfl, rfl⟩
        refine js_iret (pc := 87) F hr (rfl) ?_ dX5_alike_87
        show mP (mq_alike c (nI i) (nI i), c) _ _ _
        rw [show mq_alike c (nI i) (nI i) = jm_share (jm_same (c.1.2 i) (c.1.2 i)) (c.1.2 i).1 from by unfold mq_alike; rw [if_neg (fun q => q.elim (jb_no hi (by decide)) (jb_no hi (by decide))), jx (by omega), if_neg (fun q => q rfl)]]
        exact ⟨by rw [hae], hC, js_frM.rf⟩
      · skip
        refine js_iload (pc := 39) 4 F rfl dX5_alike_39 ?_
        refine js_aload_n (pc := 41) 0 F rfl dX5_alike_41 ?_
        refine js_iload_n (pc := 42) 1 F rfl dX5_alike_42 ?_
        refine js_iconst (pc := 43) (v := nI (2)) F (by decide) dX5_alike_43 ?_
        refine js_iload (pc := 44) 5 F rfl dX5_alike_44 ?_
        refine js_iaddN (pc := 46) (a := 2) (b := b) F dX5_alike_46 ?_
        refine js_calli (pc := 47) F (c_X5_part _ hy (G := G) (s := i) (p := 2 + b) (by omega)) mf_X5_part gX5_alike_X5_part rfl (by decide) (by decide) (js_ct_M) rfl rfl rfl (Nat.le_of_ble_eq_true rfl) dX5_alike_47 ?_
        rintro _ _ ⟨hv47, rfl⟩
        rw [hv47, show G 192 ((1 + 106 * i) + (2 + b)) = nI (((c.1.2 i).2.1) (b)) from ((hS.2.2.2.1 _ (by omega)).trans (congrArg nI (jz_lt (by omega))))]
        clear hv47
        refine js_aload_n (pc := 50) 0 F rfl dX5_alike_50 ?_
        refine js_iload_n (pc := 51) 2 F rfl dX5_alike_51 ?_
        refine js_iconst (pc := 52) (v := nI (2)) F (by decide) dX5_alike_52 ?_
        refine js_iload (pc := 53) 5 F rfl dX5_alike_53 ?_
        refine js_iaddN (pc := 55) (a := 2) (b := b) F dX5_alike_55 ?_
        refine js_calli (pc := 56) F (c_X5_part _ hy (G := G) (s := i) (p := 2 + b) (by omega)) mf_X5_part gX5_alike_X5_part rfl (by decide) (by decide) (js_ct_M) rfl rfl rfl (Nat.le_of_ble_eq_true rfl) dX5_alike_56 ?_
        rintro _ _ ⟨hv56, rfl⟩
        rw [hv56, show G 192 ((1 + 106 * i) + (2 + b)) = nI ((c.1.2 i).2.1 (b)) from ((hS.2.2.2.1 _ (by omega)).trans (congrArg nI (jz_lt (by omega))))]
        clear hv56
        refine js_icmp_neN (pc := 59) (a := ((c.1.2 i).2.1) (b)) (b := (c.1.2 i).2.1 (b)) (tgt := 66) F (by first | omega | (have := hS.2.2.2.2.1 b (by omega); omega) | (have := hS.2.2.2.2.1 b (by omega); omega)) (by first | omega | (have := hS.2.2.2.2.1 b (by omega); omega) | (have := hS.2.2.2.2.1 b (by omega); omega)) dX5_alike_59 (by decide) (fun h59 => ?_) (fun h59 => ?_)
        · skip
          refine js_iconst (pc := 66) (v := nI (0)) F (by decide) dX5_alike_66 ?_
          refine js_iaddN (pc := 67) (a := a) (b := 0) F dX5_alike_67 ?_
          refine js_istore (pc := 68) (lv2 := [(0, .ref (js_ad y (191))), (1, .int (nI (i))), (2, .int (nI (i))), (3, .int ((-5))), (4, .int (nI (a + 0))), (5, .int (nI (b)))]) F dX5_alike_68 (by decide) [1, 2, 3, 4, 0, 5] rfl ?_
          refine js_iinc (pc := 70) (v := nI (b + 1)) (lv2 := [(0, .ref (js_ad y (191))), (1, .int (nI (i))), (2, .int (nI (i))), (3, .int ((-5))), (4, .int (nI (a + 0))), (5, .int (nI (b + 1)))]) F dX5_alike_70 5 rfl (nI_add _ _) (by decide) [1, 2, 3, 4, 5, 0] rfl ?_
          refine js_goto (pc := 73) (tgt := 29) F dX5_alike_73 (by decide) ?_
          exact ih29 (b + 1) (a + 0) (by omega) (by first | exact absurd rfl h59 | (rw [jm_sum, ← ha, if_pos h59]; done) | (rw [jm_sum, ← ha, if_neg h59]; done)) (by omega)
        · skip
          refine js_iconst (pc := 62) (v := nI (1)) F (by decide) dX5_alike_62 ?_
          refine js_goto (pc := 63) (tgt := 67) F dX5_alike_63 (by decide) ?_
          refine js_iaddN (pc := 67) (a := a) (b := 1) F dX5_alike_67 ?_
          refine js_istore (pc := 68) (lv2 := [(0, .ref (js_ad y (191))), (1, .int (nI (i))), (2, .int (nI (i))), (3, .int ((-5))), (4, .int (nI (a + 1))), (5, .int (nI (b)))]) F dX5_alike_68 (by decide) [1, 2, 3, 4, 0, 5] rfl ?_
          refine js_iinc (pc := 70) (v := nI (b + 1)) (lv2 := [(0, .ref (js_ad y (191))), (1, .int (nI (i))), (2, .int (nI (i))), (3, .int ((-5))), (4, .int (nI (a + 1))), (5, .int (nI (b + 1)))]) F dX5_alike_70 5 rfl (nI_add _ _) (by decide) [1, 2, 3, 4, 5, 0] rfl ?_
          refine js_goto (pc := 73) (tgt := 29) F dX5_alike_73 (by decide) ?_
          exact ih29 (b + 1) (a + 1) (by omega) (by first | exact absurd rfl h59 | (rw [jm_sum, ← ha, if_pos h59]; done) | (rw [jm_sum, ← ha, if_neg h59]; done)) (by omega)
  exact L29 (_ + 1) 0 0 (Nat.zero_le _) (rfl) (Nat.lt_succ_self _)
theorem mf_X5_off : js_M yX5_off cX5_off 2 (some .int) wsX5_off 1 := ⟨⟨_, rfl⟩, by decide +kernel, by decide +kernel, by decide +kernel, by decide +kernel⟩
set_option maxHeartbeats 4000000 in
set_option maxRecDepth 100000 in
theorem c_X5_off_1 (la : Launch) {y : js_L} (hy : js_Dy y) {G : js_G} {c : js_C} (hC : mr_C G c) {x : Int32} (hx : jb x 6) : js_Ci la y yX5_off wsX5_off 5 102 [.ref (js_ad y (191)), .int (x)] G (fun r G' => mP (mq_off c x, c) r G G') := by
  refine js_ofi mf_X5_off (Nat.le_of_ble_eq_true rfl) hy (fun X F hr => ?_)
  replace F : js_F X y cX5_off 2 RX5 wsX5_off 5 102 := F
  show js_W X y 2 _ G 0 [(0, .ref (js_ad y (191))), (1, .int (x))] []
  refine js_iload_n (pc := 0) 1 F rfl dX5_off_0 ?_
  refine js_callsi (pc := 1) F (c_X5_isSketch _ hy (x := x)) mf_X5_isSketch gX5_off_X5_isSketch (by decide) rfl rfl (Nat.le_of_ble_eq_true rfl) dX5_off_1 ?_
  rintro _ _ ⟨rfl, rfl⟩
  refine js_if_neB (pc := 4) (tgt := 9) F dX5_off_4 (by decide) (fun h4 => by exact absurd hx h4) (fun h4 => ?_)
  refine js_iconst (pc := 7) (v := (-1)) F (by decide) dX5_off_7 ?_
  refine js_iret (pc := 8) F hr (rfl) ?_ dX5_off_8
  show mP (mq_off c x, c) _ _ _
  rw [show mq_off c x = -1 from if_pos hx]
  exact ⟨rfl, hC, js_frM.rf⟩
set_option maxHeartbeats 4000000 in
set_option maxRecDepth 100000 in
theorem c_X5_off_2 (la : Launch) {y : js_L} (hy : js_Dy y) {G : js_G} {c : js_C} (hC : mr_C G c) {i : Nat} (hi : i < 6) (hq : (c.1.2 i).2.2 = none)  : js_Ci la y yX5_off wsX5_off 5 102 [.ref (js_ad y (191)), .int (nI (i))] G (fun r G' => mP (mq_off c (nI i), c) r G G') := by
  have hS : mr_K G 192 (1 + 106 * i) (c.1.2 i) := hC.K hi
  have hp : 2 ^ (c.1.2 i).1 ≤ 64 := jm_p6 hS.2.1
  have hp1 := jm_p1 (c.1.2 i).1
  have hB6 := hS.2.1
  have hB2 := hS.1
  have hs6 := hC.1.2.1
  have hS0 : mr_S G 192 (1 + 106 * i) (c.1.2 i).1 (c.1.2 i).2.1 none := hq ▸ hS
  refine js_ofi mf_X5_off (Nat.le_of_ble_eq_true rfl) hy (fun X F hr => ?_)
  replace F : js_F X y cX5_off 2 RX5 wsX5_off 5 102 := F
  show js_W X y 2 _ G 0 [(0, .ref (js_ad y (191))), (1, .int (nI (i)))] []
  refine js_iload_n (pc := 0) 1 F rfl dX5_off_0 ?_
  refine js_callsi (pc := 1) F (c_X5_isSketch _ hy (x := nI (i))) mf_X5_isSketch gX5_off_X5_isSketch (by decide) rfl rfl (Nat.le_of_ble_eq_true rfl) dX5_off_1 ?_
  rintro _ _ ⟨rfl, rfl⟩
  refine js_if_neB (pc := 4) (tgt := 9) F dX5_off_4 (by decide) (fun h4 => ?_) (fun h4 => by exact absurd (jb_no hi (by decide)) h4)
  refine js_aload_n (pc := 9) 0 F rfl dX5_off_9 ?_
  refine js_iload_n (pc := 10) 1 F rfl dX5_off_10 ?_
  refine js_calli (pc := 11) F (c_X5_isFull_n _ hy (s := i) (by omega) (G := G) (hS0)) mf_X5_isFull gX5_off_X5_isFull rfl (by decide) (by decide) (js_ct_M) rfl rfl rfl (Nat.le_of_ble_eq_true rfl) dX5_off_11 ?_
  rintro _ _ ⟨rfl, rfl⟩
  refine js_if_eqN (pc := 14) (a := 1) (tgt := 22) F (by decide) dX5_off_14 (by decide) (fun h14 => by exfalso; revert h14; decide) (fun _ => ?_)
  refine js_bipush (pc := 17) (v := (-5)) F (by decide) dX5_off_17 ?_
  refine js_goto (pc := 19) (tgt := 37) F dX5_off_19 (by decide) ?_
  refine js_iret (pc := 37) F hr (rfl) ?_ dX5_off_37
  show mP (mq_off c (nI i), c) _ _ _
  rw [show mq_off c (nI i) = -5 from by unfold mq_off; rw [if_neg (jb_no hi (by decide)), jx (by omega)]; unfold jm_ofL; rw [hq]]
  exact ⟨rfl, hC, js_frM.rf⟩
theorem lk_X5_off_constant_RX5_133_100000 : Cond.constant RX5 133 (100000) ∈ wsX5_off := by decide +kernel
set_option maxHeartbeats 4000000 in
set_option maxRecDepth 100000 in
theorem c_X5_off_3 (la : Launch) {y : js_L} (hy : js_Dy y) {G : js_G} {c : js_C} (hC : mr_C G c) {i : Nat} (hi : i < 6) {l : List Nat} (hq : (c.1.2 i).2.2 = some l) : js_Ci la y yX5_off wsX5_off 5 102 [.ref (js_ad y (191)), .int (nI (i))] G (fun r G' => mP (mq_off c (nI i), c) r G G') := by
  have hS : mr_K G 192 (1 + 106 * i) (c.1.2 i) := hC.K hi
  have hp : 2 ^ (c.1.2 i).1 ≤ 64 := jm_p6 hS.2.1
  have hp1 := jm_p1 (c.1.2 i).1
  have hB6 := hS.2.1
  have hB2 := hS.1
  have hs6 := hC.1.2.1
  have hS0 : mr_S G 192 (1 + 106 * i) (c.1.2 i).1 (c.1.2 i).2.1 (some l) := hq ▸ hS
  have hlen := hS0.2.2.2.2.2.2.1
  refine js_ofi mf_X5_off (Nat.le_of_ble_eq_true rfl) hy (fun X F hr => ?_)
  replace F : js_F X y cX5_off 2 RX5 wsX5_off 5 102 := F
  show js_W X y 2 _ G 0 [(0, .ref (js_ad y (191))), (1, .int (nI (i)))] []
  refine js_iload_n (pc := 0) 1 F rfl dX5_off_0 ?_
  refine js_callsi (pc := 1) F (c_X5_isSketch _ hy (x := nI (i))) mf_X5_isSketch gX5_off_X5_isSketch (by decide) rfl rfl (Nat.le_of_ble_eq_true rfl) dX5_off_1 ?_
  rintro _ _ ⟨rfl, rfl⟩
  refine js_if_neB (pc := 4) (tgt := 9) F dX5_off_4 (by decide) (fun h4 => ?_) (fun h4 => by exact absurd (jb_no hi (by decide)) h4)
  refine js_aload_n (pc := 9) 0 F rfl dX5_off_9 ?_
  refine js_iload_n (pc := 10) 1 F rfl dX5_off_10 ?_
  refine js_calli (pc := 11) F (c_X5_isFull_s _ hy (s := i) (by omega) (G := G) (hS0)) mf_X5_isFull gX5_off_X5_isFull rfl (by decide) (by decide) (js_ct_M) rfl rfl rfl (Nat.le_of_ble_eq_true rfl) dX5_off_11 ?_
  rintro _ _ ⟨rfl, rfl⟩
  refine js_if_eqN (pc := 14) (a := 0) (tgt := 22) F (by decide) dX5_off_14 (by decide) (fun _ => ?_) (fun h14 => by exfalso; revert h14; decide)
  refine js_aload_n (pc := 22) 0 F rfl dX5_off_22 ?_
  refine js_iload_n (pc := 23) 1 F rfl dX5_off_23 ?_
  refine js_calli (pc := 24) F (c_X5_estimateOf _ hy (s := i) (by omega) (G := G) (hS0)) mf_X5_estimateOf gX5_off_X5_estimateOf rfl (by decide) (by decide) (js_ct_M) rfl rfl rfl (Nat.le_of_ble_eq_true rfl) dX5_off_24 ?_
  rintro _ G24 ⟨rfl, f24⟩
  refine js_aload_n (pc := 27) 0 F rfl dX5_off_27 ?_
  refine js_iload_n (pc := 28) 1 F rfl dX5_off_28 ?_
  refine js_iconst (pc := 29) (v := nI (1)) F (by decide) dX5_off_29 ?_
  refine js_calli (pc := 30) F (c_X5_part _ hy (G := G24) (s := i) (p := 1) (by omega)) mf_X5_part gX5_off_X5_part rfl (by decide) (by decide) (js_ct_M) rfl rfl rfl (Nat.le_of_ble_eq_true rfl) dX5_off_30 ?_
  rintro _ _ ⟨hv30, rfl⟩
  rw [hv30, show G24 192 ((1 + 106 * i) + 1) = nI (l.length) from (((hS0).co (f24 192 (by decide))).2.2.2.2.2.1)]
  clear hv30
  refine js_isub (pc := 33) F dX5_off_33 ?_
  refine js_ldc (pc := 34) (v := nI (100000)) F (lk_X5_off_constant_RX5_133_100000) dX5_off_34 ?_
  refine js_iadd (pc := 36) F dX5_off_36 ?_
  refine js_val (v := nI (jm_esK (c.1.2 i) + 100000 - l.length)) (jn_off (by omega)) ?_
  refine js_iret (pc := 37) F hr (rfl) ?_ dX5_off_37
  show mP (mq_off c (nI i), c) _ _ _
  rw [show mq_off c (nI i) = nI (jm_esK (c.1.2 i) + 100000 - l.length) from by unfold mq_off; rw [if_neg (jb_no hi (by decide)), jx (by omega)]; unfold jm_ofL; rw [hq]]
  exact ⟨rfl, hC.R f24, js_frM.R f24⟩
theorem mf_X5_nextNew : js_M yX5_nextNew cX5_nextNew 4 (some .int) wsX5_nextNew 2 := ⟨⟨_, rfl⟩, by decide +kernel, by decide +kernel, by decide +kernel, by decide +kernel⟩
set_option maxHeartbeats 4000000 in
set_option maxRecDepth 100000 in
theorem c_X5_nextNew_1 (la : Launch) {y : js_L} (hy : js_Dy y) {G : js_G} {c : js_C} (hC : mr_C G c) {x : Int32} {a : Int32} (hx : jb x 6) : js_Ci la y yX5_nextNew wsX5_nextNew 5 99 [.ref (js_ad y (191)), .int (x), .int (a)] G (fun r G' => mP (mq_nextNew c x a, c) r G G') := by
  refine js_ofi mf_X5_nextNew (Nat.le_of_ble_eq_true rfl) hy (fun X F hr => ?_)
  replace F : js_F X y cX5_nextNew 4 RX5 wsX5_nextNew 5 99 := F
  show js_W X y 4 _ G 0 [(0, .ref (js_ad y (191))), (1, .int (x)), (2, .int (a))] []
  refine js_iload_n (pc := 0) 1 F rfl dX5_nextNew_0 ?_
  refine js_callsi (pc := 1) F (c_X5_isSketch _ hy (x := x)) mf_X5_isSketch gX5_nextNew_X5_isSketch (by decide) rfl rfl (Nat.le_of_ble_eq_true rfl) dX5_nextNew_1 ?_
  rintro _ _ ⟨rfl, rfl⟩
  refine js_if_neB (pc := 4) (tgt := 9) F dX5_nextNew_4 (by decide) (fun h4 => by exact absurd hx h4) (fun h4 => ?_)
  refine js_iconst (pc := 7) (v := (-1)) F (by decide) dX5_nextNew_7 ?_
  refine js_iret (pc := 8) F hr (rfl) ?_ dX5_nextNew_8
  show mP (mq_nextNew c x a, c) _ _ _
  rw [show mq_nextNew c x a = -1 from if_pos hx]
  exact ⟨rfl, hC, js_frM.rf⟩
set_option maxHeartbeats 4000000 in
set_option maxRecDepth 100000 in
theorem c_X5_nextNew_2 (la : Launch) {y : js_L} (hy : js_Dy y) {G : js_G} {c : js_C} (hC : mr_C G c) {i : Nat} (hi : i < 6) {a : Int32} (ha : jb a 100000) : js_Ci la y yX5_nextNew wsX5_nextNew 5 99 [.ref (js_ad y (191)), .int (nI (i)), .int (a)] G (fun r G' => mP (mq_nextNew c (nI i) a, c) r G G') := by
  refine js_ofi mf_X5_nextNew (Nat.le_of_ble_eq_true rfl) hy (fun X F hr => ?_)
  replace F : js_F X y cX5_nextNew 4 RX5 wsX5_nextNew 5 99 := F
  show js_W X y 4 _ G 0 [(0, .ref (js_ad y (191))), (1, .int (nI (i))), (2, .int (a))] []
  refine js_iload_n (pc := 0) 1 F rfl dX5_nextNew_0 ?_
  refine js_callsi (pc := 1) F (c_X5_isSketch _ hy (x := nI (i))) mf_X5_isSketch gX5_nextNew_X5_isSketch (by decide) rfl rfl (Nat.le_of_ble_eq_true rfl) dX5_nextNew_1 ?_
  rintro _ _ ⟨rfl, rfl⟩
  refine js_if_neB (pc := 4) (tgt := 9) F dX5_nextNew_4 (by decide) (fun h4 => ?_) (fun h4 => by exact absurd (jb_no hi (by decide)) h4)
  refine js_iload_n (pc := 9) 2 F rfl dX5_nextNew_9 ?_
  refine js_callsi (pc := 10) F (c_X5_isThing _ hy (x := a)) mf_X5_isThing gX5_nextNew_X5_isThing (by decide) rfl rfl (Nat.le_of_ble_eq_true rfl) dX5_nextNew_10 ?_
  rintro _ _ ⟨rfl, rfl⟩
  refine js_if_neB (pc := 13) (tgt := 19) F dX5_nextNew_13 (by decide) (fun h13 => by exact absurd ha h13) (fun h13 => ?_)
  refine js_bipush (pc := 16) (v := (-2)) F (by decide) dX5_nextNew_16 ?_
  refine js_iret (pc := 18) F hr (rfl) ?_ dX5_nextNew_18
  show mP (mq_nextNew c (nI i) a, c) _ _ _
  rw [show mq_nextNew c (nI i) a = -2 from by unfold mq_nextNew; rw [if_neg (jb_no hi (by decide)), if_pos ha]]
  exact ⟨rfl, hC, js_frM.rf⟩
theorem lk_X5_nextNew_constant_RX5_133_100000 : Cond.constant RX5 133 (100000) ∈ wsX5_nextNew := by decide +kernel
set_option maxHeartbeats 4000000 in
set_option maxRecDepth 100000 in
theorem c_X5_nextNew_3 (la : Launch) {y : js_L} (hy : js_Dy y) {G : js_G} {c : js_C} (hC : mr_C G c) {i : Nat} (hi : i < 6) {a : Nat} (ha : a < 100000) : js_Ci la y yX5_nextNew wsX5_nextNew 5 99 [.ref (js_ad y (191)), .int (nI (i)), .int (nI (a))] G (fun r G' => mP (mq_nextNew c (nI i) (nI a), c) r G G') := by
  have hS : mr_K G 192 (1 + 106 * i) (c.1.2 i) := hC.K hi
  have hp : 2 ^ (c.1.2 i).1 ≤ 64 := jm_p6 hS.2.1
  have hp1 := jm_p1 (c.1.2 i).1
  have hB6 := hS.2.1
  have hB2 := hS.1
  have hs6 := hC.1.2.1
  refine js_ofi mf_X5_nextNew (Nat.le_of_ble_eq_true rfl) hy (fun X F hr => ?_)
  replace F : js_F X y cX5_nextNew 4 RX5 wsX5_nextNew 5 99 := F
  show js_W X y 4 _ G 0 [(0, .ref (js_ad y (191))), (1, .int (nI (i))), (2, .int (nI (a)))] []
  refine js_iload_n (pc := 0) 1 F rfl dX5_nextNew_0 ?_
  refine js_callsi (pc := 1) F (c_X5_isSketch _ hy (x := nI (i))) mf_X5_isSketch gX5_nextNew_X5_isSketch (by decide) rfl rfl (Nat.le_of_ble_eq_true rfl) dX5_nextNew_1 ?_
  rintro _ _ ⟨rfl, rfl⟩
  refine js_if_neB (pc := 4) (tgt := 9) F dX5_nextNew_4 (by decide) (fun h4 => ?_) (fun h4 => by exact absurd (jb_no hi (by decide)) h4)
  refine js_iload_n (pc := 9) 2 F rfl dX5_nextNew_9 ?_
  refine js_callsi (pc := 10) F (c_X5_isThing _ hy (x := nI (a))) mf_X5_isThing gX5_nextNew_X5_isThing (by decide) rfl rfl (Nat.le_of_ble_eq_true rfl) dX5_nextNew_10 ?_
  rintro _ _ ⟨rfl, rfl⟩
  refine js_if_neB (pc := 13) (tgt := 19) F dX5_nextNew_13 (by decide) (fun h13 => ?_) (fun h13 => by exact absurd (jb_no ha (by decide)) h13)
  refine js_iload_n (pc := 19) 2 F rfl dX5_nextNew_19 ?_
  refine js_istore_n (pc := 20) (lv2 := [(0, .ref (js_ad y (191))), (1, .int (nI (i))), (2, .int (nI (a))), (3, .int (nI (a)))]) F dX5_nextNew_20 (by decide) [1, 2, 3, 0] rfl ?_
  have L21 : ∀ (fu21 : Nat) (t : Nat) (ht : t ≤ 100000) (hv : jm_nx (jm_wo c.1.1 (c.1.2 i)) (100000 - a) a = jm_nx (jm_wo c.1.1 (c.1.2 i)) (100000 - t) t) (hfu21 : 100000 - t < fu21), js_W X y 4 (js_Qi X y (fun r G' => mP (mq_nextNew c (nI i) (nI a), c) r G G')) G 21 [(0, .ref (js_ad y (191))), (1, .int (nI (i))), (2, .int (nI (a))), (3, .int (nI (t)))] [] := by
    intro fu21
    induction fu21 with
    | zero => intro t ht hv hfu21; exact absurd hfu21 (Nat.not_lt_zero _)
    | succ fu21 ih21 =>
      intro t ht hv hfu21
      refine js_iload_n (pc := 21) 3 F rfl dX5_nextNew_21 ?_
      refine js_ldc (pc := 22) (v := nI (100000)) F (lk_X5_nextNew_constant_RX5_133_100000) dX5_nextNew_22 ?_
      refine js_icmp_geN (pc := 24) (a := t) (b := 100000) (tgt := 44) F (by omega) (by decide) dX5_nextNew_24 (by decide) (fun h24 => ?_) (fun h24 => ?_)
      · skip
        refine js_bipush (pc := 44) (v := (-6)) F (by decide) dX5_nextNew_44 ?_
        refine js_iret (pc := 46) F hr (rfl) ?_ dX5_nextNew_46
        show mP (mq_nextNew c (nI i) (nI a), c) _ _ _
        rw [show mq_nextNew c (nI i) (nI a) = jm_nx (jm_wo c.1.1 (c.1.2 i)) (100000 - a) a from by unfold mq_nextNew; rw [if_neg (jb_no hi (by decide)), if_neg (jb_no ha (by decide)), jx (by omega), jx (by omega)]]
        exact ⟨by rw [hv, show t = 100000 by omega]; rfl, hC, js_frM.rf⟩
      · skip
        refine js_aload_n (pc := 27) 0 F rfl dX5_nextNew_27 ?_
        refine js_iload_n (pc := 28) 1 F rfl dX5_nextNew_28 ?_
        refine js_iload_n (pc := 29) 3 F rfl dX5_nextNew_29 ?_
        refine js_calli (pc := 30) F (c_X5_wouldChange _ hy (s := i) (by omega) (G := G) (hS) (sl := c.1.1) (hC.1.1) (by omega) (t := t) (by omega)) mf_X5_wouldChange gX5_nextNew_X5_wouldChange rfl (by decide) (by decide) (js_ct_M) rfl rfl rfl (Nat.le_of_ble_eq_true rfl) dX5_nextNew_30 ?_
        rintro _ _ ⟨rfl, rfl⟩
        refine js_if_eqB (pc := 33) (tgt := 38) F dX5_nextNew_33 (by decide) (fun h33 => ?_) (fun h33 => ?_)
        · skip
          refine js_iinc (pc := 38) (v := nI (t + 1)) (lv2 := [(0, .ref (js_ad y (191))), (1, .int (nI (i))), (2, .int (nI (a))), (3, .int (nI (t + 1)))]) F dX5_nextNew_38 3 rfl (nI_add _ _) (by decide) [1, 2, 3, 0] rfl ?_
          refine js_goto (pc := 41) (tgt := 21) F dX5_nextNew_41 (by decide) ?_
          exact ih21 (t + 1) (by omega) (by rw [hv, jm_nx_s (by omega), if_neg (by unfold jm_wo; simpa using h33)]) (by omega)
        · skip
          refine js_iload_n (pc := 36) 3 F rfl dX5_nextNew_36 ?_
          refine js_iret (pc := 37) F hr (rfl) ?_ dX5_nextNew_37
          show mP (mq_nextNew c (nI i) (nI a), c) _ _ _
          rw [show mq_nextNew c (nI i) (nI a) = jm_nx (jm_wo c.1.1 (c.1.2 i)) (100000 - a) a from by unfold mq_nextNew; rw [if_neg (jb_no hi (by decide)), if_neg (jb_no ha (by decide)), jx (by omega), jx (by omega)]]
          exact ⟨by rw [hv, jm_nx_s (by omega), if_pos (by unfold jm_wo; simpa using h33)], hC, js_frM.rf⟩
  exact L21 (_ + 1) a (by omega) (rfl) (Nat.lt_succ_self _)
theorem mf_X5_bestSalt : js_M yX5_bestSalt cX5_bestSalt 8 (some .int) wsX5_bestSalt 1 := ⟨⟨_, rfl⟩, by decide +kernel, by decide +kernel, by decide +kernel, by decide +kernel⟩
set_option maxHeartbeats 4000000 in
set_option maxRecDepth 100000 in
theorem c_X5_bestSalt_1 (la : Launch) {y : js_L} (hy : js_Dy y) {G : js_G} {c : js_C} (hC : mr_C G c) {x : Int32} (hx : jb x 6) : js_Ci la y yX5_bestSalt wsX5_bestSalt 4 81 [.ref (js_ad y (191)), .int (x)] G (fun r G' => mP (mq_bestSalt c x, c) r G G') := by
  refine js_ofi mf_X5_bestSalt (Nat.le_of_ble_eq_true rfl) hy (fun X F hr => ?_)
  replace F : js_F X y cX5_bestSalt 8 RX5 wsX5_bestSalt 4 81 := F
  show js_W X y 8 _ G 0 [(0, .ref (js_ad y (191))), (1, .int (x))] []
  refine js_iload_n (pc := 0) 1 F rfl dX5_bestSalt_0 ?_
  refine js_callsi (pc := 1) F (c_X5_isSketch _ hy (x := x)) mf_X5_isSketch gX5_bestSalt_X5_isSketch (by decide) rfl rfl (Nat.le_of_ble_eq_true rfl) dX5_bestSalt_1 ?_
  rintro _ _ ⟨rfl, rfl⟩
  refine js_if_neB (pc := 4) (tgt := 9) F dX5_bestSalt_4 (by decide) (fun h4 => by exact absurd hx h4) (fun h4 => ?_)
  refine js_iconst (pc := 7) (v := (-1)) F (by decide) dX5_bestSalt_7 ?_
  refine js_iret (pc := 8) F hr (rfl) ?_ dX5_bestSalt_8
  show mP (mq_bestSalt c x, c) _ _ _
  rw [show mq_bestSalt c x = -1 from if_pos hx]
  exact ⟨rfl, hC, js_frM.rf⟩
set_option maxHeartbeats 4000000 in
set_option maxRecDepth 100000 in
theorem c_X5_bestSalt_2 (la : Launch) {y : js_L} (hy : js_Dy y) {G : js_G} {c : js_C} (hC : mr_C G c) {i : Nat} (hi : i < 6) (hq : (c.1.2 i).2.2 = none)  : js_Ci la y yX5_bestSalt wsX5_bestSalt 4 81 [.ref (js_ad y (191)), .int (nI (i))] G (fun r G' => mP (mq_bestSalt c (nI i), c) r G G') := by
  have hS : mr_K G 192 (1 + 106 * i) (c.1.2 i) := hC.K hi
  have hp : 2 ^ (c.1.2 i).1 ≤ 64 := jm_p6 hS.2.1
  have hp1 := jm_p1 (c.1.2 i).1
  have hB6 := hS.2.1
  have hB2 := hS.1
  have hs6 := hC.1.2.1
  have hS0 : mr_S G 192 (1 + 106 * i) (c.1.2 i).1 (c.1.2 i).2.1 none := hq ▸ hS
  refine js_ofi mf_X5_bestSalt (Nat.le_of_ble_eq_true rfl) hy (fun X F hr => ?_)
  replace F : js_F X y cX5_bestSalt 8 RX5 wsX5_bestSalt 4 81 := F
  show js_W X y 8 _ G 0 [(0, .ref (js_ad y (191))), (1, .int (nI (i)))] []
  refine js_iload_n (pc := 0) 1 F rfl dX5_bestSalt_0 ?_
  refine js_callsi (pc := 1) F (c_X5_isSketch _ hy (x := nI (i))) mf_X5_isSketch gX5_bestSalt_X5_isSketch (by decide) rfl rfl (Nat.le_of_ble_eq_true rfl) dX5_bestSalt_1 ?_
  rintro _ _ ⟨rfl, rfl⟩
  refine js_if_neB (pc := 4) (tgt := 9) F dX5_bestSalt_4 (by decide) (fun h4 => ?_) (fun h4 => by exact absurd (jb_no hi (by decide)) h4)
  refine js_aload_n (pc := 9) 0 F rfl dX5_bestSalt_9 ?_
  refine js_iload_n (pc := 10) 1 F rfl dX5_bestSalt_10 ?_
  refine js_calli (pc := 11) F (c_X5_isFull_n _ hy (s := i) (by omega) (G := G) (hS0)) mf_X5_isFull gX5_bestSalt_X5_isFull rfl (by decide) (by decide) (js_ct_M) rfl rfl rfl (Nat.le_of_ble_eq_true rfl) dX5_bestSalt_11 ?_
  rintro _ _ ⟨rfl, rfl⟩
  refine js_if_eqN (pc := 14) (a := 1) (tgt := 20) F (by decide) dX5_bestSalt_14 (by decide) (fun h14 => by exfalso; revert h14; decide) (fun _ => ?_)
  refine js_bipush (pc := 17) (v := (-5)) F (by decide) dX5_bestSalt_17 ?_
  refine js_iret (pc := 19) F hr (rfl) ?_ dX5_bestSalt_19
  show mP (mq_bestSalt c (nI i), c) _ _ _
  rw [show mq_bestSalt c (nI i) = -5 from by unfold mq_bestSalt; rw [if_neg (jb_no hi (by decide)), jx (by omega)]; unfold jm_bsK; rw [hq]]
  exact ⟨rfl, hC, js_frM.rf⟩
set_option maxHeartbeats 4000000 in
set_option maxRecDepth 100000 in
theorem c_X5_bestSalt_3 (la : Launch) {y : js_L} (hy : js_Dy y) {G : js_G} {c : js_C} (hC : mr_C G c) {i : Nat} (hi : i < 6) {l : List Nat} (hq : (c.1.2 i).2.2 = some l) : js_Ci la y yX5_bestSalt wsX5_bestSalt 4 81 [.ref (js_ad y (191)), .int (nI (i))] G (fun r G' => mP (mq_bestSalt c (nI i), c) r G G') := by
  have hS : mr_K G 192 (1 + 106 * i) (c.1.2 i) := hC.K hi
  have hp : 2 ^ (c.1.2 i).1 ≤ 64 := jm_p6 hS.2.1
  have hp1 := jm_p1 (c.1.2 i).1
  have hB6 := hS.2.1
  have hB2 := hS.1
  have hs6 := hC.1.2.1
  have hS0 : mr_S G 192 (1 + 106 * i) (c.1.2 i).1 (c.1.2 i).2.1 (some l) := hq ▸ hS
  have hlen := hS0.2.2.2.2.2.2.1
  have hfd : ∀ s, (fun s => jm_dist s (c.1.2 i).1 l) s ≤ 3000000 := fun s => jm_dist_lt hB2 hB6 hlen
  refine js_ofi mf_X5_bestSalt (Nat.le_of_ble_eq_true rfl) hy (fun X F hr => ?_)
  replace F : js_F X y cX5_bestSalt 8 RX5 wsX5_bestSalt 4 81 := F
  show js_W X y 8 _ G 0 [(0, .ref (js_ad y (191))), (1, .int (nI (i)))] []
  refine js_iload_n (pc := 0) 1 F rfl dX5_bestSalt_0 ?_
  refine js_callsi (pc := 1) F (c_X5_isSketch _ hy (x := nI (i))) mf_X5_isSketch gX5_bestSalt_X5_isSketch (by decide) rfl rfl (Nat.le_of_ble_eq_true rfl) dX5_bestSalt_1 ?_
  rintro _ _ ⟨rfl, rfl⟩
  refine js_if_neB (pc := 4) (tgt := 9) F dX5_bestSalt_4 (by decide) (fun h4 => ?_) (fun h4 => by exact absurd (jb_no hi (by decide)) h4)
  refine js_aload_n (pc := 9) 0 F rfl dX5_bestSalt_9 ?_
  refine js_iload_n (pc := 10) 1 F rfl dX5_bestSalt_10 ?_
  refine js_calli (pc := 11) F (c_X5_isFull_s _ hy (s := i) (by omega) (G := G) (hS0)) mf_X5_isFull gX5_bestSalt_X5_isFull rfl (by decide) (by decide) (js_ct_M) rfl rfl rfl (Nat.le_of_ble_eq_true rfl) dX5_bestSalt_11 ?_
  rintro _ _ ⟨rfl, rfl⟩
  refine js_if_eqN (pc := 14) (a := 0) (tgt := 20) F (by decide) dX5_bestSalt_14 (by decide) (fun _ => ?_) (fun h14 => by exfalso; revert h14; decide)
  refine js_bipush (pc := 20) (v := (-6)) F (by decide) dX5_bestSalt_20 ?_
  refine js_istore_n (pc := 22) (lv2 := [(0, .ref (js_ad y (191))), (1, .int (nI (i))), (2, .int ((-6)))]) F dX5_bestSalt_22 (by decide) [1, 2, 0] rfl ?_
  refine js_iconst (pc := 23) (v := nI (0)) F (by decide) dX5_bestSalt_23 ?_
  refine js_istore_n (pc := 24) (lv2 := [(0, .ref (js_ad y (191))), (1, .int (nI (i))), (2, .int ((-6))), (3, .int (nI (0)))]) F dX5_bestSalt_24 (by decide) [1, 2, 3, 0] rfl ?_
  refine js_iconst (pc := 25) (v := nI (0)) F (by decide) dX5_bestSalt_25 ?_
  refine js_istore (pc := 26) (lv2 := [(0, .ref (js_ad y (191))), (1, .int (nI (i))), (2, .int ((-6))), (3, .int (nI (0))), (4, .int (nI (0)))]) F dX5_bestSalt_26 (by decide) [1, 2, 3, 4, 0] rfl ?_
  have L28 : ∀ (fu28 : Nat) (k : Nat) (be : Int32) (le : Int32) (G1 : js_G) (hk : k ≤ 256) (hinv : jb_inv (fun s => jm_dist s (c.1.2 i).1 l) k be le) (hf : mfR G G1) (hfu28 : 256 - k < fu28), js_W X y 8 (js_Qi X y (fun r G' => mP (mq_bestSalt c (nI i), c) r G G')) G1 28 [(0, .ref (js_ad y (191))), (1, .int (nI (i))), (2, .int (be)), (3, .int (le)), (4, .int (nI (k)))] [] := by
    intro fu28
    induction fu28 with
    | zero => intro k be le G1 hk hinv hf hfu28; exact absurd hfu28 (Nat.not_lt_zero _)
    | succ fu28 ih28 =>
      intro k be le G1 hk hinv hf hfu28
      refine js_iload (pc := 28) 4 F rfl dX5_bestSalt_28 ?_
      refine js_sipush (pc := 30) (v := nI (256)) F (by decide) dX5_bestSalt_30 ?_
      refine js_icmp_geN (pc := 33) (a := k) (b := 256) (tgt := 125) F (by omega) (by decide) dX5_bestSalt_33 (by decide) (fun h33 => ?_) (fun h33 => ?_)
      · skip
        refine js_iload_n (pc := 125) 2 F rfl dX5_bestSalt_125 ?_
        refine js_iret (pc := 126) F hr (rfl) ?_ dX5_bestSalt_126
        show mP (mq_bestSalt c (nI i), c) _ _ _
        rw [show mq_bestSalt c (nI i) = nI (jm_bs (fun s => jm_dist s (c.1.2 i).1 l) 255) from by unfold mq_bestSalt; rw [if_neg (jb_no hi (by decide)), jx (by omega)]; unfold jm_bsK; rw [hq]]
        rcases hinv with ⟨z, _⟩ | ⟨j, z, rfl, _⟩
        · exact absurd z (by omega)
        · rw [show j = 255 by omega]; exact ⟨rfl, hC.R hf, js_frM.R hf⟩
      · skip
        refine js_aload_n (pc := 36) 0 F rfl dX5_bestSalt_36 ?_
        refine js_iload_n (pc := 37) 1 F rfl dX5_bestSalt_37 ?_
        refine js_iload (pc := 38) 4 F rfl dX5_bestSalt_38 ?_
        refine js_callv (pc := 40) F (c_X5_takeRanksBy _ hy (s := i) (by omega) (G := G1) (hS0.co (hf 192 (by decide))) (sl := k) (by omega)) mf_X5_takeRanksBy gX5_bestSalt_X5_takeRanksBy rfl (by decide) (by decide) (js_ct_M) rfl rfl rfl (Nat.le_of_ble_eq_true rfl) dX5_bestSalt_40 ?_
        rintro G2 ⟨t40, f40⟩
        refine js_aload_n (pc := 43) 0 F rfl dX5_bestSalt_43 ?_
        refine js_aload_n (pc := 44) 0 F rfl dX5_bestSalt_44 ?_
        refine js_iload_n (pc := 45) 1 F rfl dX5_bestSalt_45 ?_
        refine js_calli (pc := 46) F (c_X5_bucketsOf _ hy (s := i) (by omega) (G := G2) ((hS0.co (hf 192 (by decide))).co (f40 192 (by decide)))) mf_X5_bucketsOf gX5_bestSalt_X5_bucketsOf rfl (by decide) (by decide) (js_ct_M) rfl rfl rfl (Nat.le_of_ble_eq_true rfl) dX5_bestSalt_46 ?_
        rintro _ _ ⟨rfl, rfl⟩
        have hek := jm_est_le (rk := jm_rkl k (c.1.2 i).1 l) (m := 2 ^ (c.1.2 i).1) (by omega) hp (fun b _ => Nat.le_trans (jm_rkl_le hB6 l b) (by omega))
        refine js_calli (pc := 49) F (c_X5_estimateBy _ hy (G := G2) (m := 2 ^ (c.1.2 i).1) (by omega) (rk := jm_rkl k (c.1.2 i).1 l) (fun b hb => t40 b (by omega)) (fun b _ => Nat.le_trans (jm_rkl_le hB6 l b) (by omega)) (by omega)) mf_X5_estimateBy gX5_bestSalt_X5_estimateBy rfl (by decide) (by decide) (js_ct_M) rfl rfl rfl (Nat.le_of_ble_eq_true rfl) dX5_bestSalt_49 ?_
        rintro _ _ ⟨rfl, rfl⟩
        refine js_aload_n (pc := 52) 0 F rfl dX5_bestSalt_52 ?_
        refine js_iload_n (pc := 53) 1 F rfl dX5_bestSalt_53 ?_
        refine js_iconst (pc := 54) (v := nI (1)) F (by decide) dX5_bestSalt_54 ?_
        refine js_calli (pc := 55) F (c_X5_part _ hy (G := G2) (s := i) (p := 1) (by omega)) mf_X5_part gX5_bestSalt_X5_part rfl (by decide) (by decide) (js_ct_M) rfl rfl rfl (Nat.le_of_ble_eq_true rfl) dX5_bestSalt_55 ?_
        rintro _ _ ⟨hv55, rfl⟩
        rw [hv55, show G2 192 ((1 + 106 * i) + 1) = nI (l.length) from (((hS0.co (hf 192 (by decide))).co (f40 192 (by decide))).2.2.2.2.2.1)]
        clear hv55
        refine js_isub (pc := 58) F dX5_bestSalt_58 ?_
        refine js_istore (pc := 59) (lv2 := [(0, .ref (js_ad y (191))), (1, .int (nI (i))), (2, .int (be)), (3, .int (le)), (4, .int (nI (k))), (5, .int ((nI (jm_est (jm_rkl k (c.1.2 i).1 l) (2 ^ (c.1.2 i).1))) - (nI (l.length))))]) F dX5_bestSalt_59 (by decide) [1, 2, 3, 4, 5, 0] rfl ?_
        refine js_iload (pc := 61) 5 F rfl dX5_bestSalt_61 ?_
        refine js_if_ge (pc := 63) (tgt := 72) F dX5_bestSalt_63 (by decide) (fun h63 => ?_) (fun h63 => ?_)
        · skip
          refine js_iload (pc := 72) 5 F rfl dX5_bestSalt_72 ?_
          refine js_val (v := nI (jm_ad l.length (jm_est (jm_rkl k (c.1.2 i).1 l) (2 ^ (c.1.2 i).1)))) (jn_far1 (by omega) (by omega) h63) ?_
          refine js_istore (pc := 74) (lv2 := [(0, .ref (js_ad y (191))), (1, .int (nI (i))), (2, .int (be)), (3, .int (le)), (4, .int (nI (k))), (5, .int ((nI (jm_est (jm_rkl k (c.1.2 i).1 l) (2 ^ (c.1.2 i).1))) - (nI (l.length)))), (6, .int (nI (jm_ad l.length (jm_est (jm_rkl k (c.1.2 i).1 l) (2 ^ (c.1.2 i).1)))))]) F dX5_bestSalt_74 (by decide) [1, 2, 3, 4, 5, 6, 0] rfl ?_
          refine js_iload_n (pc := 76) 2 F rfl dX5_bestSalt_76 ?_
          refine js_bipush (pc := 77) (v := (-6)) F (by decide) dX5_bestSalt_77 ?_
          refine js_icmp_eq (pc := 79) (tgt := 88) F dX5_bestSalt_79 (by decide) (fun h79 => ?_) (fun h79 => ?_)
          · skip
            refine js_iconst (pc := 88) (v := nI (1)) F (by decide) dX5_bestSalt_88 ?_
            refine js_goto (pc := 89) (tgt := 93) F dX5_bestSalt_89 (by decide) ?_
            refine js_istore (pc := 93) (lv2 := [(0, .ref (js_ad y (191))), (1, .int (nI (i))), (2, .int (be)), (3, .int (le)), (4, .int (nI (k))), (5, .int ((nI (jm_est (jm_rkl k (c.1.2 i).1 l) (2 ^ (c.1.2 i).1))) - (nI (l.length)))), (6, .int (nI (jm_ad l.length (jm_est (jm_rkl k (c.1.2 i).1 l) (2 ^ (c.1.2 i).1))))), (7, .int (nI (1)))]) F dX5_bestSalt_93 (by decide) [1, 2, 3, 4, 5, 6, 7, 0] rfl ?_
            refine js_iload (pc := 95) 7 F rfl dX5_bestSalt_95 ?_
            refine js_if_eqN (pc := 97) (a := 1) (tgt := 105) F (by decide) dX5_bestSalt_97 (by decide) (fun h97 => by exfalso; revert h97; decide) (fun _ => ?_)
            refine js_iload (pc := 100) 4 F rfl dX5_bestSalt_100 ?_
            refine js_goto (pc := 102) (tgt := 106) F dX5_bestSalt_102 (by decide) ?_
            refine js_istore_n (pc := 106) (lv2 := [(0, .ref (js_ad y (191))), (1, .int (nI (i))), (2, .int (nI (k))), (3, .int (le)), (4, .int (nI (k))), (5, .int ((nI (jm_est (jm_rkl k (c.1.2 i).1 l) (2 ^ (c.1.2 i).1))) - (nI (l.length)))), (6, .int (nI (jm_ad l.length (jm_est (jm_rkl k (c.1.2 i).1 l) (2 ^ (c.1.2 i).1))))), (7, .int (nI (1)))]) F dX5_bestSalt_106 (by decide) [1, 2, 0, 3, 4, 5, 6, 7] rfl ?_
            refine js_iload (pc := 107) 7 F rfl dX5_bestSalt_107 ?_
            refine js_if_eqN (pc := 109) (a := 1) (tgt := 117) F (by decide) dX5_bestSalt_109 (by decide) (fun h109 => by exfalso; revert h109; decide) (fun _ => ?_)
            refine js_iload (pc := 112) 6 F rfl dX5_bestSalt_112 ?_
            refine js_goto (pc := 114) (tgt := 118) F dX5_bestSalt_114 (by decide) ?_
            refine js_istore_n (pc := 118) (lv2 := [(0, .ref (js_ad y (191))), (1, .int (nI (i))), (2, .int (nI (k))), (3, .int (nI (jm_ad l.length (jm_est (jm_rkl k (c.1.2 i).1 l) (2 ^ (c.1.2 i).1))))), (4, .int (nI (k))), (5, .int ((nI (jm_est (jm_rkl k (c.1.2 i).1 l) (2 ^ (c.1.2 i).1))) - (nI (l.length)))), (6, .int (nI (jm_ad l.length (jm_est (jm_rkl k (c.1.2 i).1 l) (2 ^ (c.1.2 i).1))))), (7, .int (nI (1)))]) F dX5_bestSalt_118 (by decide) [1, 2, 3, 0, 4, 5, 6, 7] rfl ?_
            refine js_iinc (pc := 119) (v := nI (k + 1)) (lv2 := [(0, .ref (js_ad y (191))), (1, .int (nI (i))), (2, .int (nI (k))), (3, .int (nI (jm_ad l.length (jm_est (jm_rkl k (c.1.2 i).1 l) (2 ^ (c.1.2 i).1))))), (4, .int (nI (k + 1))), (5, .int ((nI (jm_est (jm_rkl k (c.1.2 i).1 l) (2 ^ (c.1.2 i).1))) - (nI (l.length)))), (6, .int (nI (jm_ad l.length (jm_est (jm_rkl k (c.1.2 i).1 l) (2 ^ (c.1.2 i).1))))), (7, .int (nI (1)))]) F dX5_bestSalt_119 4 rfl (nI_add _ _) (by decide) [1, 2, 3, 4, 0, 5, 6, 7] rfl ?_
            refine js_goto (pc := 122) (tgt := 28) F dX5_bestSalt_122 (by decide) ?_
            refine js_sub (lv2 := [(0, .ref (js_ad y (191))), (1, .int (nI (i))), (2, .int (nI (k))), (3, .int (nI (jm_ad l.length (jm_est (jm_rkl k (c.1.2 i).1 l) (2 ^ (c.1.2 i).1))))), (4, .int (nI (k + 1)))]) [0, 1, 2, 3, 4] rfl ?_
            exact ih28 (k + 1) (nI (k)) (nI (jm_ad l.length (jm_est (jm_rkl k (c.1.2 i).1 l) (2 ^ (c.1.2 i).1)))) G2 (by omega) (by first | exact jb_yes hinv (by omega) hfd (Or.inl h79) | exact jb_yes hinv (by omega) hfd (Or.inr h85) | exact jb_nay hinv (by omega) hfd h79 h85) (hf.tr f40) (by omega)
          · skip
            refine js_iload (pc := 82) 6 F rfl dX5_bestSalt_82 ?_
            refine js_iload_n (pc := 84) 3 F rfl dX5_bestSalt_84 ?_
            refine js_icmp_ge (pc := 85) (tgt := 92) F dX5_bestSalt_85 (by decide) (fun h85 => ?_) (fun h85 => ?_)
            · skip
              refine js_iconst (pc := 92) (v := nI (0)) F (by decide) dX5_bestSalt_92 ?_
              refine js_istore (pc := 93) (lv2 := [(0, .ref (js_ad y (191))), (1, .int (nI (i))), (2, .int (be)), (3, .int (le)), (4, .int (nI (k))), (5, .int ((nI (jm_est (jm_rkl k (c.1.2 i).1 l) (2 ^ (c.1.2 i).1))) - (nI (l.length)))), (6, .int (nI (jm_ad l.length (jm_est (jm_rkl k (c.1.2 i).1 l) (2 ^ (c.1.2 i).1))))), (7, .int (nI (0)))]) F dX5_bestSalt_93 (by decide) [1, 2, 3, 4, 5, 6, 7, 0] rfl ?_
              refine js_iload (pc := 95) 7 F rfl dX5_bestSalt_95 ?_
              refine js_if_eqN (pc := 97) (a := 0) (tgt := 105) F (by decide) dX5_bestSalt_97 (by decide) (fun _ => ?_) (fun h97 => by exfalso; revert h97; decide)
              refine js_iload_n (pc := 105) 2 F rfl dX5_bestSalt_105 ?_
              refine js_istore_n (pc := 106) (lv2 := [(0, .ref (js_ad y (191))), (1, .int (nI (i))), (2, .int (be)), (3, .int (le)), (4, .int (nI (k))), (5, .int ((nI (jm_est (jm_rkl k (c.1.2 i).1 l) (2 ^ (c.1.2 i).1))) - (nI (l.length)))), (6, .int (nI (jm_ad l.length (jm_est (jm_rkl k (c.1.2 i).1 l) (2 ^ (c.1.2 i).1))))), (7, .int (nI (0)))]) F dX5_bestSalt_106 (by decide) [1, 2, 0, 3, 4, 5, 6, 7] rfl ?_
              refine js_iload (pc := 107) 7 F rfl dX5_bestSalt_107 ?_
              refine js_if_eqN (pc := 109) (a := 0) (tgt := 117) F (by decide) dX5_bestSalt_109 (by decide) (fun _ => ?_) (fun h109 => by exfalso; revert h109; decide)
              refine js_iload_n (pc := 117) 3 F rfl dX5_bestSalt_117 ?_
              refine js_istore_n (pc := 118) (lv2 := [(0, .ref (js_ad y (191))), (1, .int (nI (i))), (2, .int (be)), (3, .int (le)), (4, .int (nI (k))), (5, .int ((nI (jm_est (jm_rkl k (c.1.2 i).1 l) (2 ^ (c.1.2 i).1))) - (nI (l.length)))), (6, .int (nI (jm_ad l.length (jm_est (jm_rkl k (c.1.2 i).1 l) (2 ^ (c.1.2 i).1))))), (7, .int (nI (0)))]) F dX5_bestSalt_118 (by decide) [1, 2, 3, 0, 4, 5, 6, 7] rfl ?_
              refine js_iinc (pc := 119) (v := nI (k + 1)) (lv2 := [(0, .ref (js_ad y (191))), (1, .int (nI (i))), (2, .int (be)), (3, .int (le)), (4, .int (nI (k + 1))), (5, .int ((nI (jm_est (jm_rkl k (c.1.2 i).1 l) (2 ^ (c.1.2 i).1))) - (nI (l.length)))), (6, .int (nI (jm_ad l.length (jm_est (jm_rkl k (c.1.2 i).1 l) (2 ^ (c.1.2 i).1))))), (7, .int (nI (0)))]) F dX5_bestSalt_119 4 rfl (nI_add _ _) (by decide) [1, 2, 3, 4, 0, 5, 6, 7] rfl ?_
              refine js_goto (pc := 122) (tgt := 28) F dX5_bestSalt_122 (by decide) ?_
              refine js_sub (lv2 := [(0, .ref (js_ad y (191))), (1, .int (nI (i))), (2, .int (be)), (3, .int (le)), (4, .int (nI (k + 1)))]) [0, 1, 2, 3, 4] rfl ?_
              exact ih28 (k + 1) be le G2 (by omega) (by first | exact jb_yes hinv (by omega) hfd (Or.inl h79) | exact jb_yes hinv (by omega) hfd (Or.inr h85) | exact jb_nay hinv (by omega) hfd h79 h85) (hf.tr f40) (by omega)
            · skip
              refine js_iconst (pc := 88) (v := nI (1)) F (by decide) dX5_bestSalt_88 ?_
              refine js_goto (pc := 89) (tgt := 93) F dX5_bestSalt_89 (by decide) ?_
              refine js_istore (pc := 93) (lv2 := [(0, .ref (js_ad y (191))), (1, .int (nI (i))), (2, .int (be)), (3, .int (le)), (4, .int (nI (k))), (5, .int ((nI (jm_est (jm_rkl k (c.1.2 i).1 l) (2 ^ (c.1.2 i).1))) - (nI (l.length)))), (6, .int (nI (jm_ad l.length (jm_est (jm_rkl k (c.1.2 i).1 l) (2 ^ (c.1.2 i).1))))), (7, .int (nI (1)))]) F dX5_bestSalt_93 (by decide) [1, 2, 3, 4, 5, 6, 7, 0] rfl ?_
              refine js_iload (pc := 95) 7 F rfl dX5_bestSalt_95 ?_
              refine js_if_eqN (pc := 97) (a := 1) (tgt := 105) F (by decide) dX5_bestSalt_97 (by decide) (fun h97 => by exfalso; revert h97; decide) (fun _ => ?_)
              refine js_iload (pc := 100) 4 F rfl dX5_bestSalt_100 ?_
              refine js_goto (pc := 102) (tgt := 106) F dX5_bestSalt_102 (by decide) ?_
              refine js_istore_n (pc := 106) (lv2 := [(0, .ref (js_ad y (191))), (1, .int (nI (i))), (2, .int (nI (k))), (3, .int (le)), (4, .int (nI (k))), (5, .int ((nI (jm_est (jm_rkl k (c.1.2 i).1 l) (2 ^ (c.1.2 i).1))) - (nI (l.length)))), (6, .int (nI (jm_ad l.length (jm_est (jm_rkl k (c.1.2 i).1 l) (2 ^ (c.1.2 i).1))))), (7, .int (nI (1)))]) F dX5_bestSalt_106 (by decide) [1, 2, 0, 3, 4, 5, 6, 7] rfl ?_
              refine js_iload (pc := 107) 7 F rfl dX5_bestSalt_107 ?_
              refine js_if_eqN (pc := 109) (a := 1) (tgt := 117) F (by decide) dX5_bestSalt_109 (by decide) (fun h109 => by exfalso; revert h109; decide) (fun _ => ?_)
              refine js_iload (pc := 112) 6 F rfl dX5_bestSalt_112 ?_
              refine js_goto (pc := 114) (tgt := 118) F dX5_bestSalt_114 (by decide) ?_
              refine js_istore_n (pc := 118) (lv2 := [(0, .ref (js_ad y (191))), (1, .int (nI (i))), (2, .int (nI (k))), (3, .int (nI (jm_ad l.length (jm_est (jm_rkl k (c.1.2 i).1 l) (2 ^ (c.1.2 i).1))))), (4, .int (nI (k))), (5, .int ((nI (jm_est (jm_rkl k (c.1.2 i).1 l) (2 ^ (c.1.2 i).1))) - (nI (l.length)))), (6, .int (nI (jm_ad l.length (jm_est (jm_rkl k (c.1.2 i).1 l) (2 ^ (c.1.2 i).1))))), (7, .int (nI (1)))]) F dX5_bestSalt_118 (by decide) [1, 2, 3, 0, 4, 5, 6, 7] rfl ?_
              refine js_iinc (pc := 119) (v := nI (k + 1)) (lv2 := [(0, .ref (js_ad y (191))), (1, .int (nI (i))), (2, .int (nI (k))), (3, .int (nI (jm_ad l.length (jm_est (jm_rkl k (c.1.2 i).1 l) (2 ^ (c.1.2 i).1))))), (4, .int (nI (k + 1))), (5, .int ((nI (jm_est (jm_rkl k (c.1.2 i).1 l) (2 ^ (c.1.2 i).1))) - (nI (l.length)))), (6, .int (nI (jm_ad l.length (jm_est (jm_rkl k (c.1.2 i).1 l) (2 ^ (c.1.2 i).1))))), (7, .int (nI (1)))]) F dX5_bestSalt_119 4 rfl (nI_add _ _) (by decide) [1, 2, 3, 4, 0, 5, 6, 7] rfl ?_
              refine js_goto (pc := 122) (tgt := 28) F dX5_bestSalt_122 (by decide) ?_
              refine js_sub (lv2 := [(0, .ref (js_ad y (191))), (1, .int (nI (i))), (2, .int (nI (k))), (3, .int (nI (jm_ad l.length (jm_est (jm_rkl k (c.1.2 i).1 l) (2 ^ (c.1.2 i).1))))), (4, .int (nI (k + 1)))]) [0, 1, 2, 3, 4] rfl ?_
              exact ih28 (k + 1) (nI (k)) (nI (jm_ad l.length (jm_est (jm_rkl k (c.1.2 i).1 l) (2 ^ (c.1.2 i).1)))) G2 (by omega) (by first | exact jb_yes hinv (by omega) hfd (Or.inl h79) | exact jb_yes hinv (by omega) hfd (Or.inr h85) | exact jb_nay hinv (by omega) hfd h79 h85) (hf.tr f40) (by omega)
        · skip
          refine js_iload (pc := 66) 5 F rfl dX5_bestSalt_66 ?_
          refine js_ineg (pc := 68) F dX5_bestSalt_68 ?_
          refine js_val (v := nI (jm_ad l.length (jm_est (jm_rkl k (c.1.2 i).1 l) (2 ^ (c.1.2 i).1)))) (jn_far2 (by omega) (by omega) h63) ?_
          refine js_goto (pc := 69) (tgt := 74) F dX5_bestSalt_69 (by decide) ?_
          refine js_istore (pc := 74) (lv2 := [(0, .ref (js_ad y (191))), (1, .int (nI (i))), (2, .int (be)), (3, .int (le)), (4, .int (nI (k))), (5, .int ((nI (jm_est (jm_rkl k (c.1.2 i).1 l) (2 ^ (c.1.2 i).1))) - (nI (l.length)))), (6, .int (nI (jm_ad l.length (jm_est (jm_rkl k (c.1.2 i).1 l) (2 ^ (c.1.2 i).1)))))]) F dX5_bestSalt_74 (by decide) [1, 2, 3, 4, 5, 6, 0] rfl ?_
          refine js_iload_n (pc := 76) 2 F rfl dX5_bestSalt_76 ?_
          refine js_bipush (pc := 77) (v := (-6)) F (by decide) dX5_bestSalt_77 ?_
          refine js_icmp_eq (pc := 79) (tgt := 88) F dX5_bestSalt_79 (by decide) (fun h79 => ?_) (fun h79 => ?_)
          · skip
            refine js_iconst (pc := 88) (v := nI (1)) F (by decide) dX5_bestSalt_88 ?_
            refine js_goto (pc := 89) (tgt := 93) F dX5_bestSalt_89 (by decide) ?_
            refine js_istore (pc := 93) (lv2 := [(0, .ref (js_ad y (191))), (1, .int (nI (i))), (2, .int (be)), (3, .int (le)), (4, .int (nI (k))), (5, .int ((nI (jm_est (jm_rkl k (c.1.2 i).1 l) (2 ^ (c.1.2 i).1))) - (nI (l.length)))), (6, .int (nI (jm_ad l.length (jm_est (jm_rkl k (c.1.2 i).1 l) (2 ^ (c.1.2 i).1))))), (7, .int (nI (1)))]) F dX5_bestSalt_93 (by decide) [1, 2, 3, 4, 5, 6, 7, 0] rfl ?_
            refine js_iload (pc := 95) 7 F rfl dX5_bestSalt_95 ?_
            refine js_if_eqN (pc := 97) (a := 1) (tgt := 105) F (by decide) dX5_bestSalt_97 (by decide) (fun h97 => by exfalso; revert h97; decide) (fun _ => ?_)
            refine js_iload (pc := 100) 4 F rfl dX5_bestSalt_100 ?_
            refine js_goto (pc := 102) (tgt := 106) F dX5_bestSalt_102 (by decide) ?_
            refine js_istore_n (pc := 106) (lv2 := [(0, .ref (js_ad y (191))), (1, .int (nI (i))), (2, .int (nI (k))), (3, .int (le)), (4, .int (nI (k))), (5, .int ((nI (jm_est (jm_rkl k (c.1.2 i).1 l) (2 ^ (c.1.2 i).1))) - (nI (l.length)))), (6, .int (nI (jm_ad l.length (jm_est (jm_rkl k (c.1.2 i).1 l) (2 ^ (c.1.2 i).1))))), (7, .int (nI (1)))]) F dX5_bestSalt_106 (by decide) [1, 2, 0, 3, 4, 5, 6, 7] rfl ?_
            refine js_iload (pc := 107) 7 F rfl dX5_bestSalt_107 ?_
            refine js_if_eqN (pc := 109) (a := 1) (tgt := 117) F (by decide) dX5_bestSalt_109 (by decide) (fun h109 => by exfalso; revert h109; decide) (fun _ => ?_)
            refine js_iload (pc := 112) 6 F rfl dX5_bestSalt_112 ?_
            refine js_goto (pc := 114) (tgt := 118) F dX5_bestSalt_114 (by decide) ?_
            refine js_istore_n (pc := 118) (lv2 := [(0, .ref (js_ad y (191))), (1, .int (nI (i))), (2, .int (nI (k))), (3, .int (nI (jm_ad l.length (jm_est (jm_rkl k (c.1.2 i).1 l) (2 ^ (c.1.2 i).1))))), (4, .int (nI (k))), (5, .int ((nI (jm_est (jm_rkl k (c.1.2 i).1 l) (2 ^ (c.1.2 i).1))) - (nI (l.length)))), (6, .int (nI (jm_ad l.length (jm_est (jm_rkl k (c.1.2 i).1 l) (2 ^ (c.1.2 i).1))))), (7, .int (nI (1)))]) F dX5_bestSalt_118 (by decide) [1, 2, 3, 0, 4, 5, 6, 7] rfl ?_
            refine js_iinc (pc := 119) (v := nI (k + 1)) (lv2 := [(0, .ref (js_ad y (191))), (1, .int (nI (i))), (2, .int (nI (k))), (3, .int (nI (jm_ad l.length (jm_est (jm_rkl k (c.1.2 i).1 l) (2 ^ (c.1.2 i).1))))), (4, .int (nI (k + 1))), (5, .int ((nI (jm_est (jm_rkl k (c.1.2 i).1 l) (2 ^ (c.1.2 i).1))) - (nI (l.length)))), (6, .int (nI (jm_ad l.length (jm_est (jm_rkl k (c.1.2 i).1 l) (2 ^ (c.1.2 i).1))))), (7, .int (nI (1)))]) F dX5_bestSalt_119 4 rfl (nI_add _ _) (by decide) [1, 2, 3, 4, 0, 5, 6, 7] rfl ?_
            refine js_goto (pc := 122) (tgt := 28) F dX5_bestSalt_122 (by decide) ?_
            refine js_sub (lv2 := [(0, .ref (js_ad y (191))), (1, .int (nI (i))), (2, .int (nI (k))), (3, .int (nI (jm_ad l.length (jm_est (jm_rkl k (c.1.2 i).1 l) (2 ^ (c.1.2 i).1))))), (4, .int (nI (k + 1)))]) [0, 1, 2, 3, 4] rfl ?_
            exact ih28 (k + 1) (nI (k)) (nI (jm_ad l.length (jm_est (jm_rkl k (c.1.2 i).1 l) (2 ^ (c.1.2 i).1)))) G2 (by omega) (by first | exact jb_yes hinv (by omega) hfd (Or.inl h79) | exact jb_yes hinv (by omega) hfd (Or.inr h85) | exact jb_nay hinv (by omega) hfd h79 h85) (hf.tr f40) (by omega)
          · skip
            refine js_iload (pc := 82) 6 F rfl dX5_bestSalt_82 ?_
            refine js_iload_n (pc := 84) 3 F rfl dX5_bestSalt_84 ?_
            refine js_icmp_ge (pc := 85) (tgt := 92) F dX5_bestSalt_85 (by decide) (fun h85 => ?_) (fun h85 => ?_)
            · skip
              refine js_iconst (pc := 92) (v := nI (0)) F (by decide) dX5_bestSalt_92 ?_
              refine js_istore (pc := 93) (lv2 := [(0, .ref (js_ad y (191))), (1, .int (nI (i))), (2, .int (be)), (3, .int (le)), (4, .int (nI (k))), (5, .int ((nI (jm_est (jm_rkl k (c.1.2 i).1 l) (2 ^ (c.1.2 i).1))) - (nI (l.length)))), (6, .int (nI (jm_ad l.length (jm_est (jm_rkl k (c.1.2 i).1 l) (2 ^ (c.1.2 i).1))))), (7, .int (nI (0)))]) F dX5_bestSalt_93 (by decide) [1, 2, 3, 4, 5, 6, 7, 0] rfl ?_
              refine js_iload (pc := 95) 7 F rfl dX5_bestSalt_95 ?_
              refine js_if_eqN (pc := 97) (a := 0) (tgt := 105) F (by decide) dX5_bestSalt_97 (by decide) (fun _ => ?_) (fun h97 => by exfalso; revert h97; decide)
              refine js_iload_n (pc := 105) 2 F rfl dX5_bestSalt_105 ?_
              refine js_istore_n (pc := 106) (lv2 := [(0, .ref (js_ad y (191))), (1, .int (nI (i))), (2, .int (be)), (3, .int (le)), (4, .int (nI (k))), (5, .int ((nI (jm_est (jm_rkl k (c.1.2 i).1 l) (2 ^ (c.1.2 i).1))) - (nI (l.length)))), (6, .int (nI (jm_ad l.length (jm_est (jm_rkl k (c.1.2 i).1 l) (2 ^ (c.1.2 i).1))))), (7, .int (nI (0)))]) F dX5_bestSalt_106 (by decide) [1, 2, 0, 3, 4, 5, 6, 7] rfl ?_
              refine js_iload (pc := 107) 7 F rfl dX5_bestSalt_107 ?_
              refine js_if_eqN (pc := 109) (a := 0) (tgt := 117) F (by decide) dX5_bestSalt_109 (by decide) (fun _ => ?_) (fun h109 => by exfalso; revert h109; decide)
              refine js_iload_n (pc := 117) 3 F rfl dX5_bestSalt_117 ?_
              refine js_istore_n (pc := 118) (lv2 := [(0, .ref (js_ad y (191))), (1, .int (nI (i))), (2, .int (be)), (3, .int (le)), (4, .int (nI (k))), (5, .int ((nI (jm_est (jm_rkl k (c.1.2 i).1 l) (2 ^ (c.1.2 i).1))) - (nI (l.length)))), (6, .int (nI (jm_ad l.length (jm_est (jm_rkl k (c.1.2 i).1 l) (2 ^ (c.1.2 i).1))))), (7, .int (nI (0)))]) F dX5_bestSalt_118 (by decide) [1, 2, 3, 0, 4, 5, 6, 7] rfl ?_
              refine js_iinc (pc := 119) (v := nI (k + 1)) (lv2 := [(0, .ref (js_ad y (191))), (1, .int (nI (i))), (2, .int (be)), (3, .int (le)), (4, .int (nI (k + 1))), (5, .int ((nI (jm_est (jm_rkl k (c.1.2 i).1 l) (2 ^ (c.1.2 i).1))) - (nI (l.length)))), (6, .int (nI (jm_ad l.length (jm_est (jm_rkl k (c.1.2 i).1 l) (2 ^ (c.1.2 i).1))))), (7, .int (nI (0)))]) F dX5_bestSalt_119 4 rfl (nI_add _ _) (by decide) [1, 2, 3, 4, 0, 5, 6, 7] rfl ?_
              refine js_goto (pc := 122) (tgt := 28) F dX5_bestSalt_122 (by decide) ?_
              refine js_sub (lv2 := [(0, .ref (js_ad y (191))), (1, .int (nI (i))), (2, .int (be)), (3, .int (le)), (4, .int (nI (k + 1)))]) [0, 1, 2, 3, 4] rfl ?_
              exact ih28 (k + 1) be le G2 (by omega) (by first | exact jb_yes hinv (by omega) hfd (Or.inl h79) | exact jb_yes hinv (by omega) hfd (Or.inr h85) | exact jb_nay hinv (by omega) hfd h79 h85) (hf.tr f40) (by omega)
            · skip
              refine js_iconst (pc := 88) (v := nI (1)) F (by decide) dX5_bestSalt_88 ?_
              refine js_goto (pc := 89) (tgt := 93) F dX5_bestSalt_89 (by decide) ?_
              refine js_istore (pc := 93) (lv2 := [(0, .ref (js_ad y (191))), (1, .int (nI (i))), (2, .int (be)), (3, .int (le)), (4, .int (nI (k))), (5, .int ((nI (jm_est (jm_rkl k (c.1.2 i).1 l) (2 ^ (c.1.2 i).1))) - (nI (l.length)))), (6, .int (nI (jm_ad l.length (jm_est (jm_rkl k (c.1.2 i).1 l) (2 ^ (c.1.2 i).1))))), (7, .int (nI (1)))]) F dX5_bestSalt_93 (by decide) [1, 2, 3, 4, 5, 6, 7, 0] rfl ?_
              refine js_iload (pc := 95) 7 F rfl dX5_bestSalt_95 ?_
              refine js_if_eqN (pc := 97) (a := 1) (tgt := 105) F (by decide) dX5_bestSalt_97 (by decide) (fun h97 => by exfalso; revert h97; decide) (fun _ => ?_)
              refine js_iload (pc := 100) 4 F rfl dX5_bestSalt_100 ?_
              refine js_goto (pc := 102) (tgt := 106) F dX5_bestSalt_102 (by decide) ?_
              refine js_istore_n (pc := 106) (lv2 := [(0, .ref (js_ad y (191))), (1, .int (nI (i))), (2, .int (nI (k))), (3, .int (le)), (4, .int (nI (k))), (5, .int ((nI (jm_est (jm_rkl k (c.1.2 i).1 l) (2 ^ (c.1.2 i).1))) - (nI (l.length)))), (6, .int (nI (jm_ad l.length (jm_est (jm_rkl k (c.1.2 i).1 l) (2 ^ (c.1.2 i).1))))), (7, .int (nI (1)))]) F dX5_bestSalt_106 (by decide) [1, 2, 0, 3, 4, 5, 6, 7] rfl ?_
              refine js_iload (pc := 107) 7 F rfl dX5_bestSalt_107 ?_
              refine js_if_eqN (pc := 109) (a := 1) (tgt := 117) F (by decide) dX5_bestSalt_109 (by decide) (fun h109 => by exfalso; revert h109; decide) (fun _ => ?_)
              refine js_iload (pc := 112) 6 F rfl dX5_bestSalt_112 ?_
              refine js_goto (pc := 114) (tgt := 118) F dX5_bestSalt_114 (by decide) ?_
              refine js_istore_n (pc := 118) (lv2 := [(0, .ref (js_ad y (191))), (1, .int (nI (i))), (2, .int (nI (k))), (3, .int (nI (jm_ad l.length (jm_est (jm_rkl k (c.1.2 i).1 l) (2 ^ (c.1.2 i).1))))), (4, .int (nI (k))), (5, .int ((nI (jm_est (jm_rkl k (c.1.2 i).1 l) (2 ^ (c.1.2 i).1))) - (nI (l.length)))), (6, .int (nI (jm_ad l.length (jm_est (jm_rkl k (c.1.2 i).1 l) (2 ^ (c.1.2 i).1))))), (7, .int (nI (1)))]) F dX5_bestSalt_118 (by decide) [1, 2, 3, 0, 4, 5, 6, 7] rfl ?_
              refine js_iinc (pc := 119) (v := nI (k + 1)) (lv2 := [(0, .ref (js_ad y (191))), (1, .int (nI (i))), (2, .int (nI (k))), (3, .int (nI (jm_ad l.length (jm_est (jm_rkl k (c.1.2 i).1 l) (2 ^ (c.1.2 i).1))))), (4, .int (nI (k + 1))), (5, .int ((nI (jm_est (jm_rkl k (c.1.2 i).1 l) (2 ^ (c.1.2 i).1))) - (nI (l.length)))), (6, .int (nI (jm_ad l.length (jm_est (jm_rkl k (c.1.2 i).1 l) (2 ^ (c.1.2 i).1))))), (7, .int (nI (1)))]) F dX5_bestSalt_119 4 rfl (nI_add _ _) (by decide) [1, 2, 3, 4, 0, 5, 6, 7] rfl ?_
              refine js_goto (pc := 122) (tgt := 28) F dX5_bestSalt_122 (by decide) ?_
              refine js_sub (lv2 := [(0, .ref (js_ad y (191))), (1, .int (nI (i))), (2, .int (nI (k))), (3, .int (nI (jm_ad l.length (jm_est (jm_rkl k (c.1.2 i).1 l) (2 ^ (c.1.2 i).1))))), (4, .int (nI (k + 1)))]) [0, 1, 2, 3, 4] rfl ?_
              exact ih28 (k + 1) (nI (k)) (nI (jm_ad l.length (jm_est (jm_rkl k (c.1.2 i).1 l) (2 ^ (c.1.2 i).1)))) G2 (by omega) (by first | exact jb_yes hinv (by omega) hfd (Or.inl h79) | exact jb_yes hinv (by omega) hfd (Or.inr h85) | exact jb_nay hinv (by omega) hfd h79 h85) (hf.tr f40) (by omega)
  exact L28 (_ + 1) 0 (-6) (nI 0) G (by decide) (Or.inl ⟨rfl, rfl, rfl⟩) (mfR.rf) (Nat.lt_succ_self _)
theorem in_X5_wipe_5 : ∀ w ∈ wsX50, w ∈ wsX5_wipe := by decide +kernel
theorem lk_X5_wipe_fieldLink_RX5_173_JoinedSketchesModel_padLength_I : Cond.fieldLink RX5 173 "JoinedSketchesModel" "padLength" "I" ∈ wsX5_wipe := by decide +kernel
theorem mf_X5_wipe : js_M yX5_wipe cX5_wipe 2 (some .int) wsX5_wipe 0 := ⟨⟨_, rfl⟩, by decide +kernel, by decide +kernel, by decide +kernel, by decide +kernel⟩
set_option maxHeartbeats 4000000 in
set_option maxRecDepth 100000 in
theorem c_X5_wipe_2 (la : Launch) {y : js_L} (hy : js_Dy y) {G : js_G} {c : js_C} (hC : mr_C G c)  : js_Ci la y yX5_wipe wsX5_wipe 1 12 [.ref (js_ad y (191))] G (fun r G' => mP (ms_wipe c ) r G G') := by
  refine js_ofi mf_X5_wipe (Nat.le_of_ble_eq_true rfl) hy (fun X F hr => ?_)
  replace F : js_F X y cX5_wipe 2 RX5 wsX5_wipe 1 12 := F
  show js_W X y 2 _ G 0 [(0, .ref (js_ad y (191)))] []
  refine js_aload_n (pc := 0) 0 F rfl dX5_wipe_0 ?_
  refine jg_M_padLength (pc := 1) (v := nI (c.2.2.2.length)) F in_X5_wipe_5 (lk_X5_wipe_fieldLink_RX5_173_JoinedSketchesModel_padLength_I) (hC.2.2.2.1) dX5_wipe_1 ?_
  refine js_istore_n (pc := 4) (lv2 := [(0, .ref (js_ad y (191))), (1, .int (nI (c.2.2.2.length)))]) F dX5_wipe_4 (by decide) [1, 0] rfl ?_
  refine js_aload_n (pc := 5) 0 F rfl dX5_wipe_5 ?_
  refine js_iconst (pc := 6) (v := nI (0)) F (by decide) dX5_wipe_6 ?_
  refine jp_M_padLength (pc := 7) (v := nI (0)) F in_X5_wipe_5 (lk_X5_wipe_fieldLink_RX5_173_JoinedSketchesModel_padLength_I) dX5_wipe_7 ?_
  refine js_iload_n (pc := 10) 1 F rfl dX5_wipe_10 ?_
  refine js_iret (pc := 11) F hr (rfl) ?_ dX5_wipe_11
  show mP (ms_wipe c ) _ _ _
  rw [show ms_wipe c  = (nI c.2.2.2.length, (c.1, c.2.1, c.2.2.1, [])) from rfl]
  refine ⟨rfl, ⟨hC.1.co (js_st_n (by decide)), ⟨?_, hC.2.1.2.1, fun k s hk => (hC.2.1.2.2 k s hk).co (js_st_n (by decide))⟩, fun k hk => ⟨by rw [js_st_n (by decide)]; exact (hC.2.2.1 k hk).1, fun s hs => ((hC.2.2.1 k hk).2 s hs).co (js_st_n (by decide))⟩, by rw [js_st_s]; simp [upd], Nat.zero_le _, fun k hk => absurd hk (Nat.not_lt_zero _)⟩, js_frM.st (by decide)⟩
  rw [js_st_s]; exact (if_neg (by decide)).trans hC.2.1.1
theorem in_X5_undo_5 : ∀ w ∈ wsX50, w ∈ wsX5_undo := by decide +kernel
theorem lk_X5_undo_fieldLink_RX5_35_JoinedSketchesModel_recorded_I : Cond.fieldLink RX5 35 "JoinedSketchesModel" "recorded" "I" ∈ wsX5_undo := by decide +kernel
theorem mf_X5_undo : js_M yX5_undo cX5_undo 1 (some .int) wsX5_undo 0 := ⟨⟨_, rfl⟩, by decide +kernel, by decide +kernel, by decide +kernel, by decide +kernel⟩
set_option maxHeartbeats 4000000 in
set_option maxRecDepth 100000 in
theorem c_X5_undo_1 (la : Launch) {y : js_L} (hy : js_Dy y) {G : js_G} {s0 : js_T} {vp : (Nat → Option js_T) × List Nat} (hC : mr_C G (s0, [], vp)) : js_Ci la y yX5_undo wsX5_undo 2 36 [.ref (js_ad y (191))] G (fun r G' => mP (ms_undo (s0, [], vp)) r G G') := by
  refine js_ofi mf_X5_undo (Nat.le_of_ble_eq_true rfl) hy (fun X F hr => ?_)
  replace F : js_F X y cX5_undo 1 RX5 wsX5_undo 2 36 := F
  show js_W X y 1 _ G 0 [(0, .ref (js_ad y (191)))] []
  refine js_aload_n (pc := 0) 0 F rfl dX5_undo_0 ?_
  refine jg_M_recorded (pc := 1) (v := nI (0)) F in_X5_undo_5 (lk_X5_undo_fieldLink_RX5_35_JoinedSketchesModel_recorded_I) (hC.2.1.1) dX5_undo_1 ?_
  refine js_if_neN (pc := 4) (a := 0) (tgt := 10) F (by decide) dX5_undo_4 (by decide) (fun h4 => by exfalso; revert h4; decide) (fun _ => ?_)
  refine js_bipush (pc := 7) (v := (-5)) F (by decide) dX5_undo_7 ?_
  refine js_iret (pc := 9) F hr (rfl) ?_ dX5_undo_9
  exact ⟨rfl, hC, js_frM.rf⟩
theorem lk_X5_undo_fieldLink_RX5_13_JoinedSketchesModel_history_I : Cond.fieldLink RX5 13 "JoinedSketchesModel" "history" "[I" ∈ wsX5_undo := by decide +kernel
theorem lk_X5_undo_fieldLink_RX5_7_JoinedSketchesModel_state_I : Cond.fieldLink RX5 7 "JoinedSketchesModel" "state" "[I" ∈ wsX5_undo := by decide +kernel
set_option maxHeartbeats 4000000 in
set_option maxRecDepth 100000 in
theorem c_X5_undo_2 (la : Launch) {y : js_L} (hy : js_Dy y) {G : js_G} {s0 : js_T} {vp : (Nat → Option js_T) × List Nat} {h : List js_T} {s : js_T} (hC : mr_C G (s0, h ++ [s], vp)) : js_Ci la y yX5_undo wsX5_undo 2 36 [.ref (js_ad y (191))] G (fun r G' => mP (ms_undo (s0, h ++ [s], vp)) r G G') := by
  have hlh : G 191 2 = nI (h.length + 1) := by rw [hC.2.1.1]; simp
  have hl6 : h.length + 1 ≤ 6 := by simpa using hC.2.1.2.1
  have hTs := hC.2.1.2.2 h.length s (by simp)
  refine js_ofi mf_X5_undo (Nat.le_of_ble_eq_true rfl) hy (fun X F hr => ?_)
  replace F : js_F X y cX5_undo 1 RX5 wsX5_undo 2 36 := F
  show js_W X y 1 _ G 0 [(0, .ref (js_ad y (191)))] []
  refine js_aload_n (pc := 0) 0 F rfl dX5_undo_0 ?_
  refine jg_M_recorded (pc := 1) (v := nI (h.length + 1)) F in_X5_undo_5 (lk_X5_undo_fieldLink_RX5_35_JoinedSketchesModel_recorded_I) (hlh) dX5_undo_1 ?_
  refine js_if_neN (pc := 4) (a := h.length + 1) (tgt := 10) F (by omega) dX5_undo_4 (by decide) (fun h4 => ?_) (fun h4 => by exact absurd h4 (by omega))
  refine js_aload_n (pc := 10) 0 F rfl dX5_undo_10 ?_
  refine js_dup (pc := 11) rfl F dX5_undo_11 ?_
  refine jg_M_recorded (pc := 12) (v := nI (h.length + 1)) F in_X5_undo_5 (lk_X5_undo_fieldLink_RX5_35_JoinedSketchesModel_recorded_I) (hlh) dX5_undo_12 ?_
  refine js_iconst (pc := 15) (v := nI (1)) F (by decide) dX5_undo_15 ?_
  refine js_isubN (pc := 16) (a := h.length + 1) (b := 1) F (by omega) dX5_undo_16 ?_
  refine js_val (v := nI (h.length)) (by rw [Nat.add_sub_cancel]) ?_
  refine jp_M_recorded (pc := 17) (v := nI (h.length)) F in_X5_undo_5 (lk_X5_undo_fieldLink_RX5_35_JoinedSketchesModel_recorded_I) dX5_undo_17 ?_
  obtain ⟨Ga, hGa⟩ : ∃ Ga, Ga = js_st G (191) (2) (nI (h.length)) := ⟨_, rfl⟩
  rw [← hGa]
  have g0 : ∀ a, a ≠ 191 → Ga a = G a := fun a ha => by rw [hGa, js_st_n ha]
  have g2 : Ga 191 2 = nI h.length := by rw [hGa, js_st_s]; simp [upd]
  have g6 : Ga 191 6 = G 191 6 := by rw [hGa, js_st_s]; exact if_neg (by decide)
  refine js_aload_n (pc := 20) 0 F rfl dX5_undo_20 ?_
  refine jg_M_history (pc := 21) F in_X5_undo_5 (lk_X5_undo_fieldLink_RX5_13_JoinedSketchesModel_history_I) dX5_undo_21 ?_
  refine js_aload_n (pc := 24) 0 F rfl dX5_undo_24 ?_
  refine jg_M_recorded (pc := 25) (v := nI (h.length)) F in_X5_undo_5 (lk_X5_undo_fieldLink_RX5_35_JoinedSketchesModel_recorded_I) (g2) dX5_undo_25 ?_
  refine js_sipush (pc := 28) (v := nI (637)) F (by decide) dX5_undo_28 ?_
  refine js_imulN (pc := 31) (a := h.length) (b := 637) F dX5_undo_31 ?_
  refine js_aload_n (pc := 32) 0 F rfl dX5_undo_32 ?_
  refine jg_M_state (pc := 33) F in_X5_undo_5 (lk_X5_undo_fieldLink_RX5_7_JoinedSketchesModel_state_I) dX5_undo_33 ?_
  refine js_iconst (pc := 36) (v := nI (0)) F (by decide) dX5_undo_36 ?_
  refine js_callsv (pc := 37) F (c_X5_moves _ hy (G := Ga) (ka := 193) (kb := 192) (na := 3822) (nb := 637) (f := h.length * 637) (t := 0) (by decide) (by decide) (fun _ => js_ct_Mh) (fun _ => js_ct_Ms) (by decide) (by omega) (by omega) (by decide) (by decide)) mf_X5_moves gX5_undo_X5_moves (by decide) rfl rfl (Nat.le_of_ble_eq_true rfl) dX5_undo_37 ?_
  rintro G37 g37
  refine js_aload_n (pc := 40) 0 F rfl dX5_undo_40 ?_
  refine jg_M_recorded (pc := 41) (v := nI (h.length)) F in_X5_undo_5 (lk_X5_undo_fieldLink_RX5_35_JoinedSketchesModel_recorded_I) (by rw [← g37, js_mv_n (by decide)]; exact g2) dX5_undo_41 ?_
  refine js_iret (pc := 44) F hr (rfl) ?_ dX5_undo_44
  show mP (ms_undo (s0, h ++ [s], vp)) _ _ _
  rw [show ms_undo (s0, h ++ [s], vp) = (nI h.length, (s, h, vp)) from by simp [ms_undo]]
  have e : ∀ a, a ≠ 192 → G37 a = Ga a := fun a ha => by rw [← g37, js_mv_n ha]
  have e2 : ∀ a, a ≠ 191 → a ≠ 192 → G37 a = G a := fun a h1 h2 => (e a h2).trans (g0 a h1)
  refine ⟨rfl, ⟨hTs.mv (fun i hi => ?_), mr_H_pop (v := 0) hC.2.1 (by rw [e 191 (by decide)]; exact g2) (e2 193 (by decide) (by decide)), fun i hi => ⟨by rw [e2 195 (by decide) (by decide)]; exact (hC.2.2.1 i hi).1, fun z hz => ((hC.2.2.1 i hi).2 z hz).co (e2 194 (by decide) (by decide))⟩, ⟨by rw [e 191 (by decide), g6]; exact hC.2.2.2.1, hC.2.2.2.2.1, fun k hk => by rw [e2 196 (by decide) (by decide)]; exact hC.2.2.2.2.2 k hk⟩⟩, fun a ha => e2 a (by omega) (by omega)⟩
  rw [← g37, js_mv_in hi, g0 193 (by decide), Nat.mul_comm 637]
theorem mf_X5_save : js_M yX5_save cX5_save 2 (some .int) wsX5_save 1 := ⟨⟨_, rfl⟩, by decide +kernel, by decide +kernel, by decide +kernel, by decide +kernel⟩
set_option maxHeartbeats 4000000 in
set_option maxRecDepth 100000 in
theorem c_X5_save_1 (la : Launch) {y : js_L} (hy : js_Dy y) {G : js_G} {c : js_C} (hC : mr_C G c) {x : Int32} (hx : jb x 2) : js_Ci la y yX5_save wsX5_save 5 100 [.ref (js_ad y (191)), .int (x)] G (fun r G' => mP (ms_save c x) r G G') := by
  refine js_ofi mf_X5_save (Nat.le_of_ble_eq_true rfl) hy (fun X F hr => ?_)
  replace F : js_F X y cX5_save 2 RX5 wsX5_save 5 100 := F
  show js_W X y 2 _ G 0 [(0, .ref (js_ad y (191))), (1, .int (x))] []
  refine js_iload_n (pc := 0) 1 F rfl dX5_save_0 ?_
  refine js_iconst (pc := 1) (v := nI (0)) F (by decide) dX5_save_1 ?_
  refine js_iconst (pc := 2) (v := nI (1)) F (by decide) dX5_save_2 ?_
  refine js_callsi (pc := 3) F (c_X5_within _ hy (v := x) (lo := nI (0)) (hi := nI (1))) mf_X5_within gX5_save_X5_within (by decide) rfl rfl (Nat.le_of_ble_eq_true rfl) dX5_save_3 ?_
  rintro _ _ ⟨rfl, rfl⟩
  rw [jw_if (k := 1) (by decide)]
  refine js_if_neB (pc := 6) (tgt := 12) F dX5_save_6 (by decide) (fun h6 => by exact absurd hx h6) (fun h6 => ?_)
  refine js_bipush (pc := 9) (v := (-2)) F (by decide) dX5_save_9 ?_
  refine js_iret (pc := 11) F hr (rfl) ?_ dX5_save_11
  show mP (ms_save c x) _ _ _
  rw [show ms_save c x = (-2, c) from if_pos hx]
  exact ⟨rfl, hC, js_frM.rf⟩
theorem in_X5_save_5 : ∀ w ∈ wsX50, w ∈ wsX5_save := by decide +kernel
theorem lk_X5_save_fieldLink_RX5_16_JoinedSketchesModel_slots_I : Cond.fieldLink RX5 16 "JoinedSketchesModel" "slots" "[I" ∈ wsX5_save := by decide +kernel
theorem lk_X5_save_fieldLink_RX5_19_JoinedSketchesModel_isSaved_I : Cond.fieldLink RX5 19 "JoinedSketchesModel" "isSaved" "[I" ∈ wsX5_save := by decide +kernel
theorem lk_X5_save_fieldLink_RX5_7_JoinedSketchesModel_state_I : Cond.fieldLink RX5 7 "JoinedSketchesModel" "state" "[I" ∈ wsX5_save := by decide +kernel
set_option maxHeartbeats 4000000 in
set_option maxRecDepth 100000 in
theorem c_X5_save_2 (la : Launch) {y : js_L} (hy : js_Dy y) {G : js_G} {c : js_C} (hC : mr_C G c) {i : Nat} (hi : i < 2) : js_Ci la y yX5_save wsX5_save 5 100 [.ref (js_ad y (191)), .int (nI (i))] G (fun r G' => mP (ms_save c (nI i)) r G G') := by
  refine js_ofi mf_X5_save (Nat.le_of_ble_eq_true rfl) hy (fun X F hr => ?_)
  replace F : js_F X y cX5_save 2 RX5 wsX5_save 5 100 := F
  show js_W X y 2 _ G 0 [(0, .ref (js_ad y (191))), (1, .int (nI (i)))] []
  refine js_iload_n (pc := 0) 1 F rfl dX5_save_0 ?_
  refine js_iconst (pc := 1) (v := nI (0)) F (by decide) dX5_save_1 ?_
  refine js_iconst (pc := 2) (v := nI (1)) F (by decide) dX5_save_2 ?_
  refine js_callsi (pc := 3) F (c_X5_within _ hy (v := nI (i)) (lo := nI (0)) (hi := nI (1))) mf_X5_within gX5_save_X5_within (by decide) rfl rfl (Nat.le_of_ble_eq_true rfl) dX5_save_3 ?_
  rintro _ _ ⟨rfl, rfl⟩
  rw [jw_if (k := 1) (by decide)]
  refine js_if_neB (pc := 6) (tgt := 12) F dX5_save_6 (by decide) (fun h6 => ?_) (fun h6 => by exact absurd (jb_no hi (by decide)) h6)
  refine js_aload_n (pc := 12) 0 F rfl dX5_save_12 ?_
  refine jg_M_state (pc := 13) F in_X5_save_5 (lk_X5_save_fieldLink_RX5_7_JoinedSketchesModel_state_I) dX5_save_13 ?_
  refine js_iconst (pc := 16) (v := nI (0)) F (by decide) dX5_save_16 ?_
  refine js_aload_n (pc := 17) 0 F rfl dX5_save_17 ?_
  refine jg_M_slots (pc := 18) F in_X5_save_5 (lk_X5_save_fieldLink_RX5_16_JoinedSketchesModel_slots_I) dX5_save_18 ?_
  refine js_sipush (pc := 21) (v := nI (637)) F (by decide) dX5_save_21 ?_
  refine js_iload_n (pc := 24) 1 F rfl dX5_save_24 ?_
  refine js_imulN (pc := 25) (a := 637) (b := i) F dX5_save_25 ?_
  refine js_callsv (pc := 26) F (c_X5_moves _ hy (G := G) (ka := 192) (kb := 194) (na := 637) (nb := 1274) (f := 0) (t := 637 * i) (by decide) (by decide) (fun _ => js_ct_Ms) (fun _ => js_ct_Ml) (by decide) (by omega) (by omega) (by decide) (by decide)) mf_X5_moves gX5_save_X5_moves (by decide) rfl rfl (Nat.le_of_ble_eq_true rfl) dX5_save_26 ?_
  rintro G26 g26
  refine js_aload_n (pc := 29) 0 F rfl dX5_save_29 ?_
  refine jg_M_isSaved (pc := 30) F in_X5_save_5 (lk_X5_save_fieldLink_RX5_19_JoinedSketchesModel_isSaved_I) dX5_save_30 ?_
  refine js_iload_n (pc := 33) 1 F rfl dX5_save_33 ?_
  refine js_iconst (pc := 34) (v := nI (1)) F (by decide) dX5_save_34 ?_
  refine js_iast (pc := 35) (j := i) F (by decide) (fun _ => js_ct_Mi) rfl (by omega) (by decide) dX5_save_35 ?_
  obtain ⟨G2, hG2⟩ : ∃ G2, G2 = js_st G26 (195) (i) (nI (1)) := ⟨_, rfl⟩
  rw [← hG2]
  have hC2 : mr_C G2 (c.1, c.2.1, (fun k => if k = i then some c.1 else c.2.2.1 k), c.2.2.2) := by
    rw [hG2]; exact mr_C.save hC hi g26
  have hX2 : js_frM G G2 := fun a ha => by rw [hG2, js_st_n (by omega), ← g26, js_mv_n (by omega)]
  refine js_aload_n (pc := 36) 0 F rfl dX5_save_36 ?_
  refine js_calli (pc := 37) F (c_X5_allFilled _ hy (G := G2) hC2.1) mf_X5_allFilled gX5_save_X5_allFilled rfl (by decide) (by decide) (js_ct_M) rfl rfl rfl (Nat.le_of_ble_eq_true rfl) dX5_save_37 ?_
  rintro _ _ ⟨rfl, rfl⟩
  refine js_iret (pc := 40) F hr (rfl) ?_ dX5_save_40
  show mP (ms_save c (nI i)) _ _ _
  rw [show ms_save c (nI i) = (nI (jm_aF c.1), (c.1, c.2.1, (fun k => if k = i then some c.1 else c.2.2.1 k), c.2.2.2)) from by unfold ms_save; rw [if_neg (jb_no hi (by decide)), jx (by omega)]]
  exact ⟨rfl, hC2, hX2⟩
theorem mf_X5_restore : js_M yX5_restore cX5_restore 2 (some .int) wsX5_restore 1 := ⟨⟨_, rfl⟩, by decide +kernel, by decide +kernel, by decide +kernel, by decide +kernel⟩
set_option maxHeartbeats 4000000 in
set_option maxRecDepth 100000 in
theorem c_X5_restore_1 (la : Launch) {y : js_L} (hy : js_Dy y) {G : js_G} {c : js_C} (hC : mr_C G c) {x : Int32} (hx : jb x 2) : js_Ci la y yX5_restore wsX5_restore 5 100 [.ref (js_ad y (191)), .int (x)] G (fun r G' => mP (ms_restore c x) r G G') := by
  refine js_ofi mf_X5_restore (Nat.le_of_ble_eq_true rfl) hy (fun X F hr => ?_)
  replace F : js_F X y cX5_restore 2 RX5 wsX5_restore 5 100 := F
  show js_W X y 2 _ G 0 [(0, .ref (js_ad y (191))), (1, .int (x))] []
  refine js_iload_n (pc := 0) 1 F rfl dX5_restore_0 ?_
  refine js_iconst (pc := 1) (v := nI (0)) F (by decide) dX5_restore_1 ?_
  refine js_iconst (pc := 2) (v := nI (1)) F (by decide) dX5_restore_2 ?_
  refine js_callsi (pc := 3) F (c_X5_within _ hy (v := x) (lo := nI (0)) (hi := nI (1))) mf_X5_within gX5_restore_X5_within (by decide) rfl rfl (Nat.le_of_ble_eq_true rfl) dX5_restore_3 ?_
  rintro _ _ ⟨rfl, rfl⟩
  rw [jw_if (k := 1) (by decide)]
  refine js_if_neB (pc := 6) (tgt := 12) F dX5_restore_6 (by decide) (fun h6 => by exact absurd hx h6) (fun h6 => ?_)
  refine js_bipush (pc := 9) (v := (-2)) F (by decide) dX5_restore_9 ?_
  refine js_iret (pc := 11) F hr (rfl) ?_ dX5_restore_11
  show mP (ms_restore c x) _ _ _
  rw [show ms_restore c x = (-2, c) from if_pos hx]
  exact ⟨rfl, hC, js_frM.rf⟩
theorem in_X5_restore_5 : ∀ w ∈ wsX50, w ∈ wsX5_restore := by decide +kernel
theorem lk_X5_restore_fieldLink_RX5_19_JoinedSketchesModel_isSaved_I : Cond.fieldLink RX5 19 "JoinedSketchesModel" "isSaved" "[I" ∈ wsX5_restore := by decide +kernel
set_option maxHeartbeats 4000000 in
set_option maxRecDepth 100000 in
theorem c_X5_restore_2 (la : Launch) {y : js_L} (hy : js_Dy y) {G : js_G} {c : js_C} (hC : mr_C G c) {i : Nat} (hi : i < 2) (hv : c.2.2.1 i = none) : js_Ci la y yX5_restore wsX5_restore 5 100 [.ref (js_ad y (191)), .int (nI (i))] G (fun r G' => mP (ms_restore c (nI i)) r G G') := by
  refine js_ofi mf_X5_restore (Nat.le_of_ble_eq_true rfl) hy (fun X F hr => ?_)
  replace F : js_F X y cX5_restore 2 RX5 wsX5_restore 5 100 := F
  show js_W X y 2 _ G 0 [(0, .ref (js_ad y (191))), (1, .int (nI (i)))] []
  refine js_iload_n (pc := 0) 1 F rfl dX5_restore_0 ?_
  refine js_iconst (pc := 1) (v := nI (0)) F (by decide) dX5_restore_1 ?_
  refine js_iconst (pc := 2) (v := nI (1)) F (by decide) dX5_restore_2 ?_
  refine js_callsi (pc := 3) F (c_X5_within _ hy (v := nI (i)) (lo := nI (0)) (hi := nI (1))) mf_X5_within gX5_restore_X5_within (by decide) rfl rfl (Nat.le_of_ble_eq_true rfl) dX5_restore_3 ?_
  rintro _ _ ⟨rfl, rfl⟩
  rw [jw_if (k := 1) (by decide)]
  refine js_if_neB (pc := 6) (tgt := 12) F dX5_restore_6 (by decide) (fun h6 => ?_) (fun h6 => by exact absurd (jb_no hi (by decide)) h6)
  refine js_aload_n (pc := 12) 0 F rfl dX5_restore_12 ?_
  refine jg_M_isSaved (pc := 13) F in_X5_restore_5 (lk_X5_restore_fieldLink_RX5_19_JoinedSketchesModel_isSaved_I) dX5_restore_13 ?_
  refine js_iload_n (pc := 16) 1 F rfl dX5_restore_16 ?_
  refine js_iald (pc := 17) (j := i) (v := nI (0)) F (by decide) (js_ct_Mi) rfl (by omega) (by decide) (by rw [(hC.2.2.1 i hi).1, if_pos hv]) dX5_restore_17 ?_
  refine js_if_neN (pc := 18) (a := 0) (tgt := 24) F (by decide) dX5_restore_18 (by decide) (fun h18 => by exfalso; revert h18; decide) (fun _ => ?_)
  refine js_bipush (pc := 21) (v := (-5)) F (by decide) dX5_restore_21 ?_
  refine js_iret (pc := 23) F hr (rfl) ?_ dX5_restore_23
  show mP (ms_restore c (nI i)) _ _ _
  rw [show ms_restore c (nI i) = (-5, c) from by unfold ms_restore; rw [if_neg (jb_no hi (by decide)), jx (by omega), hv]]
  exact ⟨rfl, hC, js_frM.rf⟩
theorem lk_X5_restore_fieldLink_RX5_16_JoinedSketchesModel_slots_I : Cond.fieldLink RX5 16 "JoinedSketchesModel" "slots" "[I" ∈ wsX5_restore := by decide +kernel
theorem lk_X5_restore_fieldLink_RX5_7_JoinedSketchesModel_state_I : Cond.fieldLink RX5 7 "JoinedSketchesModel" "state" "[I" ∈ wsX5_restore := by decide +kernel
set_option maxHeartbeats 4000000 in
set_option maxRecDepth 100000 in
theorem c_X5_restore_3 (la : Launch) {y : js_L} (hy : js_Dy y) {G : js_G} {c : js_C} (hC : mr_C G c) {i : Nat} (hi : i < 2) {s : js_T} (hv : c.2.2.1 i = some s) : js_Ci la y yX5_restore wsX5_restore 5 100 [.ref (js_ad y (191)), .int (nI (i))] G (fun r G' => mP (ms_restore c (nI i)) r G G') := by
  refine js_ofi mf_X5_restore (Nat.le_of_ble_eq_true rfl) hy (fun X F hr => ?_)
  replace F : js_F X y cX5_restore 2 RX5 wsX5_restore 5 100 := F
  show js_W X y 2 _ G 0 [(0, .ref (js_ad y (191))), (1, .int (nI (i)))] []
  refine js_iload_n (pc := 0) 1 F rfl dX5_restore_0 ?_
  refine js_iconst (pc := 1) (v := nI (0)) F (by decide) dX5_restore_1 ?_
  refine js_iconst (pc := 2) (v := nI (1)) F (by decide) dX5_restore_2 ?_
  refine js_callsi (pc := 3) F (c_X5_within _ hy (v := nI (i)) (lo := nI (0)) (hi := nI (1))) mf_X5_within gX5_restore_X5_within (by decide) rfl rfl (Nat.le_of_ble_eq_true rfl) dX5_restore_3 ?_
  rintro _ _ ⟨rfl, rfl⟩
  rw [jw_if (k := 1) (by decide)]
  refine js_if_neB (pc := 6) (tgt := 12) F dX5_restore_6 (by decide) (fun h6 => ?_) (fun h6 => by exact absurd (jb_no hi (by decide)) h6)
  refine js_aload_n (pc := 12) 0 F rfl dX5_restore_12 ?_
  refine jg_M_isSaved (pc := 13) F in_X5_restore_5 (lk_X5_restore_fieldLink_RX5_19_JoinedSketchesModel_isSaved_I) dX5_restore_13 ?_
  refine js_iload_n (pc := 16) 1 F rfl dX5_restore_16 ?_
  refine js_iald (pc := 17) (j := i) (v := nI (1)) F (by decide) (js_ct_Mi) rfl (by omega) (by decide) (by rw [(hC.2.2.1 i hi).1, if_neg (by rw [hv]; simp)]) dX5_restore_17 ?_
  refine js_if_neN (pc := 18) (a := 1) (tgt := 24) F (by decide) dX5_restore_18 (by decide) (fun _ => ?_) (fun h18 => by exfalso; revert h18; decide)
  refine js_aload_n (pc := 24) 0 F rfl dX5_restore_24 ?_
  refine js_callv (pc := 25) F (c_X5_record _ hy (h := c.2.1) hC.2.1 hC.1) mf_X5_record gX5_restore_X5_record rfl (by decide) (by decide) (js_ct_M) rfl rfl rfl (Nat.le_of_ble_eq_true rfl) dX5_restore_25 ?_
  rintro G1 ⟨q1, q2⟩
  have hC1 := hC.rec q1 q2
  refine js_aload_n (pc := 28) 0 F rfl dX5_restore_28 ?_
  refine jg_M_slots (pc := 29) F in_X5_restore_5 (lk_X5_restore_fieldLink_RX5_16_JoinedSketchesModel_slots_I) dX5_restore_29 ?_
  refine js_sipush (pc := 32) (v := nI (637)) F (by decide) dX5_restore_32 ?_
  refine js_iload_n (pc := 35) 1 F rfl dX5_restore_35 ?_
  refine js_imulN (pc := 36) (a := 637) (b := i) F dX5_restore_36 ?_
  refine js_aload_n (pc := 37) 0 F rfl dX5_restore_37 ?_
  refine jg_M_state (pc := 38) F in_X5_restore_5 (lk_X5_restore_fieldLink_RX5_7_JoinedSketchesModel_state_I) dX5_restore_38 ?_
  refine js_iconst (pc := 41) (v := nI (0)) F (by decide) dX5_restore_41 ?_
  refine js_callsv (pc := 42) F (c_X5_moves _ hy (G := G1) (ka := 194) (kb := 192) (na := 1274) (nb := 637) (f := 637 * i) (t := 0) (by decide) (by decide) (fun _ => js_ct_Ml) (fun _ => js_ct_Ms) (by decide) (by omega) (by omega) (by decide) (by decide)) mf_X5_moves gX5_restore_X5_moves (by decide) rfl rfl (Nat.le_of_ble_eq_true rfl) dX5_restore_42 ?_
  rintro G42 g42
  have e2 : ∀ a, a ≠ 192 → G42 a = G1 a := fun a ha => by rw [← g42, js_mv_n ha]
  have hC2 : mr_C G42 (s, jm_rec c.2.1 c.1, c.2.2) := hC1.now (fun a x y => e2 a (by omega)) (by rw [e2 191 (by decide)]) (by rw [e2 191 (by decide)]) (((hC1.2.2.1 i hi).2 s hv).mv (fun j hj => by rw [← g42]; exact js_mv_in hj))
  refine js_aload_n (pc := 45) 0 F rfl dX5_restore_45 ?_
  refine js_calli (pc := 46) F (c_X5_allFilled _ hy (G := G42) hC2.1) mf_X5_allFilled gX5_restore_X5_allFilled rfl (by decide) (by decide) (js_ct_M) rfl rfl rfl (Nat.le_of_ble_eq_true rfl) dX5_restore_46 ?_
  rintro _ _ ⟨rfl, rfl⟩
  refine js_iret (pc := 49) F hr (rfl) ?_ dX5_restore_49
  show mP (ms_restore c (nI i)) _ _ _
  rw [show ms_restore c (nI i) = (nI (jm_aF s), jm_chg c s) from by unfold ms_restore; rw [if_neg (jb_no hi (by decide)), jx (by omega), hv]]
  exact ⟨rfl, hC2, (js_frM.H q2).tr (fun a ha => e2 a (by omega))⟩
