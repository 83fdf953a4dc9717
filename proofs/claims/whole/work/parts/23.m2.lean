theorem mf_X5_moves : js_M yX5_moves cX5_moves 5 none wsX5_moves 4 := ⟨⟨_, rfl⟩, by decide +kernel, by decide +kernel, by decide +kernel, by decide +kernel⟩
set_option maxHeartbeats 4000000 in
set_option maxRecDepth 100000 in
theorem c_X5_moves (la : Launch) {y : js_L} (hy : js_Dy y) {G : js_G} {ka kb na nb f t : Nat} (hka : ka < 199) (hkb : kb < 199) (hea : ∀ G2 : js_G, js_ct y G2 ka = .inl (js_cI y, na, .inl (G2 ka))) (heb : ∀ G2 : js_G, js_ct y G2 kb = .inl (js_cI y, nb, .inl (G2 kb))) (hne : ka ≠ kb) (hfa : f + 637 ≤ na) (htb : t + 637 ≤ nb) (hna : na < 2 ^ 31) (hnb : nb < 2 ^ 31) : js_Cv la y yX5_moves wsX5_moves 1 12 [.ref (js_ad y (ka)), .int (nI (f)), .ref (js_ad y (kb)), .int (nI (t))] G (fun G' => js_mv G ka f kb t 637 = G') := by
  refine js_ofv mf_X5_moves (Nat.le_of_ble_eq_true rfl) hy (fun X F hr => ?_)
  replace F : js_F X y cX5_moves 5 RX5 wsX5_moves 1 12 := F
  show js_W X y 5 _ G 0 [(0, .ref (js_ad y (ka))), (1, .int (nI (f))), (2, .ref (js_ad y (kb))), (3, .int (nI (t)))] []
  refine js_iconst (pc := 0) (v := nI (0)) F (by decide) dX5_moves_0 ?_
  refine js_istore (pc := 1) (lv2 := [(0, .ref (js_ad y (ka))), (1, .int (nI (f))), (2, .ref (js_ad y (kb))), (3, .int (nI (t))), (4, .int (nI (0)))]) F dX5_moves_1 (by decide) [1, 2, 3, 4, 0] rfl ?_
  have L3 : ∀ (fu3 : Nat) (k : Nat) (G1 : js_G) (hk : k ≤ 637) (hG1 : G1 = js_mv G ka f kb t k) (hfu3 : 637 - k < fu3), js_W X y 5 (js_Qv X y (fun G' => js_mv G ka f kb t 637 = G')) G1 3 [(0, .ref (js_ad y (ka))), (1, .int (nI (f))), (2, .ref (js_ad y (kb))), (3, .int (nI (t))), (4, .int (nI (k)))] [] := by
    intro fu3
    induction fu3 with
    | zero => intro k G1 hk hG1 hfu3; exact absurd hfu3 (Nat.not_lt_zero _)
    | succ fu3 ih3 =>
      intro k G1 hk hG1 hfu3
      refine js_iload (pc := 3) 4 F rfl dX5_moves_3 ?_
      refine js_sipush (pc := 5) (v := nI (637)) F (by decide) dX5_moves_5 ?_
      refine js_icmp_geN (pc := 8) (a := k) (b := 637) (tgt := 29) F (by omega) (by decide) dX5_moves_8 (by decide) (fun h8 => ?_) (fun h8 => ?_)
      · skip
        refine js_vret (pc := 29) F hr ?_ dX5_moves_29
        rw [show k = 637 by omega] at hG1
        exact hG1.symm
      · skip
        refine js_aload_n (pc := 11) 2 F rfl dX5_moves_11 ?_
        refine js_iload_n (pc := 12) 3 F rfl dX5_moves_12 ?_
        refine js_iload (pc := 13) 4 F rfl dX5_moves_13 ?_
        refine js_iaddN (pc := 15) (a := t) (b := k) F dX5_moves_15 ?_
        refine js_aload_n (pc := 16) 0 F rfl dX5_moves_16 ?_
        refine js_iload_n (pc := 17) 1 F rfl dX5_moves_17 ?_
        refine js_iload (pc := 18) 4 F rfl dX5_moves_18 ?_
        refine js_iaddN (pc := 20) (a := f) (b := k) F dX5_moves_20 ?_
        refine js_iald (pc := 21) (j := f + k) (v := G ka (f + k)) F hka (hea _) rfl (by omega) hna (by rw [hG1, js_mv_n hne]) dX5_moves_21 ?_
        refine js_iast (pc := 22) (j := t + k) F hkb (fun _ => heb _) rfl (by omega) hnb dX5_moves_22 ?_
        refine js_iinc (pc := 23) (v := nI (k + 1)) (lv2 := [(0, .ref (js_ad y (ka))), (1, .int (nI (f))), (2, .ref (js_ad y (kb))), (3, .int (nI (t))), (4, .int (nI (k + 1)))]) F dX5_moves_23 4 rfl (nI_add _ _) (by decide) [1, 2, 3, 4, 0] rfl ?_
        refine js_goto (pc := 26) (tgt := 3) F dX5_moves_26 (by decide) ?_
        exact ih3 (k + 1) (js_st G1 (kb) (t + k) (G ka (f + k))) (by omega) (by rw [hG1]; exact js_mv_s) (by omega)
  exact L3 (_ + 1) 0 G (by decide) (js_mv_0.symm) (Nat.lt_succ_self _)
theorem in_X5_record_5 : ∀ w ∈ wsX50, w ∈ wsX5_record := by decide +kernel
theorem lk_X5_record_fieldLink_RX5_13_JoinedSketchesModel_history_I : Cond.fieldLink RX5 13 "JoinedSketchesModel" "history" "[I" ∈ wsX5_record := by decide +kernel
theorem lk_X5_record_fieldLink_RX5_35_JoinedSketchesModel_recorded_I : Cond.fieldLink RX5 35 "JoinedSketchesModel" "recorded" "I" ∈ wsX5_record := by decide +kernel
theorem lk_X5_record_fieldLink_RX5_7_JoinedSketchesModel_state_I : Cond.fieldLink RX5 7 "JoinedSketchesModel" "state" "[I" ∈ wsX5_record := by decide +kernel
theorem mf_X5_record : js_M yX5_record cX5_record 2 none wsX5_record 0 := ⟨⟨_, rfl⟩, by decide +kernel, by decide +kernel, by decide +kernel, by decide +kernel⟩
set_option maxHeartbeats 4000000 in
set_option maxRecDepth 100000 in
theorem c_X5_record_lt (la : Launch) {y : js_L} (hy : js_Dy y) {G : js_G} {h : List js_T} {s0 : js_T} (hH : mr_H G h) (hlen : ¬ h.length = 6) (hT : mr_T G 192 0 s0) : js_Cv la y yX5_record wsX5_record 2 36 [.ref (js_ad y (191))] G (fun G' => mr_H G' (jm_rec h s0) ∧ mfH G G') := by
  obtain ⟨e2, hl, hh⟩ := id hH
  refine js_ofv mf_X5_record (Nat.le_of_ble_eq_true rfl) hy (fun X F hr => ?_)
  replace F : js_F X y cX5_record 2 RX5 wsX5_record 2 36 := F
  show js_W X y 2 _ G 0 [(0, .ref (js_ad y (191)))] []
  refine js_aload_n (pc := 0) 0 F rfl dX5_record_0 ?_
  refine jg_M_recorded (pc := 1) (v := nI (h.length)) F in_X5_record_5 (lk_X5_record_fieldLink_RX5_35_JoinedSketchesModel_recorded_I) (e2) dX5_record_1 ?_
  refine js_bipush (pc := 4) (v := nI (6)) F (by decide) dX5_record_4 ?_
  refine js_icmp_neN (pc := 6) (a := h.length) (b := 6) (tgt := 50) F (by omega) (by decide) dX5_record_6 (by decide) (fun h6 => ?_) (fun h6 => by exact absurd h6 hlen)
  refine js_aload_n (pc := 50) 0 F rfl dX5_record_50 ?_
  refine jg_M_state (pc := 51) F in_X5_record_5 (lk_X5_record_fieldLink_RX5_7_JoinedSketchesModel_state_I) dX5_record_51 ?_
  refine js_iconst (pc := 54) (v := nI (0)) F (by decide) dX5_record_54 ?_
  refine js_aload_n (pc := 55) 0 F rfl dX5_record_55 ?_
  refine jg_M_history (pc := 56) F in_X5_record_5 (lk_X5_record_fieldLink_RX5_13_JoinedSketchesModel_history_I) dX5_record_56 ?_
  refine js_aload_n (pc := 59) 0 F rfl dX5_record_59 ?_
  refine jg_M_recorded (pc := 60) (v := nI (h.length)) F in_X5_record_5 (lk_X5_record_fieldLink_RX5_35_JoinedSketchesModel_recorded_I) (e2) dX5_record_60 ?_
  refine js_sipush (pc := 63) (v := nI (637)) F (by decide) dX5_record_63 ?_
  refine js_imulN (pc := 66) (a := h.length) (b := 637) F dX5_record_66 ?_
  refine js_callsv (pc := 67) F (c_X5_moves _ hy (G := G) (ka := 192) (kb := 193) (na := 637) (nb := 3822) (f := 0) (t := h.length * 637) (by decide) (by decide) (fun _ => js_ct_Ms) (fun _ => js_ct_Mh) (by decide) (by omega) (by omega) (by decide) (by decide)) mf_X5_moves gX5_record_X5_moves (by decide) rfl rfl (Nat.le_of_ble_eq_true rfl) dX5_record_67 ?_
  rintro G67 g67
  refine js_aload_n (pc := 70) 0 F rfl dX5_record_70 ?_
  refine js_dup (pc := 71) rfl F dX5_record_71 ?_
  refine jg_M_recorded (pc := 72) (v := nI (h.length)) F in_X5_record_5 (lk_X5_record_fieldLink_RX5_35_JoinedSketchesModel_recorded_I) (by rw [← g67, js_mv_n (by decide)]; exact e2) dX5_record_72 ?_
  refine js_iconst (pc := 75) (v := nI (1)) F (by decide) dX5_record_75 ?_
  refine js_iaddN (pc := 76) (a := h.length) (b := 1) F dX5_record_76 ?_
  refine jp_M_recorded (pc := 77) (v := nI (h.length + 1)) F in_X5_record_5 (lk_X5_record_fieldLink_RX5_35_JoinedSketchesModel_recorded_I) dX5_record_77 ?_
  refine js_vret (pc := 80) F hr ?_ dX5_record_80
  refine ⟨?_, fun a x z => ?_, fun i hi => ?_⟩
  · unfold jm_rec; rw [if_neg hlen]
    exact mr_H_push (by omega) hh hT g67
  · rw [js_st_n x, ← g67, js_mv_n z]
  · rw [js_st_s]; exact (if_neg hi).trans (by rw [← g67, js_mv_n (by decide)])
set_option maxHeartbeats 4000000 in
set_option maxRecDepth 100000 in
theorem c_X5_record_eq (la : Launch) {y : js_L} (hy : js_Dy y) {G : js_G} {h : List js_T} {s0 : js_T} (hH : mr_H G h) (hlen : h.length = 6) (hT : mr_T G 192 0 s0) : js_Cv la y yX5_record wsX5_record 2 36 [.ref (js_ad y (191))] G (fun G' => mr_H G' (jm_rec h s0) ∧ mfH G G') := by
  obtain ⟨e2, hl, hh⟩ := id hH
  refine js_ofv mf_X5_record (Nat.le_of_ble_eq_true rfl) hy (fun X F hr => ?_)
  replace F : js_F X y cX5_record 2 RX5 wsX5_record 2 36 := F
  show js_W X y 2 _ G 0 [(0, .ref (js_ad y (191)))] []
  refine js_aload_n (pc := 0) 0 F rfl dX5_record_0 ?_
  refine jg_M_recorded (pc := 1) (v := nI (6)) F in_X5_record_5 (lk_X5_record_fieldLink_RX5_35_JoinedSketchesModel_recorded_I) (by rw [e2, hlen]) dX5_record_1 ?_
  refine js_bipush (pc := 4) (v := nI (6)) F (by decide) dX5_record_4 ?_
  refine js_icmp_neN (pc := 6) (a := 6) (b := 6) (tgt := 50) F (by decide) (by decide) dX5_record_6 (by decide) (fun h6 => by exact absurd rfl h6) (fun h6 => ?_)
  refine js_iconst (pc := 9) (v := nI (0)) F (by decide) dX5_record_9 ?_
  refine js_istore_n (pc := 10) (lv2 := [(0, .ref (js_ad y (191))), (1, .int (nI (0)))]) F dX5_record_10 (by decide) [1, 0] rfl ?_
  have L11 : ∀ (fu11 : Nat) (k : Nat) (G1 : js_G) (hk : k ≤ 3185) (h1 : ∀ j, G1 193 j = if j < k then G 193 (j + 637) else G 193 j) (hf : ∀ a, a ≠ 193 → G1 a = G a) (hfu11 : 3185 - k < fu11), js_W X y 2 (js_Qv X y (fun G' => mr_H G' (jm_rec h s0) ∧ mfH G G')) G1 11 [(0, .ref (js_ad y (191))), (1, .int (nI (k)))] [] := by
    intro fu11
    induction fu11 with
    | zero => intro k G1 hk h1 hf hfu11; exact absurd hfu11 (Nat.not_lt_zero _)
    | succ fu11 ih11 =>
      intro k G1 hk h1 hf hfu11
      refine js_iload_n (pc := 11) 1 F rfl dX5_record_11 ?_
      refine js_sipush (pc := 12) (v := nI (3185)) F (by decide) dX5_record_12 ?_
      refine js_icmp_geN (pc := 15) (a := k) (b := 3185) (tgt := 40) F (by omega) (by decide) dX5_record_15 (by decide) (fun h15 => ?_) (fun h15 => ?_)
      · skip
        refine js_aload_n (pc := 40) 0 F rfl dX5_record_40 ?_
        refine js_dup (pc := 41) rfl F dX5_record_41 ?_
        refine jg_M_recorded (pc := 42) (v := nI (6)) F in_X5_record_5 (lk_X5_record_fieldLink_RX5_35_JoinedSketchesModel_recorded_I) (by rw [hf 191 (by decide), e2, hlen]) dX5_record_42 ?_
        refine js_iconst (pc := 45) (v := nI (1)) F (by decide) dX5_record_45 ?_
        refine js_isubN (pc := 46) (a := 6) (b := 1) F (by omega) dX5_record_46 ?_
        refine js_val (v := nI (5)) (rfl) ?_
        refine jp_M_recorded (pc := 47) (v := nI (5)) F in_X5_record_5 (lk_X5_record_fieldLink_RX5_35_JoinedSketchesModel_recorded_I) dX5_record_47 ?_
        obtain ⟨Ga, hGa⟩ : ∃ Ga, Ga = js_st G1 (191) (2) (nI (5)) := ⟨_, rfl⟩
        rw [← hGa]
        have g0 : ∀ a, a ≠ 191 → a ≠ 193 → Ga a = G a := fun a ha h3 => by rw [hGa, js_st_n ha, hf a h3]
        have g2 : Ga 191 2 = nI 5 := by rw [hGa, js_st_s]; simp [upd]
        have g3 : ∀ i, i ≠ 2 → Ga 191 i = G 191 i := fun i hi => by rw [hGa, js_st_s]; exact (if_neg hi).trans (by rw [hf 191 (by decide)])
        refine js_aload_n (pc := 50) 0 F rfl dX5_record_50 ?_
        refine jg_M_state (pc := 51) F in_X5_record_5 (lk_X5_record_fieldLink_RX5_7_JoinedSketchesModel_state_I) dX5_record_51 ?_
        refine js_iconst (pc := 54) (v := nI (0)) F (by decide) dX5_record_54 ?_
        refine js_aload_n (pc := 55) 0 F rfl dX5_record_55 ?_
        refine jg_M_history (pc := 56) F in_X5_record_5 (lk_X5_record_fieldLink_RX5_13_JoinedSketchesModel_history_I) dX5_record_56 ?_
        refine js_aload_n (pc := 59) 0 F rfl dX5_record_59 ?_
        refine jg_M_recorded (pc := 60) (v := nI (5)) F in_X5_record_5 (lk_X5_record_fieldLink_RX5_35_JoinedSketchesModel_recorded_I) (g2) dX5_record_60 ?_
        refine js_sipush (pc := 63) (v := nI (637)) F (by decide) dX5_record_63 ?_
        refine js_imulN (pc := 66) (a := 5) (b := 637) F dX5_record_66 ?_
        refine js_callsv (pc := 67) F (c_X5_moves _ hy (G := Ga) (ka := 192) (kb := 193) (na := 637) (nb := 3822) (f := 0) (t := 5 * 637) (by decide) (by decide) (fun _ => js_ct_Ms) (fun _ => js_ct_Mh) (by decide) (by omega) (by omega) (by decide) (by decide)) mf_X5_moves gX5_record_X5_moves (by decide) rfl rfl (Nat.le_of_ble_eq_true rfl) dX5_record_67 ?_
        rintro G67 g67
        refine js_aload_n (pc := 70) 0 F rfl dX5_record_70 ?_
        refine js_dup (pc := 71) rfl F dX5_record_71 ?_
        refine jg_M_recorded (pc := 72) (v := nI (5)) F in_X5_record_5 (lk_X5_record_fieldLink_RX5_35_JoinedSketchesModel_recorded_I) (by rw [← g67, js_mv_n (by decide)]; exact g2) dX5_record_72 ?_
        refine js_iconst (pc := 75) (v := nI (1)) F (by decide) dX5_record_75 ?_
        refine js_iaddN (pc := 76) (a := 5) (b := 1) F dX5_record_76 ?_
        refine jp_M_recorded (pc := 77) (v := nI (5 + 1)) F in_X5_record_5 (lk_X5_record_fieldLink_RX5_35_JoinedSketchesModel_recorded_I) dX5_record_77 ?_
        refine js_vret (pc := 80) F hr ?_ dX5_record_80
        refine ⟨?_, fun a x z => ?_, fun i hi => ?_⟩
        · unfold jm_rec; rw [if_pos hlen]
          have hl5 : h.tail.length = 5 := by simp [hlen]
          have := mr_H_push (Ga := Ga) (Gb := G67) (h := h.tail) (s := s0) (by omega) (fun k s hk => ?_) (hT.co (g0 192 (by decide) (by decide))) (by rw [hl5]; exact g67)
          · rw [hl5] at this; exact this
          · have hk5 := (List.getElem?_eq_some_iff.mp hk).1
            have := hh (k + 1) s (by rw [← hk]; simp [List.getElem?_tail])
            refine this.mv (fun i hi => ?_)
            rw [hGa, js_st_n (by decide), h1, if_pos (by omega)]
            congr 1
            omega
        · rw [js_st_n x, ← g67, js_mv_n z]; exact g0 a x z
        · rw [js_st_s]; exact (if_neg hi).trans (by rw [← g67, js_mv_n (by decide)]; exact g3 i hi)
      · skip
        refine js_aload_n (pc := 18) 0 F rfl dX5_record_18 ?_
        refine jg_M_history (pc := 19) F in_X5_record_5 (lk_X5_record_fieldLink_RX5_13_JoinedSketchesModel_history_I) dX5_record_19 ?_
        refine js_iload_n (pc := 22) 1 F rfl dX5_record_22 ?_
        refine js_aload_n (pc := 23) 0 F rfl dX5_record_23 ?_
        refine jg_M_history (pc := 24) F in_X5_record_5 (lk_X5_record_fieldLink_RX5_13_JoinedSketchesModel_history_I) dX5_record_24 ?_
        refine js_iload_n (pc := 27) 1 F rfl dX5_record_27 ?_
        refine js_sipush (pc := 28) (v := nI (637)) F (by decide) dX5_record_28 ?_
        refine js_iaddN (pc := 31) (a := k) (b := 637) F dX5_record_31 ?_
        refine js_iald (pc := 32) (j := k + 637) (v := G 193 (k + 637)) F (by decide) (js_ct_Mh) rfl (by omega) (by decide) (by rw [h1, if_neg (by omega)]) dX5_record_32 ?_
        refine js_iast (pc := 33) (j := k) F (by decide) (fun _ => js_ct_Mh) rfl (by omega) (by decide) dX5_record_33 ?_
        refine js_iinc (pc := 34) (v := nI (k + 1)) (lv2 := [(0, .ref (js_ad y (191))), (1, .int (nI (k + 1)))]) F dX5_record_34 1 rfl (nI_add _ _) (by decide) [1, 0] rfl ?_
        refine js_goto (pc := 37) (tgt := 11) F dX5_record_37 (by decide) ?_
        exact ih11 (k + 1) (js_st G1 (193) (k) (G 193 (k + 637))) (by omega) (fun j => by rw [js_st_s]; unfold upd; by_cases q : j = k; (rw [if_pos q, if_pos (by omega), q]); (rw [if_neg q, h1 j]; by_cases q2 : j < k; (rw [if_pos q2, if_pos (by omega)]); (rw [if_neg q2, if_neg (by omega)]))) (fun a ha => (js_st_n ha).trans (hf a ha)) (by omega)
  exact L11 (_ + 1) 0 G (by decide) (fun j => (if_neg (Nat.not_lt_zero _)).symm) (fun _ _ => rfl) (Nat.lt_succ_self _)
theorem c_X5_record (la : Launch) {y : js_L} (hy : js_Dy y) {G : js_G} {h : List js_T} {s0 : js_T} (hH : mr_H G h) (hT : mr_T G 192 0 s0) : js_Cv la y yX5_record wsX5_record 2 36 [.ref (js_ad y (191))] G (fun G' => mr_H G' (jm_rec h s0) ∧ mfH G G') := by
  by_cases q : h.length = 6
  · exact c_X5_record_eq la hy hH q hT
  · exact c_X5_record_lt la hy hH q hT
theorem c_X5_isFull (la : Launch) {y : js_L} (hy : js_Dy y) {G : js_G} {s : Nat} (hs : s < 6) {B : Nat} {rk : Nat → Nat} {ls : Option (List Nat)} (hS : mr_S G 192 (1 + 106 * s) B rk ls) : js_Ci la y yX5_isFull wsX5_isFull 2 34 [.ref (js_ad y (191)), .int (nI (s))] G (fun r G' => r = nI (if ls = none then 1 else 0) ∧ G = G') := by
  cases ls with
  | none => exact (c_X5_isFull_n la hy hs hS).mono (fun r G' h => ⟨by rw [if_pos rfl]; exact h.1, h.2⟩)
  | some l => exact (c_X5_isFull_s la hy hs hS).mono (fun r G' h => ⟨by rw [if_neg (fun q => by cases q)]; exact h.1, h.2⟩)
theorem mf_X5_allFilled : js_M yX5_allFilled cX5_allFilled 3 (some .int) wsX5_allFilled 0 := ⟨⟨_, rfl⟩, by decide +kernel, by decide +kernel, by decide +kernel, by decide +kernel⟩
set_option maxHeartbeats 4000000 in
set_option maxRecDepth 100000 in
theorem c_X5_allFilled (la : Launch) {y : js_L} (hy : js_Dy y) {G : js_G} {s0 : js_T} (hT : mr_T G 192 0 s0) : js_Ci la y yX5_allFilled wsX5_allFilled 4 78 [.ref (js_ad y (191))] G (fun r G' => r = nI (jm_sum (fun i => jm_fil (s0.2 i).2.1 (2 ^ (s0.2 i).1)) 6) ∧ G = G') := by
  refine js_ofi mf_X5_allFilled (Nat.le_of_ble_eq_true rfl) hy (fun X F hr => ?_)
  replace F : js_F X y cX5_allFilled 3 RX5 wsX5_allFilled 4 78 := F
  show js_W X y 3 _ G 0 [(0, .ref (js_ad y (191)))] []
  refine js_iconst (pc := 0) (v := nI (0)) F (by decide) dX5_allFilled_0 ?_
  refine js_istore_n (pc := 1) (lv2 := [(0, .ref (js_ad y (191))), (1, .int (nI (0)))]) F dX5_allFilled_1 (by decide) [1, 0] rfl ?_
  refine js_iconst (pc := 2) (v := nI (0)) F (by decide) dX5_allFilled_2 ?_
  refine js_istore_n (pc := 3) (lv2 := [(0, .ref (js_ad y (191))), (1, .int (nI (0))), (2, .int (nI (0)))]) F dX5_allFilled_3 (by decide) [1, 2, 0] rfl ?_
  have L4 : ∀ (fu4 : Nat) (i : Nat) (a : Nat) (hi : i ≤ 6) (ha : a = jm_sum (fun i => jm_fil (s0.2 i).2.1 (2 ^ (s0.2 i).1)) i) (hfu4 : 6 - i < fu4), js_W X y 3 (js_Qi X y (fun r G' => r = nI (jm_sum (fun i => jm_fil (s0.2 i).2.1 (2 ^ (s0.2 i).1)) 6) ∧ G = G')) G 4 [(0, .ref (js_ad y (191))), (1, .int (nI (a))), (2, .int (nI (i)))] [] := by
    intro fu4
    induction fu4 with
    | zero => intro i a hi ha hfu4; exact absurd hfu4 (Nat.not_lt_zero _)
    | succ fu4 ih4 =>
      intro i a hi ha hfu4
      refine js_iload_n (pc := 4) 2 F rfl dX5_allFilled_4 ?_
      refine js_bipush (pc := 5) (v := nI (6)) F (by decide) dX5_allFilled_5 ?_
      refine js_icmp_geN (pc := 7) (a := i) (b := 6) (tgt := 24) F (by omega) (by decide) dX5_allFilled_7 (by decide) (fun h7 => ?_) (fun h7 => ?_)
      · skip
        refine js_iload_n (pc := 24) 1 F rfl dX5_allFilled_24 ?_
        refine js_iret (pc := 25) F hr (rfl) ?_ dX5_allFilled_25
        exact ⟨by rw [ha, show i = 6 by omega], rfl⟩
      · skip
        refine js_iload_n (pc := 10) 1 F rfl dX5_allFilled_10 ?_
        refine js_aload_n (pc := 11) 0 F rfl dX5_allFilled_11 ?_
        refine js_iload_n (pc := 12) 2 F rfl dX5_allFilled_12 ?_
        refine js_calli (pc := 13) F (c_X5_filled _ hy (s := i) (by omega) (G := G) (hT.K (by omega))) mf_X5_filled gX5_allFilled_X5_filled rfl (by decide) (by decide) (js_ct_M) rfl rfl rfl (Nat.le_of_ble_eq_true rfl) dX5_allFilled_13 ?_
        rintro _ _ ⟨rfl, rfl⟩
        refine js_iaddN (pc := 16) (a := a) (b := jm_fil ((s0.2 (i)).2.1) (2 ^ ((s0.2 (i)).1))) F dX5_allFilled_16 ?_
        refine js_istore_n (pc := 17) (lv2 := [(0, .ref (js_ad y (191))), (1, .int (nI (a + (jm_fil ((s0.2 (i)).2.1) (2 ^ ((s0.2 (i)).1)))))), (2, .int (nI (i)))]) F dX5_allFilled_17 (by decide) [1, 0, 2] rfl ?_
        refine js_iinc (pc := 18) (v := nI (i + 1)) (lv2 := [(0, .ref (js_ad y (191))), (1, .int (nI (a + (jm_fil ((s0.2 (i)).2.1) (2 ^ ((s0.2 (i)).1)))))), (2, .int (nI (i + 1)))]) F dX5_allFilled_18 2 rfl (nI_add _ _) (by decide) [1, 2, 0] rfl ?_
        refine js_goto (pc := 21) (tgt := 4) F dX5_allFilled_21 (by decide) ?_
        exact ih4 (i + 1) (a + (jm_fil ((s0.2 (i)).2.1) (2 ^ ((s0.2 (i)).1)))) (by omega) (by simp only [jm_sum]; rw [← ha]) (by omega)
  exact L4 (_ + 1) 0 0 (Nat.zero_le _) (rfl) (Nat.lt_succ_self _)
theorem mf_X5_sketchesFilled : js_M yX5_sketchesFilled cX5_sketchesFilled 3 (some .int) wsX5_sketchesFilled 0 := ⟨⟨_, rfl⟩, by decide +kernel, by decide +kernel, by decide +kernel, by decide +kernel⟩
set_option maxHeartbeats 4000000 in
set_option maxRecDepth 100000 in
theorem c_X5_sketchesFilled (la : Launch) {y : js_L} (hy : js_Dy y) {G : js_G} {s0 : js_T} (hT : mr_T G 192 0 s0) : js_Ci la y yX5_sketchesFilled wsX5_sketchesFilled 4 78 [.ref (js_ad y (191))] G (fun r G' => r = nI (jm_sum (fun i => if 0 < jm_fil (s0.2 i).2.1 (2 ^ (s0.2 i).1) then 1 else 0) 6) ∧ G = G') := by
  refine js_ofi mf_X5_sketchesFilled (Nat.le_of_ble_eq_true rfl) hy (fun X F hr => ?_)
  replace F : js_F X y cX5_sketchesFilled 3 RX5 wsX5_sketchesFilled 4 78 := F
  show js_W X y 3 _ G 0 [(0, .ref (js_ad y (191)))] []
  refine js_iconst (pc := 0) (v := nI (0)) F (by decide) dX5_sketchesFilled_0 ?_
  refine js_istore_n (pc := 1) (lv2 := [(0, .ref (js_ad y (191))), (1, .int (nI (0)))]) F dX5_sketchesFilled_1 (by decide) [1, 0] rfl ?_
  refine js_iconst (pc := 2) (v := nI (0)) F (by decide) dX5_sketchesFilled_2 ?_
  refine js_istore_n (pc := 3) (lv2 := [(0, .ref (js_ad y (191))), (1, .int (nI (0))), (2, .int (nI (0)))]) F dX5_sketchesFilled_3 (by decide) [1, 2, 0] rfl ?_
  have L4 : ∀ (fu4 : Nat) (i : Nat) (a : Nat) (hi : i ≤ 6) (ha : a = jm_sum (fun i => if 0 < jm_fil (s0.2 i).2.1 (2 ^ (s0.2 i).1) then 1 else 0) i) (hfu4 : 6 - i < fu4), js_W X y 3 (js_Qi X y (fun r G' => r = nI (jm_sum (fun i => if 0 < jm_fil (s0.2 i).2.1 (2 ^ (s0.2 i).1) then 1 else 0) 6) ∧ G = G')) G 4 [(0, .ref (js_ad y (191))), (1, .int (nI (a))), (2, .int (nI (i)))] [] := by
    intro fu4
    induction fu4 with
    | zero => intro i a hi ha hfu4; exact absurd hfu4 (Nat.not_lt_zero _)
    | succ fu4 ih4 =>
      intro i a hi ha hfu4
      refine js_iload_n (pc := 4) 2 F rfl dX5_sketchesFilled_4 ?_
      refine js_bipush (pc := 5) (v := nI (6)) F (by decide) dX5_sketchesFilled_5 ?_
      refine js_icmp_geN (pc := 7) (a := i) (b := 6) (tgt := 32) F (by omega) (by decide) dX5_sketchesFilled_7 (by decide) (fun h7 => ?_) (fun h7 => ?_)
      · skip
        refine js_iload_n (pc := 32) 1 F rfl dX5_sketchesFilled_32 ?_
        refine js_iret (pc := 33) F hr (rfl) ?_ dX5_sketchesFilled_33
        exact ⟨by rw [ha, show i = 6 by omega], rfl⟩
      · skip
        have hfl := jm_fil_le (s0.2 i).2.1 (2 ^ (s0.2 i).1); have hp := jm_p6 (hT.K (i := i) (by omega)).2.1
        refine js_iload_n (pc := 10) 1 F rfl dX5_sketchesFilled_10 ?_
        refine js_aload_n (pc := 11) 0 F rfl dX5_sketchesFilled_11 ?_
        refine js_iload_n (pc := 12) 2 F rfl dX5_sketchesFilled_12 ?_
        refine js_calli (pc := 13) F (c_X5_filled _ hy (s := i) (by omega) (G := G) (hT.K (by omega))) mf_X5_filled gX5_sketchesFilled_X5_filled rfl (by decide) (by decide) (js_ct_M) rfl rfl rfl (Nat.le_of_ble_eq_true rfl) dX5_sketchesFilled_13 ?_
        rintro _ _ ⟨rfl, rfl⟩
        refine js_if_leN (pc := 16) (a := jm_fil ((s0.2 (i)).2.1) (2 ^ ((s0.2 (i)).1))) (tgt := 23) F (by omega) dX5_sketchesFilled_16 (by decide) (fun h16 => ?_) (fun h16 => ?_)
        · skip
          refine js_iconst (pc := 23) (v := nI (0)) F (by decide) dX5_sketchesFilled_23 ?_
          refine js_iaddN (pc := 24) (a := a) (b := 0) F dX5_sketchesFilled_24 ?_
          refine js_istore_n (pc := 25) (lv2 := [(0, .ref (js_ad y (191))), (1, .int (nI (a + 0))), (2, .int (nI (i)))]) F dX5_sketchesFilled_25 (by decide) [1, 0, 2] rfl ?_
          refine js_iinc (pc := 26) (v := nI (i + 1)) (lv2 := [(0, .ref (js_ad y (191))), (1, .int (nI (a + 0))), (2, .int (nI (i + 1)))]) F dX5_sketchesFilled_26 2 rfl (nI_add _ _) (by decide) [1, 2, 0] rfl ?_
          refine js_goto (pc := 29) (tgt := 4) F dX5_sketchesFilled_29 (by decide) ?_
          exact ih4 (i + 1) (a + 0) (by omega) (by simp only [jm_sum]; rw [← ha]; split <;> omega) (by omega)
        · skip
          refine js_iconst (pc := 19) (v := nI (1)) F (by decide) dX5_sketchesFilled_19 ?_
          refine js_goto (pc := 20) (tgt := 24) F dX5_sketchesFilled_20 (by decide) ?_
          refine js_iaddN (pc := 24) (a := a) (b := 1) F dX5_sketchesFilled_24 ?_
          refine js_istore_n (pc := 25) (lv2 := [(0, .ref (js_ad y (191))), (1, .int (nI (a + 1))), (2, .int (nI (i)))]) F dX5_sketchesFilled_25 (by decide) [1, 0, 2] rfl ?_
          refine js_iinc (pc := 26) (v := nI (i + 1)) (lv2 := [(0, .ref (js_ad y (191))), (1, .int (nI (a + 1))), (2, .int (nI (i + 1)))]) F dX5_sketchesFilled_26 2 rfl (nI_add _ _) (by decide) [1, 2, 0] rfl ?_
          refine js_goto (pc := 29) (tgt := 4) F dX5_sketchesFilled_29 (by decide) ?_
          exact ih4 (i + 1) (a + 1) (by omega) (by simp only [jm_sum]; rw [← ha]; split <;> omega) (by omega)
  exact L4 (_ + 1) 0 0 (Nat.zero_le _) (rfl) (Nat.lt_succ_self _)
theorem mf_X5_fullLists : js_M yX5_fullLists cX5_fullLists 3 (some .int) wsX5_fullLists 0 := ⟨⟨_, rfl⟩, by decide +kernel, by decide +kernel, by decide +kernel, by decide +kernel⟩
set_option maxHeartbeats 4000000 in
set_option maxRecDepth 100000 in
theorem c_X5_fullLists (la : Launch) {y : js_L} (hy : js_Dy y) {G : js_G} {s0 : js_T} (hT : mr_T G 192 0 s0) : js_Ci la y yX5_fullLists wsX5_fullLists 3 55 [.ref (js_ad y (191))] G (fun r G' => r = nI (jm_sum (fun i => if (s0.2 i).2.2 = none then 1 else 0) 6) ∧ G = G') := by
  refine js_ofi mf_X5_fullLists (Nat.le_of_ble_eq_true rfl) hy (fun X F hr => ?_)
  replace F : js_F X y cX5_fullLists 3 RX5 wsX5_fullLists 3 55 := F
  show js_W X y 3 _ G 0 [(0, .ref (js_ad y (191)))] []
  refine js_iconst (pc := 0) (v := nI (0)) F (by decide) dX5_fullLists_0 ?_
  refine js_istore_n (pc := 1) (lv2 := [(0, .ref (js_ad y (191))), (1, .int (nI (0)))]) F dX5_fullLists_1 (by decide) [1, 0] rfl ?_
  refine js_iconst (pc := 2) (v := nI (0)) F (by decide) dX5_fullLists_2 ?_
  refine js_istore_n (pc := 3) (lv2 := [(0, .ref (js_ad y (191))), (1, .int (nI (0))), (2, .int (nI (0)))]) F dX5_fullLists_3 (by decide) [1, 2, 0] rfl ?_
  have L4 : ∀ (fu4 : Nat) (i : Nat) (a : Nat) (hi : i ≤ 6) (ha : a = jm_sum (fun i => if (s0.2 i).2.2 = none then 1 else 0) i) (hfu4 : 6 - i < fu4), js_W X y 3 (js_Qi X y (fun r G' => r = nI (jm_sum (fun i => if (s0.2 i).2.2 = none then 1 else 0) 6) ∧ G = G')) G 4 [(0, .ref (js_ad y (191))), (1, .int (nI (a))), (2, .int (nI (i)))] [] := by
    intro fu4
    induction fu4 with
    | zero => intro i a hi ha hfu4; exact absurd hfu4 (Nat.not_lt_zero _)
    | succ fu4 ih4 =>
      intro i a hi ha hfu4
      refine js_iload_n (pc := 4) 2 F rfl dX5_fullLists_4 ?_
      refine js_bipush (pc := 5) (v := nI (6)) F (by decide) dX5_fullLists_5 ?_
      refine js_icmp_geN (pc := 7) (a := i) (b := 6) (tgt := 32) F (by omega) (by decide) dX5_fullLists_7 (by decide) (fun h7 => ?_) (fun h7 => ?_)
      · skip
        refine js_iload_n (pc := 32) 1 F rfl dX5_fullLists_32 ?_
        refine js_iret (pc := 33) F hr (rfl) ?_ dX5_fullLists_33
        exact ⟨by rw [ha, show i = 6 by omega], rfl⟩
      · skip
        refine js_iload_n (pc := 10) 1 F rfl dX5_fullLists_10 ?_
        refine js_aload_n (pc := 11) 0 F rfl dX5_fullLists_11 ?_
        refine js_iload_n (pc := 12) 2 F rfl dX5_fullLists_12 ?_
        refine js_calli (pc := 13) F (c_X5_isFull _ hy (s := i) (by omega) (G := G) (hT.K (by omega))) mf_X5_isFull gX5_fullLists_X5_isFull rfl (by decide) (by decide) (js_ct_M) rfl rfl rfl (Nat.le_of_ble_eq_true rfl) dX5_fullLists_13 ?_
        rintro _ _ ⟨rfl, rfl⟩
        refine js_if_eqB (pc := 16) (tgt := 23) F dX5_fullLists_16 (by decide) (fun h16 => ?_) (fun h16 => ?_)
        · skip
          refine js_iconst (pc := 23) (v := nI (0)) F (by decide) dX5_fullLists_23 ?_
          refine js_iaddN (pc := 24) (a := a) (b := 0) F dX5_fullLists_24 ?_
          refine js_istore_n (pc := 25) (lv2 := [(0, .ref (js_ad y (191))), (1, .int (nI (a + 0))), (2, .int (nI (i)))]) F dX5_fullLists_25 (by decide) [1, 0, 2] rfl ?_
          refine js_iinc (pc := 26) (v := nI (i + 1)) (lv2 := [(0, .ref (js_ad y (191))), (1, .int (nI (a + 0))), (2, .int (nI (i + 1)))]) F dX5_fullLists_26 2 rfl (nI_add _ _) (by decide) [1, 2, 0] rfl ?_
          refine js_goto (pc := 29) (tgt := 4) F dX5_fullLists_29 (by decide) ?_
          exact ih4 (i + 1) (a + 0) (by omega) (by simp only [jm_sum]; rw [← ha]; first | rw [if_pos h16] | rw [if_neg h16]) (by omega)
        · skip
          refine js_iconst (pc := 19) (v := nI (1)) F (by decide) dX5_fullLists_19 ?_
          refine js_goto (pc := 20) (tgt := 24) F dX5_fullLists_20 (by decide) ?_
          refine js_iaddN (pc := 24) (a := a) (b := 1) F dX5_fullLists_24 ?_
          refine js_istore_n (pc := 25) (lv2 := [(0, .ref (js_ad y (191))), (1, .int (nI (a + 1))), (2, .int (nI (i)))]) F dX5_fullLists_25 (by decide) [1, 0, 2] rfl ?_
          refine js_iinc (pc := 26) (v := nI (i + 1)) (lv2 := [(0, .ref (js_ad y (191))), (1, .int (nI (a + 1))), (2, .int (nI (i + 1)))]) F dX5_fullLists_26 2 rfl (nI_add _ _) (by decide) [1, 2, 0] rfl ?_
          refine js_goto (pc := 29) (tgt := 4) F dX5_fullLists_29 (by decide) ?_
          exact ih4 (i + 1) (a + 1) (by omega) (by simp only [jm_sum]; rw [← ha]; first | rw [if_pos h16] | rw [if_neg h16]) (by omega)
  exact L4 (_ + 1) 0 0 (Nat.zero_le _) (rfl) (Nat.lt_succ_self _)
theorem mf_X5_addsRange : js_M yX5_addsRange cX5_addsRange 6 (some .int) wsX5_addsRange 3 := ⟨⟨_, rfl⟩, by decide +kernel, by decide +kernel, by decide +kernel, by decide +kernel⟩
set_option maxHeartbeats 4000000 in
set_option maxRecDepth 100000 in
theorem c_X5_addsRange (la : Launch) {y : js_L} (hy : js_Dy y) {G : js_G} {s : Nat} (hs : s < 6) {B : Nat} {rk : Nat → Nat} {ls : Option (List Nat)} (hS : mr_S G 192 (1 + 106 * s) B rk ls) {sl : Nat} (hsl : G 192 0 = nI sl) (hsl6 : sl < 65536) {a n : Nat} (han : a + n ≤ 100000) : js_Ci la y yX5_addsRange wsX5_addsRange 6 122 [.ref (js_ad y (191)), .int (nI (s)), .int (nI (a)), .int (nI (n))] G (fun r G' => r = nI (jm_takes sl B rk ls a n).2.2 ∧ mr_S G' 192 (1 + 106 * s) B (jm_takes sl B rk ls a n).1 (jm_takes sl B rk ls a n).2.1 ∧ mfS s G G') := by
  refine js_ofi mf_X5_addsRange (Nat.le_of_ble_eq_true rfl) hy (fun X F hr => ?_)
  replace F : js_F X y cX5_addsRange 6 RX5 wsX5_addsRange 6 122 := F
  show js_W X y 6 _ G 0 [(0, .ref (js_ad y (191))), (1, .int (nI (s))), (2, .int (nI (a))), (3, .int (nI (n)))] []
  refine js_iconst (pc := 0) (v := nI (0)) F (by decide) dX5_addsRange_0 ?_
  refine js_istore (pc := 1) (lv2 := [(0, .ref (js_ad y (191))), (1, .int (nI (s))), (2, .int (nI (a))), (3, .int (nI (n))), (4, .int (nI (0)))]) F dX5_addsRange_1 (by decide) [1, 2, 3, 4, 0] rfl ?_
  refine js_iconst (pc := 3) (v := nI (0)) F (by decide) dX5_addsRange_3 ?_
  refine js_istore (pc := 4) (lv2 := [(0, .ref (js_ad y (191))), (1, .int (nI (s))), (2, .int (nI (a))), (3, .int (nI (n))), (4, .int (nI (0))), (5, .int (nI (0)))]) F dX5_addsRange_4 (by decide) [1, 2, 3, 4, 5, 0] rfl ?_
  have L6 : ∀ (fu6 : Nat) (k : Nat) (c0 : Nat) (G1 : js_G) (hk : k ≤ n) (hc : c0 = (jm_takes sl B rk ls a k).2.2) (hS1 : mr_S G1 192 (1 + 106 * s) B (jm_takes sl B rk ls a k).1 (jm_takes sl B rk ls a k).2.1) (hf : mfS s G G1) (hfu6 : n - k < fu6), js_W X y 6 (js_Qi X y (fun r G' => r = nI (jm_takes sl B rk ls a n).2.2 ∧ mr_S G' 192 (1 + 106 * s) B (jm_takes sl B rk ls a n).1 (jm_takes sl B rk ls a n).2.1 ∧ mfS s G G')) G1 6 [(0, .ref (js_ad y (191))), (1, .int (nI (s))), (2, .int (nI (a))), (3, .int (nI (n))), (4, .int (nI (c0))), (5, .int (nI (k)))] [] := by
    intro fu6
    induction fu6 with
    | zero => intro k c0 G1 hk hc hS1 hf hfu6; exact absurd hfu6 (Nat.not_lt_zero _)
    | succ fu6 ih6 =>
      intro k c0 G1 hk hc hS1 hf hfu6
      refine js_iload (pc := 6) 5 F rfl dX5_addsRange_6 ?_
      refine js_iload_n (pc := 8) 3 F rfl dX5_addsRange_8 ?_
      refine js_icmp_geN (pc := 9) (a := k) (b := n) (tgt := 32) F (by omega) (by omega) dX5_addsRange_9 (by decide) (fun h9 => ?_) (fun h9 => ?_)
      · skip
        refine js_iload (pc := 32) 4 F rfl dX5_addsRange_32 ?_
        refine js_iret (pc := 34) F hr (rfl) ?_ dX5_addsRange_34
        have e : k = n := by omega
        subst e
        exact ⟨by rw [hc], hS1, hf⟩
      · skip
        refine js_iload (pc := 12) 4 F rfl dX5_addsRange_12 ?_
        refine js_aload_n (pc := 14) 0 F rfl dX5_addsRange_14 ?_
        refine js_iload_n (pc := 15) 1 F rfl dX5_addsRange_15 ?_
        refine js_iload_n (pc := 16) 2 F rfl dX5_addsRange_16 ?_
        refine js_iload (pc := 17) 5 F rfl dX5_addsRange_17 ?_
        refine js_iaddN (pc := 19) (a := a) (b := k) F dX5_addsRange_19 ?_
        refine js_calli (pc := 20) F (c_X5_adds _ hy hs (G := G1) hS1 (sl := sl) ((hf.2 0 (Or.inl (by omega))).trans hsl) hsl6 (t := a + k) (by omega)) mf_X5_adds gX5_addsRange_X5_adds rfl (by decide) (by decide) (js_ct_M) rfl rfl rfl (Nat.le_of_ble_eq_true rfl) dX5_addsRange_20 ?_
        rintro _ G2 ⟨rfl, p1, p2⟩
        refine js_iaddN (pc := 23) (a := c0) (b := if (jm_takes sl B rk ls a k).1 (jm_hash (a + k) sl % 2 ^ B) < jm_rank (jm_hash (a + k) sl) B then 1 else 0) F dX5_addsRange_23 ?_
        refine js_istore (pc := 24) (lv2 := [(0, .ref (js_ad y (191))), (1, .int (nI (s))), (2, .int (nI (a))), (3, .int (nI (n))), (4, .int (nI (c0 + (if (jm_takes sl B rk ls a k).1 (jm_hash (a + k) sl % 2 ^ B) < jm_rank (jm_hash (a + k) sl) B then 1 else 0)))), (5, .int (nI (k)))]) F dX5_addsRange_24 (by decide) [1, 2, 3, 4, 0, 5] rfl ?_
        refine js_iinc (pc := 26) (v := nI (k + 1)) (lv2 := [(0, .ref (js_ad y (191))), (1, .int (nI (s))), (2, .int (nI (a))), (3, .int (nI (n))), (4, .int (nI (c0 + (if (jm_takes sl B rk ls a k).1 (jm_hash (a + k) sl % 2 ^ B) < jm_rank (jm_hash (a + k) sl) B then 1 else 0)))), (5, .int (nI (k + 1)))]) F dX5_addsRange_26 5 rfl (nI_add _ _) (by decide) [1, 2, 3, 4, 5, 0] rfl ?_
        refine js_goto (pc := 29) (tgt := 6) F dX5_addsRange_29 (by decide) ?_
        exact ih6 (k + 1) (c0 + (if (jm_takes sl B rk ls a k).1 (jm_hash (a + k) sl % 2 ^ B) < jm_rank (jm_hash (a + k) sl) B then 1 else 0)) G2 (by omega) (by simp only [jm_takes]; rw [← hc]) (p1) (hf.tr p2) (by omega)
  exact L6 (_ + 1) 0 0 G (Nat.zero_le _) (rfl) (hS) (mfS.rf) (Nat.lt_succ_self _)
theorem lk_X5_isRange_constant_RX5_133_100000 : Cond.constant RX5 133 (100000) ∈ wsX5_isRange := by decide +kernel
theorem mf_X5_isRange : js_M yX5_isRange cX5_isRange 2 (some .boolean) wsX5_isRange 2 := ⟨⟨_, rfl⟩, by decide +kernel, by decide +kernel, by decide +kernel, by decide +kernel⟩
set_option maxHeartbeats 4000000 in
set_option maxRecDepth 100000 in
theorem c_X5_isRange (la : Launch) {y : js_L} (hy : js_Dy y) {G : js_G} {x m : Int32} : js_Ci la y yX5_isRange wsX5_isRange 3 54 [.int (x), .int (m)] G (fun r G' => r = nI (if jm_rng x m then 1 else 0) ∧ G = G') := by
  refine js_ofi mf_X5_isRange (Nat.le_of_ble_eq_true rfl) hy (fun X F hr => ?_)
  replace F : js_F X y cX5_isRange 2 RX5 wsX5_isRange 3 54 := F
  show js_W X y 2 _ G 0 [(0, .int (x)), (1, .int (m))] []
  refine js_iload_n (pc := 0) 0 F rfl dX5_isRange_0 ?_
  refine js_callsi (pc := 1) F (c_X5_isThing _ hy (x := x)) mf_X5_isThing gX5_isRange_X5_isThing (by decide) rfl rfl (Nat.le_of_ble_eq_true rfl) dX5_isRange_1 ?_
  rintro _ _ ⟨rfl, rfl⟩
  refine js_if_eqB (pc := 4) (tgt := 30) F dX5_isRange_4 (by decide) (fun h4 => ?_) (fun h4 => ?_)
  · skip
    refine js_iconst (pc := 30) (v := nI (0)) F (by decide) dX5_isRange_30 ?_
    refine js_iret (pc := 31) F hr (rfl) ?_ dX5_isRange_31
    exact ⟨by rw [if_neg (fun q => by have z := jw_rng2 q; first | exact h4 z.1 | exact h15 z.2.1 | exact z.2.2 h23)], rfl⟩
  · skip
    refine js_iload_n (pc := 7) 1 F rfl dX5_isRange_7 ?_
    refine js_iconst (pc := 8) (v := nI (1)) F (by decide) dX5_isRange_8 ?_
    refine js_sipush (pc := 9) (v := nI (999)) F (by decide) dX5_isRange_9 ?_
    refine js_callsi (pc := 12) F (c_X5_within _ hy (v := m) (lo := nI (1)) (hi := nI (999))) mf_X5_within gX5_isRange_X5_within (by decide) rfl rfl (Nat.le_of_ble_eq_true rfl) dX5_isRange_12 ?_
    rintro _ _ ⟨rfl, rfl⟩
    refine js_if_eqB (pc := 15) (tgt := 30) F dX5_isRange_15 (by decide) (fun h15 => ?_) (fun h15 => ?_)
    · skip
      refine js_iconst (pc := 30) (v := nI (0)) F (by decide) dX5_isRange_30 ?_
      refine js_iret (pc := 31) F hr (rfl) ?_ dX5_isRange_31
      exact ⟨by rw [if_neg (fun q => by have z := jw_rng2 q; first | exact h4 z.1 | exact h15 z.2.1 | exact z.2.2 h23)], rfl⟩
    · skip
      refine js_iload_n (pc := 18) 1 F rfl dX5_isRange_18 ?_
      refine js_ldc (pc := 19) (v := nI (100000)) F (lk_X5_isRange_constant_RX5_133_100000) dX5_isRange_19 ?_
      refine js_iload_n (pc := 21) 0 F rfl dX5_isRange_21 ?_
      refine js_isub (pc := 22) F dX5_isRange_22 ?_
      refine js_icmp_gt (pc := 23) (tgt := 30) F dX5_isRange_23 (by decide) (fun h23 => ?_) (fun h23 => ?_)
      · skip
        refine js_iconst (pc := 30) (v := nI (0)) F (by decide) dX5_isRange_30 ?_
        refine js_iret (pc := 31) F hr (rfl) ?_ dX5_isRange_31
        exact ⟨by rw [if_neg (fun q => by have z := jw_rng2 q; first | exact h4 z.1 | exact h15 z.2.1 | exact z.2.2 h23)], rfl⟩
      · skip
        refine js_iconst (pc := 26) (v := nI (1)) F (by decide) dX5_isRange_26 ?_
        refine js_goto (pc := 27) (tgt := 31) F dX5_isRange_27 (by decide) ?_
        refine js_iret (pc := 31) F hr (rfl) ?_ dX5_isRange_31
        exact ⟨by rw [if_pos (jw_rng1 h4 h15 h23)], rfl⟩
theorem mf_X5_whyNotJoined : js_M yX5_whyNotJoined cX5_whyNotJoined 3 (some .int) wsX5_whyNotJoined 2 := ⟨⟨_, rfl⟩, by decide +kernel, by decide +kernel, by decide +kernel, by decide +kernel⟩
set_option maxHeartbeats 4000000 in
set_option maxRecDepth 100000 in
theorem c_X5_whyNotJoined_1 (la : Launch) {y : js_L} (hy : js_Dy y) {G : js_G} {x z : Int32} (h : jb x 6 ∨ jb z 6) : js_Ci la y yX5_whyNotJoined wsX5_whyNotJoined 3 54 [.ref (js_ad y (191)), .int (x), .int (z)] G (fun r G' => r = -1 ∧ G = G') := by
  refine js_ofi mf_X5_whyNotJoined (Nat.le_of_ble_eq_true rfl) hy (fun X F hr => ?_)
  replace F : js_F X y cX5_whyNotJoined 3 RX5 wsX5_whyNotJoined 3 54 := F
  show js_W X y 3 _ G 0 [(0, .ref (js_ad y (191))), (1, .int (x)), (2, .int (z))] []
  refine js_iload_n (pc := 0) 1 F rfl dX5_whyNotJoined_0 ?_
  refine js_callsi (pc := 1) F (c_X5_isSketch _ hy (x := x)) mf_X5_isSketch gX5_whyNotJoined_X5_isSketch (by decide) rfl rfl (Nat.le_of_ble_eq_true rfl) dX5_whyNotJoined_1 ?_
  rintro _ _ ⟨rfl, rfl⟩
  refine js_if_eqB (pc := 4) (tgt := 14) F dX5_whyNotJoined_4 (by decide) (fun h4 => ?_) (fun h4 => ?_)
  · skip
    refine js_iconst (pc := 14) (v := (-1)) F (by decide) dX5_whyNotJoined_14 ?_
    refine js_iret (pc := 15) F hr (rfl) ?_ dX5_whyNotJoined_15
    exact ⟨rfl, rfl⟩
  · skip
    refine js_iload_n (pc := 7) 2 F rfl dX5_whyNotJoined_7 ?_
    refine js_callsi (pc := 8) F (c_X5_isSketch _ hy (x := z)) mf_X5_isSketch gX5_whyNotJoined_X5_isSketch (by decide) rfl rfl (Nat.le_of_ble_eq_true rfl) dX5_whyNotJoined_8 ?_
    rintro _ _ ⟨rfl, rfl⟩
    refine js_if_neB (pc := 11) (tgt := 16) F dX5_whyNotJoined_11 (by decide) (fun h11 => by exact absurd (h.resolve_left h4) h11) (fun h11 => ?_)
    refine js_iconst (pc := 14) (v := (-1)) F (by decide) dX5_whyNotJoined_14 ?_
    refine js_iret (pc := 15) F hr (rfl) ?_ dX5_whyNotJoined_15
    exact ⟨rfl, rfl⟩
set_option maxHeartbeats 4000000 in
set_option maxRecDepth 100000 in
theorem c_X5_whyNotJoined_2 (la : Launch) {y : js_L} (hy : js_Dy y) {G : js_G} {s0 : js_T} (hT : mr_T G 192 0 s0) {i : Nat} (hi : i < 6) {i2 : Nat} (hi2 : i2 < 6) : js_Ci la y yX5_whyNotJoined wsX5_whyNotJoined 3 54 [.ref (js_ad y (191)), .int (nI (i)), .int (nI (i2))] G (fun r G' => r = (if i ≠ i2 ∧ (s0.2 i).1 = (s0.2 i2).1 then nI 0 else -5) ∧ G = G') := by
  have hS := hT.K hi
  have hS2 := hT.K hi2
  have hb1 := hS.2.1
  have hb2 := hS2.2.1
  refine js_ofi mf_X5_whyNotJoined (Nat.le_of_ble_eq_true rfl) hy (fun X F hr => ?_)
  replace F : js_F X y cX5_whyNotJoined 3 RX5 wsX5_whyNotJoined 3 54 := F
  show js_W X y 3 _ G 0 [(0, .ref (js_ad y (191))), (1, .int (nI (i))), (2, .int (nI (i2)))] []
  refine js_iload_n (pc := 0) 1 F rfl dX5_whyNotJoined_0 ?_
  refine js_callsi (pc := 1) F (c_X5_isSketch _ hy (x := nI (i))) mf_X5_isSketch gX5_whyNotJoined_X5_isSketch (by decide) rfl rfl (Nat.le_of_ble_eq_true rfl) dX5_whyNotJoined_1 ?_
  rintro _ _ ⟨rfl, rfl⟩
  refine js_if_eqB (pc := 4) (tgt := 14) F dX5_whyNotJoined_4 (by decide) (fun h4 => by exact absurd (jb_no hi (by decide)) h4) (fun h4 => ?_)
  refine js_iload_n (pc := 7) 2 F rfl dX5_whyNotJoined_7 ?_
  refine js_callsi (pc := 8) F (c_X5_isSketch _ hy (x := nI (i2))) mf_X5_isSketch gX5_whyNotJoined_X5_isSketch (by decide) rfl rfl (Nat.le_of_ble_eq_true rfl) dX5_whyNotJoined_8 ?_
  rintro _ _ ⟨rfl, rfl⟩
  refine js_if_neB (pc := 11) (tgt := 16) F dX5_whyNotJoined_11 (by decide) (fun h11 => ?_) (fun h11 => by exact absurd (jb_no hi2 (by decide)) h11)
  refine js_iload_n (pc := 16) 1 F rfl dX5_whyNotJoined_16 ?_
  refine js_iload_n (pc := 17) 2 F rfl dX5_whyNotJoined_17 ?_
  refine js_icmp_eqN (pc := 18) (a := i) (b := i2) (tgt := 36) F (by omega) (by omega) dX5_whyNotJoined_18 (by decide) (fun h18 => ?_) (fun h18 => ?_)
  · skip
    refine js_bipush (pc := 36) (v := (-5)) F (by decide) dX5_whyNotJoined_36 ?_
    refine js_goto (pc := 38) (tgt := 42) F dX5_whyNotJoined_38 (by decide) ?_
    refine js_iret (pc := 42) F hr (rfl) ?_ dX5_whyNotJoined_42
    exact ⟨by rw [if_neg (fun q => by first | exact q.1 h18 | exact h33 q.2)], rfl⟩
  · skip
    refine js_aload_n (pc := 21) 0 F rfl dX5_whyNotJoined_21 ?_
    refine js_iload_n (pc := 22) 1 F rfl dX5_whyNotJoined_22 ?_
    refine js_iconst (pc := 23) (v := nI (0)) F (by decide) dX5_whyNotJoined_23 ?_
    refine js_calli (pc := 24) F (c_X5_part _ hy (G := G) (s := i) (p := 0) (by omega)) mf_X5_part gX5_whyNotJoined_X5_part rfl (by decide) (by decide) (js_ct_M) rfl rfl rfl (Nat.le_of_ble_eq_true rfl) dX5_whyNotJoined_24 ?_
    rintro _ _ ⟨hv24, rfl⟩
    rw [hv24, show G 192 ((1 + 106 * i) + 0) = nI ((s0.2 (i)).1) from ((hT.K (by omega)).2.2.1)]
    clear hv24
    refine js_aload_n (pc := 27) 0 F rfl dX5_whyNotJoined_27 ?_
    refine js_iload_n (pc := 28) 2 F rfl dX5_whyNotJoined_28 ?_
    refine js_iconst (pc := 29) (v := nI (0)) F (by decide) dX5_whyNotJoined_29 ?_
    refine js_calli (pc := 30) F (c_X5_part _ hy (G := G) (s := i2) (p := 0) (by omega)) mf_X5_part gX5_whyNotJoined_X5_part rfl (by decide) (by decide) (js_ct_M) rfl rfl rfl (Nat.le_of_ble_eq_true rfl) dX5_whyNotJoined_30 ?_
    rintro _ _ ⟨hv30, rfl⟩
    rw [hv30, show G 192 ((1 + 106 * i2) + 0) = nI ((s0.2 (i2)).1) from ((hT.K (by omega)).2.2.1)]
    clear hv30
    refine js_icmp_eqN (pc := 33) (a := (s0.2 (i)).1) (b := (s0.2 (i2)).1) (tgt := 41) F (by omega) (by omega) dX5_whyNotJoined_33 (by decide) (fun h33 => ?_) (fun h33 => ?_)
    · skip
      refine js_iconst (pc := 41) (v := nI (0)) F (by decide) dX5_whyNotJoined_41 ?_
      refine js_iret (pc := 42) F hr (rfl) ?_ dX5_whyNotJoined_42
      exact ⟨by rw [if_pos ⟨h18, h33⟩], rfl⟩
    · skip
      refine js_bipush (pc := 36) (v := (-5)) F (by decide) dX5_whyNotJoined_36 ?_
      refine js_goto (pc := 38) (tgt := 42) F dX5_whyNotJoined_38 (by decide) ?_
      refine js_iret (pc := 42) F hr (rfl) ?_ dX5_whyNotJoined_42
      exact ⟨by rw [if_neg (fun q => by first | exact q.1 h18 | exact h33 q.2)], rfl⟩
theorem mf_X5_whyNotFolded : js_M yX5_whyNotFolded cX5_whyNotFolded 2 (some .int) wsX5_whyNotFolded 1 := ⟨⟨_, rfl⟩, by decide +kernel, by decide +kernel, by decide +kernel, by decide +kernel⟩
set_option maxHeartbeats 4000000 in
set_option maxRecDepth 100000 in
theorem c_X5_whyNotFolded_1 (la : Launch) {y : js_L} (hy : js_Dy y) {G : js_G} {x : Int32} (h : jb x 6) : js_Ci la y yX5_whyNotFolded wsX5_whyNotFolded 3 54 [.ref (js_ad y (191)), .int (x)] G (fun r G' => r = -1 ∧ G = G') := by
  refine js_ofi mf_X5_whyNotFolded (Nat.le_of_ble_eq_true rfl) hy (fun X F hr => ?_)
  replace F : js_F X y cX5_whyNotFolded 2 RX5 wsX5_whyNotFolded 3 54 := F
  show js_W X y 2 _ G 0 [(0, .ref (js_ad y (191))), (1, .int (x))] []
  refine js_iload_n (pc := 0) 1 F rfl dX5_whyNotFolded_0 ?_
  refine js_callsi (pc := 1) F (c_X5_isSketch _ hy (x := x)) mf_X5_isSketch gX5_whyNotFolded_X5_isSketch (by decide) rfl rfl (Nat.le_of_ble_eq_true rfl) dX5_whyNotFolded_1 ?_
  rintro _ _ ⟨rfl, rfl⟩
  refine js_if_neB (pc := 4) (tgt := 11) F dX5_whyNotFolded_4 (by decide) (fun h4 => by exact absurd h h4) (fun h4 => ?_)
  refine js_iconst (pc := 7) (v := (-1)) F (by decide) dX5_whyNotFolded_7 ?_
  refine js_goto (pc := 8) (tgt := 27) F dX5_whyNotFolded_8 (by decide) ?_
  refine js_iret (pc := 27) F hr (rfl) ?_ dX5_whyNotFolded_27
  exact ⟨rfl, rfl⟩
set_option maxHeartbeats 4000000 in
set_option maxRecDepth 100000 in
theorem c_X5_whyNotFolded_2 (la : Launch) {y : js_L} (hy : js_Dy y) {G : js_G} {s0 : js_T} (hT : mr_T G 192 0 s0) {i : Nat} (hi : i < 6) : js_Ci la y yX5_whyNotFolded wsX5_whyNotFolded 3 54 [.ref (js_ad y (191)), .int (nI (i))] G (fun r G' => r = (if 2 < (s0.2 i).1 then nI 0 else -5) ∧ G = G') := by
  have hS := hT.K hi
  have hb1 := hS.2.1
  have hb2 := hS.1
  refine js_ofi mf_X5_whyNotFolded (Nat.le_of_ble_eq_true rfl) hy (fun X F hr => ?_)
  replace F : js_F X y cX5_whyNotFolded 2 RX5 wsX5_whyNotFolded 3 54 := F
  show js_W X y 2 _ G 0 [(0, .ref (js_ad y (191))), (1, .int (nI (i)))] []
  refine js_iload_n (pc := 0) 1 F rfl dX5_whyNotFolded_0 ?_
  refine js_callsi (pc := 1) F (c_X5_isSketch _ hy (x := nI (i))) mf_X5_isSketch gX5_whyNotFolded_X5_isSketch (by decide) rfl rfl (Nat.le_of_ble_eq_true rfl) dX5_whyNotFolded_1 ?_
  rintro _ _ ⟨rfl, rfl⟩
  refine js_if_neB (pc := 4) (tgt := 11) F dX5_whyNotFolded_4 (by decide) (fun h4 => ?_) (fun h4 => by exact absurd (jb_no hi (by decide)) h4)
  refine js_aload_n (pc := 11) 0 F rfl dX5_whyNotFolded_11 ?_
  refine js_iload_n (pc := 12) 1 F rfl dX5_whyNotFolded_12 ?_
  refine js_iconst (pc := 13) (v := nI (0)) F (by decide) dX5_whyNotFolded_13 ?_
  refine js_calli (pc := 14) F (c_X5_part _ hy (G := G) (s := i) (p := 0) (by omega)) mf_X5_part gX5_whyNotFolded_X5_part rfl (by decide) (by decide) (js_ct_M) rfl rfl rfl (Nat.le_of_ble_eq_true rfl) dX5_whyNotFolded_14 ?_
  rintro _ _ ⟨hv14, rfl⟩
  rw [hv14, show G 192 ((1 + 106 * i) + 0) = nI ((s0.2 (i)).1) from ((hT.K (by omega)).2.2.1)]
  clear hv14
  refine js_iconst (pc := 17) (v := nI (2)) F (by decide) dX5_whyNotFolded_17 ?_
  refine js_icmp_neN (pc := 18) (a := (s0.2 (i)).1) (b := 2) (tgt := 26) F (by omega) (by decide) dX5_whyNotFolded_18 (by decide) (fun h18 => ?_) (fun h18 => ?_)
  · skip
    refine js_iconst (pc := 26) (v := nI (0)) F (by decide) dX5_whyNotFolded_26 ?_
    refine js_iret (pc := 27) F hr (rfl) ?_ dX5_whyNotFolded_27
    exact ⟨by rw [if_pos (by omega)], rfl⟩
  · skip
    refine js_bipush (pc := 21) (v := (-5)) F (by decide) dX5_whyNotFolded_21 ?_
    refine js_goto (pc := 23) (tgt := 27) F dX5_whyNotFolded_23 (by decide) ?_
    refine js_iret (pc := 27) F hr (rfl) ?_ dX5_whyNotFolded_27
    exact ⟨by rw [if_neg (by omega)], rfl⟩
theorem mf_X5_joins : js_M yX5_joins cX5_joins 4 (some .int) wsX5_joins 2 := ⟨⟨_, rfl⟩, by decide +kernel, by decide +kernel, by decide +kernel, by decide +kernel⟩
set_option maxHeartbeats 4000000 in
set_option maxRecDepth 100000 in
theorem c_X5_joins_n (la : Launch) {y : js_L} (hy : js_Dy y) {G : js_G} {s : Nat} (hs : s < 6) {B : Nat} {rk : Nat → Nat} {ls : Option (List Nat)} (hS : mr_S G 192 (1 + 106 * s) B rk ls) {so : Nat} (hso : so < 6) (hne : so ≠ s) {rk2 : Nat → Nat} (hS2 : mr_S G 192 (1 + 106 * so) B rk2 none) : js_Ci la y yX5_joins wsX5_joins 5 102 [.ref (js_ad y (191)), .int (nI (s)), .int (nI (so))] G (fun r G' => r = nI (jm_est (jm_mx rk rk2) (2 ^ B)) ∧ ∃ Gm, mr_S Gm 192 (1 + 106 * s) B (jm_mx rk rk2) (jm_jl ls none) ∧ mfS s G Gm ∧ mfR Gm G') := by
  obtain ⟨hB2, hB6, hB, hR, hK, hL⟩ := id hS
  have hp : 2 ^ B ≤ 64 := jm_p6 hB6
  have hp1 := jm_p1 B
  have hp4 := jm_p4 hB2
  have hK2 := hS2.2.2.2.2.1
  refine js_ofi mf_X5_joins (Nat.le_of_ble_eq_true rfl) hy (fun X F hr => ?_)
  replace F : js_F X y cX5_joins 4 RX5 wsX5_joins 5 102 := F
  show js_W X y 4 _ G 0 [(0, .ref (js_ad y (191))), (1, .int (nI (s))), (2, .int (nI (so)))] []
  refine js_iconst (pc := 0) (v := nI (0)) F (by decide) dX5_joins_0 ?_
  refine js_istore_n (pc := 1) (lv2 := [(0, .ref (js_ad y (191))), (1, .int (nI (s))), (2, .int (nI (so))), (3, .int (nI (0)))]) F dX5_joins_1 (by decide) [1, 2, 3, 0] rfl ?_
  have L2 : ∀ (fu2 : Nat) (i : Nat) (G1 : js_G) (hi : i ≤ 2 ^ B) (hS1 : mr_S G1 192 (1 + 106 * s) B (jm_mi rk rk2 i) ls) (hf : mfS s G G1) (hfu2 : 2 ^ B - i < fu2), js_W X y 4 (js_Qi X y (fun r G' => r = nI (jm_est (jm_mx rk rk2) (2 ^ B)) ∧ ∃ Gm, mr_S Gm 192 (1 + 106 * s) B (jm_mx rk rk2) (jm_jl ls none) ∧ mfS s G Gm ∧ mfR Gm G')) G1 2 [(0, .ref (js_ad y (191))), (1, .int (nI (s))), (2, .int (nI (so))), (3, .int (nI (i)))] [] := by
    intro fu2
    induction fu2 with
    | zero => intro i G1 hi hS1 hf hfu2; exact absurd hfu2 (Nat.not_lt_zero _)
    | succ fu2 ih2 =>
      intro i G1 hi hS1 hf hfu2
      refine js_iload_n (pc := 2) 3 F rfl dX5_joins_2 ?_
      refine js_aload_n (pc := 3) 0 F rfl dX5_joins_3 ?_
      refine js_iload_n (pc := 4) 1 F rfl dX5_joins_4 ?_
      refine js_calli (pc := 5) F (c_X5_bucketsOf _ hy (s := s) (by omega) (G := G1) (hS1)) mf_X5_bucketsOf gX5_joins_X5_bucketsOf rfl (by decide) (by decide) (js_ct_M) rfl rfl rfl (Nat.le_of_ble_eq_true rfl) dX5_joins_5 ?_
      rintro _ _ ⟨rfl, rfl⟩
      refine js_icmp_geN (pc := 8) (a := i) (b := 2 ^ B) (tgt := 63) F (by first | omega | (have := hS1.2.2.2.2.1 i (by omega); have := hK2 i (by omega); omega)) (by first | omega | (have := hS1.2.2.2.2.1 i (by omega); have := hK2 i (by omega); omega)) dX5_joins_8 (by decide) (fun h8 => ?_) (fun h8 => ?_)
      · skip
        have hSm : mr_S G1 192 (1 + 106 * s) B (jm_mx rk rk2) ls := hS1.rk (fun b hb => jm_mi_end (by omega))
        refine js_aload_n (pc := 63) 0 F rfl dX5_joins_63 ?_
        refine js_iload_n (pc := 64) 2 F rfl dX5_joins_64 ?_
        refine js_calli (pc := 65) F (c_X5_isFull_n _ hy (s := so) (by omega) (G := G1) (hS2.fr hf hne)) mf_X5_isFull gX5_joins_X5_isFull rfl (by decide) (by decide) (js_ct_M) rfl rfl rfl (Nat.le_of_ble_eq_true rfl) dX5_joins_65 ?_
        rintro _ _ ⟨rfl, rfl⟩
        refine js_if_eqN (pc := 68) (a := 1) (tgt := 76) F (by decide) dX5_joins_68 (by decide) (fun h68 => by exfalso; revert h68; decide) (fun _ => ?_)
        refine js_aload_n (pc := 71) 0 F rfl dX5_joins_71 ?_
        refine js_iload_n (pc := 72) 1 F rfl dX5_joins_72 ?_
        refine js_callv (pc := 73) F (c_X5_becomesFull _ hy (s := s) (by omega) (G := G1)) mf_X5_becomesFull gX5_joins_X5_becomesFull rfl (by decide) (by decide) (js_ct_M) rfl rfl rfl (Nat.le_of_ble_eq_true rfl) dX5_joins_73 ?_
        rintro G73 ⟨u73, v73, w73⟩
        refine js_iconst (pc := 76) (v := nI (0)) F (by decide) dX5_joins_76 ?_
        refine js_istore_n (pc := 77) (lv2 := [(0, .ref (js_ad y (191))), (1, .int (nI (s))), (2, .int (nI (so))), (3, .int (nI (0)))]) F dX5_joins_77 (by decide) [1, 2, 3, 0] rfl ?_
        refine js_iload_n (pc := 78) 3 F rfl dX5_joins_78 ?_
        refine js_aload_n (pc := 79) 0 F rfl dX5_joins_79 ?_
        refine js_iload_n (pc := 80) 2 F rfl dX5_joins_80 ?_
        refine js_iconst (pc := 81) (v := nI (1)) F (by decide) dX5_joins_81 ?_
        refine js_calli (pc := 82) F (c_X5_part _ hy (G := G73) (s := so) (p := 1) (by omega)) mf_X5_part gX5_joins_X5_part rfl (by decide) (by decide) (js_ct_M) rfl rfl rfl (Nat.le_of_ble_eq_true rfl) dX5_joins_82 ?_
        rintro _ _ ⟨hv82, rfl⟩
        rw [hv82, show G73 192 ((1 + 106 * so) + 1) = -6 from (((hS2.fr hf hne).fr w73 hne).2.2.2.2.2)]
        clear hv82
        refine js_icmp_ge (pc := 85) (tgt := 108) F dX5_joins_85 (by decide) (fun h85 => ?_) (fun h85 => by exact absurd (by decide) h85)
        refine js_aload_n (pc := 108) 0 F rfl dX5_joins_108 ?_
        refine js_iload_n (pc := 109) 1 F rfl dX5_joins_109 ?_
        refine js_calli (pc := 110) F (c_X5_estimateOf _ hy (s := s) (by omega) (G := G73) (mr_S_full hSm u73 v73)) mf_X5_estimateOf gX5_joins_X5_estimateOf rfl (by decide) (by decide) (js_ct_M) rfl rfl rfl (Nat.le_of_ble_eq_true rfl) dX5_joins_110 ?_
        rintro _ G110 ⟨rfl, f110⟩
        refine js_iret (pc := 113) F hr (rfl) ?_ dX5_joins_113
        exact ⟨rfl, G73, mr_S_full hSm u73 v73, hf.tr w73, f110⟩
      · skip
        refine js_aload_n (pc := 11) 0 F rfl dX5_joins_11 ?_
        refine js_iload_n (pc := 12) 1 F rfl dX5_joins_12 ?_
        refine js_iconst (pc := 13) (v := nI (2)) F (by decide) dX5_joins_13 ?_
        refine js_iload_n (pc := 14) 3 F rfl dX5_joins_14 ?_
        refine js_iaddN (pc := 15) (a := 2) (b := i) F dX5_joins_15 ?_
        refine js_aload_n (pc := 16) 0 F rfl dX5_joins_16 ?_
        refine js_iload_n (pc := 17) 2 F rfl dX5_joins_17 ?_
        refine js_iconst (pc := 18) (v := nI (2)) F (by decide) dX5_joins_18 ?_
        refine js_iload_n (pc := 19) 3 F rfl dX5_joins_19 ?_
        refine js_iaddN (pc := 20) (a := 2) (b := i) F dX5_joins_20 ?_
        refine js_calli (pc := 21) F (c_X5_part _ hy (G := G1) (s := so) (p := 2 + i) (by omega)) mf_X5_part gX5_joins_X5_part rfl (by decide) (by decide) (js_ct_M) rfl rfl rfl (Nat.le_of_ble_eq_true rfl) dX5_joins_21 ?_
        rintro _ _ ⟨hv21, rfl⟩
        rw [hv21, show G1 192 ((1 + 106 * so) + (2 + i)) = nI (rk2 (i)) from (((hS2.fr hf hne).2.2.2.1 _ (by omega)).trans (congrArg nI (jz_lt (by omega))))]
        clear hv21
        refine js_aload_n (pc := 24) 0 F rfl dX5_joins_24 ?_
        refine js_iload_n (pc := 25) 1 F rfl dX5_joins_25 ?_
        refine js_iconst (pc := 26) (v := nI (2)) F (by decide) dX5_joins_26 ?_
        refine js_iload_n (pc := 27) 3 F rfl dX5_joins_27 ?_
        refine js_iaddN (pc := 28) (a := 2) (b := i) F dX5_joins_28 ?_
        refine js_calli (pc := 29) F (c_X5_part _ hy (G := G1) (s := s) (p := 2 + i) (by omega)) mf_X5_part gX5_joins_X5_part rfl (by decide) (by decide) (js_ct_M) rfl rfl rfl (Nat.le_of_ble_eq_true rfl) dX5_joins_29 ?_
        rintro _ _ ⟨hv29, rfl⟩
        rw [hv29, show G1 192 ((1 + 106 * s) + (2 + i)) = nI ((jm_mi rk rk2 i) (i)) from ((hS1.2.2.2.1 _ (by omega)).trans (congrArg nI (jz_lt (by omega))))]
        clear hv29
        refine js_icmp_leN (pc := 32) (a := rk2 (i)) (b := (jm_mi rk rk2 i) (i)) (tgt := 46) F (by first | omega | (have := hS1.2.2.2.2.1 i (by omega); have := hK2 i (by omega); omega)) (by first | omega | (have := hS1.2.2.2.2.1 i (by omega); have := hK2 i (by omega); omega)) dX5_joins_32 (by decide) (fun h32 => ?_) (fun h32 => ?_)
        · skip
          refine js_aload_n (pc := 46) 0 F rfl dX5_joins_46 ?_
          refine js_iload_n (pc := 47) 1 F rfl dX5_joins_47 ?_
          refine js_iconst (pc := 48) (v := nI (2)) F (by decide) dX5_joins_48 ?_
          refine js_iload_n (pc := 49) 3 F rfl dX5_joins_49 ?_
          refine js_iaddN (pc := 50) (a := 2) (b := i) F dX5_joins_50 ?_
          refine js_calli (pc := 51) F (c_X5_part _ hy (G := G1) (s := s) (p := 2 + i) (by omega)) mf_X5_part gX5_joins_X5_part rfl (by decide) (by decide) (js_ct_M) rfl rfl rfl (Nat.le_of_ble_eq_true rfl) dX5_joins_51 ?_
          rintro _ _ ⟨hv51, rfl⟩
          rw [hv51, show G1 192 ((1 + 106 * s) + (2 + i)) = nI ((jm_mi rk rk2 i) (i)) from ((hS1.2.2.2.1 _ (by omega)).trans (congrArg nI (jz_lt (by omega))))]
          clear hv51
          refine js_callv (pc := 54) F (c_X5_setPart _ hy (G := G1) (s := s) (p := 2 + i) (v := nI ((jm_mi rk rk2 i) (i))) (by omega)) mf_X5_setPart gX5_joins_X5_setPart rfl (by decide) (by decide) (js_ct_M) rfl rfl rfl (Nat.le_of_ble_eq_true rfl) dX5_joins_54 ?_
          rintro _ rfl
          refine js_iinc (pc := 57) (v := nI (i + 1)) (lv2 := [(0, .ref (js_ad y (191))), (1, .int (nI (s))), (2, .int (nI (so))), (3, .int (nI (i + 1)))]) F dX5_joins_57 3 rfl (nI_add _ _) (by decide) [1, 2, 3, 0] rfl ?_
          refine js_goto (pc := 60) (tgt := 2) F dX5_joins_60 (by decide) ?_
          exact ih2 (i + 1) (js_st G1 (192) ((1 + 106 * s) + (2 + i)) (nI ((jm_mi rk rk2 i) (i)))) (by omega) (mr_S_mi hS1 hS2.2.2.2.2.1 (by omega) (by have h := h32; simp only [jm_mi_self] at h ⊢; unfold jm_mx; first | rw [if_pos h] | rw [if_neg (Nat.not_lt.mpr h)])) (hf.tr (mfS.st (by omega))) (by omega)
        · skip
          refine js_aload_n (pc := 35) 0 F rfl dX5_joins_35 ?_
          refine js_iload_n (pc := 36) 2 F rfl dX5_joins_36 ?_
          refine js_iconst (pc := 37) (v := nI (2)) F (by decide) dX5_joins_37 ?_
          refine js_iload_n (pc := 38) 3 F rfl dX5_joins_38 ?_
          refine js_iaddN (pc := 39) (a := 2) (b := i) F dX5_joins_39 ?_
          refine js_calli (pc := 40) F (c_X5_part _ hy (G := G1) (s := so) (p := 2 + i) (by omega)) mf_X5_part gX5_joins_X5_part rfl (by decide) (by decide) (js_ct_M) rfl rfl rfl (Nat.le_of_ble_eq_true rfl) dX5_joins_40 ?_
          rintro _ _ ⟨hv40, rfl⟩
          rw [hv40, show G1 192 ((1 + 106 * so) + (2 + i)) = nI (rk2 (i)) from (((hS2.fr hf hne).2.2.2.1 _ (by omega)).trans (congrArg nI (jz_lt (by omega))))]
          clear hv40
          refine js_goto (pc := 43) (tgt := 54) F dX5_joins_43 (by decide) ?_
          refine js_callv (pc := 54) F (c_X5_setPart _ hy (G := G1) (s := s) (p := 2 + i) (v := nI (rk2 (i))) (by omega)) mf_X5_setPart gX5_joins_X5_setPart rfl (by decide) (by decide) (js_ct_M) rfl rfl rfl (Nat.le_of_ble_eq_true rfl) dX5_joins_54 ?_
          rintro _ rfl
          refine js_iinc (pc := 57) (v := nI (i + 1)) (lv2 := [(0, .ref (js_ad y (191))), (1, .int (nI (s))), (2, .int (nI (so))), (3, .int (nI (i + 1)))]) F dX5_joins_57 3 rfl (nI_add _ _) (by decide) [1, 2, 3, 0] rfl ?_
          refine js_goto (pc := 60) (tgt := 2) F dX5_joins_60 (by decide) ?_
          exact ih2 (i + 1) (js_st G1 (192) ((1 + 106 * s) + (2 + i)) (nI (rk2 (i)))) (by omega) (mr_S_mi hS1 hS2.2.2.2.2.1 (by omega) (by have h := h32; simp only [jm_mi_self] at h ⊢; unfold jm_mx; first | rw [if_pos h] | rw [if_neg (Nat.not_lt.mpr h)])) (hf.tr (mfS.st (by omega))) (by omega)
  exact L2 (_ + 1) 0 G (Nat.zero_le _) (hS.rk (fun b _ => (if_neg (Nat.not_lt_zero _)).symm)) (mfS.rf) (Nat.lt_succ_self _)
set_option maxHeartbeats 4000000 in
set_option maxRecDepth 100000 in
theorem c_X5_joins_s (la : Launch) {y : js_L} (hy : js_Dy y) {G : js_G} {s : Nat} (hs : s < 6) {B : Nat} {rk : Nat → Nat} {ls : Option (List Nat)} (hS : mr_S G 192 (1 + 106 * s) B rk ls) {so : Nat} (hso : so < 6) (hne : so ≠ s) {rk2 : Nat → Nat} {l2 : List Nat} (hS2 : mr_S G 192 (1 + 106 * so) B rk2 (some l2)) : js_Ci la y yX5_joins wsX5_joins 5 102 [.ref (js_ad y (191)), .int (nI (s)), .int (nI (so))] G (fun r G' => r = nI (jm_est (jm_mx rk rk2) (2 ^ B)) ∧ ∃ Gm, mr_S Gm 192 (1 + 106 * s) B (jm_mx rk rk2) (jm_jl ls (some l2)) ∧ mfS s G Gm ∧ mfR Gm G') := by
  obtain ⟨hB2, hB6, hB, hR, hK, hL⟩ := id hS
  have hp : 2 ^ B ≤ 64 := jm_p6 hB6
  have hp1 := jm_p1 B
  have hp4 := jm_p4 hB2
  have hK2 := hS2.2.2.2.2.1
  obtain ⟨hl2, hlen2, hE2, hT2⟩ := id hS2.2.2.2.2.2
  refine js_ofi mf_X5_joins (Nat.le_of_ble_eq_true rfl) hy (fun X F hr => ?_)
  replace F : js_F X y cX5_joins 4 RX5 wsX5_joins 5 102 := F
  show js_W X y 4 _ G 0 [(0, .ref (js_ad y (191))), (1, .int (nI (s))), (2, .int (nI (so)))] []
  refine js_iconst (pc := 0) (v := nI (0)) F (by decide) dX5_joins_0 ?_
  refine js_istore_n (pc := 1) (lv2 := [(0, .ref (js_ad y (191))), (1, .int (nI (s))), (2, .int (nI (so))), (3, .int (nI (0)))]) F dX5_joins_1 (by decide) [1, 2, 3, 0] rfl ?_
  have L2 : ∀ (fu2 : Nat) (i : Nat) (G1 : js_G) (hi : i ≤ 2 ^ B) (hS1 : mr_S G1 192 (1 + 106 * s) B (jm_mi rk rk2 i) ls) (hf : mfS s G G1) (hfu2 : 2 ^ B - i < fu2), js_W X y 4 (js_Qi X y (fun r G' => r = nI (jm_est (jm_mx rk rk2) (2 ^ B)) ∧ ∃ Gm, mr_S Gm 192 (1 + 106 * s) B (jm_mx rk rk2) (jm_jl ls (some l2)) ∧ mfS s G Gm ∧ mfR Gm G')) G1 2 [(0, .ref (js_ad y (191))), (1, .int (nI (s))), (2, .int (nI (so))), (3, .int (nI (i)))] [] := by
    intro fu2
    induction fu2 with
    | zero => intro i G1 hi hS1 hf hfu2; exact absurd hfu2 (Nat.not_lt_zero _)
    | succ fu2 ih2 =>
      intro i G1 hi hS1 hf hfu2
      refine js_iload_n (pc := 2) 3 F rfl dX5_joins_2 ?_
      refine js_aload_n (pc := 3) 0 F rfl dX5_joins_3 ?_
      refine js_iload_n (pc := 4) 1 F rfl dX5_joins_4 ?_
      refine js_calli (pc := 5) F (c_X5_bucketsOf _ hy (s := s) (by omega) (G := G1) (hS1)) mf_X5_bucketsOf gX5_joins_X5_bucketsOf rfl (by decide) (by decide) (js_ct_M) rfl rfl rfl (Nat.le_of_ble_eq_true rfl) dX5_joins_5 ?_
      rintro _ _ ⟨rfl, rfl⟩
      refine js_icmp_geN (pc := 8) (a := i) (b := 2 ^ B) (tgt := 63) F (by first | omega | (have := hS1.2.2.2.2.1 i (by omega); have := hK2 i (by omega); omega)) (by first | omega | (have := hS1.2.2.2.2.1 i (by omega); have := hK2 i (by omega); omega)) dX5_joins_8 (by decide) (fun h8 => ?_) (fun h8 => ?_)
      · skip
        have hSm : mr_S G1 192 (1 + 106 * s) B (jm_mx rk rk2) ls := hS1.rk (fun b hb => jm_mi_end (by omega))
        refine js_aload_n (pc := 63) 0 F rfl dX5_joins_63 ?_
        refine js_iload_n (pc := 64) 2 F rfl dX5_joins_64 ?_
        refine js_calli (pc := 65) F (c_X5_isFull_s _ hy (s := so) (by omega) (G := G1) (hS2.fr hf hne)) mf_X5_isFull gX5_joins_X5_isFull rfl (by decide) (by decide) (js_ct_M) rfl rfl rfl (Nat.le_of_ble_eq_true rfl) dX5_joins_65 ?_
        rintro _ _ ⟨rfl, rfl⟩
        refine js_if_eqN (pc := 68) (a := 0) (tgt := 76) F (by decide) dX5_joins_68 (by decide) (fun _ => ?_) (fun h68 => by exfalso; revert h68; decide)
        refine js_iconst (pc := 76) (v := nI (0)) F (by decide) dX5_joins_76 ?_
        refine js_istore_n (pc := 77) (lv2 := [(0, .ref (js_ad y (191))), (1, .int (nI (s))), (2, .int (nI (so))), (3, .int (nI (0)))]) F dX5_joins_77 (by decide) [1, 2, 3, 0] rfl ?_
        have L78 : ∀ (fu78 : Nat) (k : Nat) (G2 : js_G) (hk : k ≤ l2.length) (hS3 : mr_S G2 192 (1 + 106 * s) B (jm_mx rk rk2) (jm_addL ls (l2.take k))) (hf2 : mfS s G G2) (hfu78 : l2.length - k < fu78), js_W X y 4 (js_Qi X y (fun r G' => r = nI (jm_est (jm_mx rk rk2) (2 ^ B)) ∧ ∃ Gm, mr_S Gm 192 (1 + 106 * s) B (jm_mx rk rk2) (jm_jl ls (some l2)) ∧ mfS s G Gm ∧ mfR Gm G')) G2 78 [(0, .ref (js_ad y (191))), (1, .int (nI (s))), (2, .int (nI (so))), (3, .int (nI (k)))] [] := by
          intro fu78
          induction fu78 with
          | zero => intro k G2 hk hS3 hf2 hfu78; exact absurd hfu78 (Nat.not_lt_zero _)
          | succ fu78 ih78 =>
            intro k G2 hk hS3 hf2 hfu78
            refine js_iload_n (pc := 78) 3 F rfl dX5_joins_78 ?_
            refine js_aload_n (pc := 79) 0 F rfl dX5_joins_79 ?_
            refine js_iload_n (pc := 80) 2 F rfl dX5_joins_80 ?_
            refine js_iconst (pc := 81) (v := nI (1)) F (by decide) dX5_joins_81 ?_
            refine js_calli (pc := 82) F (c_X5_part _ hy (G := G2) (s := so) (p := 1) (by omega)) mf_X5_part gX5_joins_X5_part rfl (by decide) (by decide) (js_ct_M) rfl rfl rfl (Nat.le_of_ble_eq_true rfl) dX5_joins_82 ?_
            rintro _ _ ⟨hv82, rfl⟩
            rw [hv82, show G2 192 ((1 + 106 * so) + 1) = nI (l2.length) from ((hS2.fr hf2 hne).2.2.2.2.2.1)]
            clear hv82
            refine js_icmp_geN (pc := 85) (a := k) (b := l2.length) (tgt := 108) F (by first | omega | (have := hS1.2.2.2.2.1 i (by omega); have := hK2 i (by omega); omega)) (by first | omega | (have := hS1.2.2.2.2.1 i (by omega); have := hK2 i (by omega); omega)) dX5_joins_85 (by decide) (fun h85 => ?_) (fun h85 => ?_)
            · skip
              refine js_aload_n (pc := 108) 0 F rfl dX5_joins_108 ?_
              refine js_iload_n (pc := 109) 1 F rfl dX5_joins_109 ?_
              refine js_calli (pc := 110) F (c_X5_estimateOf _ hy (s := s) (by omega) (G := G2) (hS3)) mf_X5_estimateOf gX5_joins_X5_estimateOf rfl (by decide) (by decide) (js_ct_M) rfl rfl rfl (Nat.le_of_ble_eq_true rfl) dX5_joins_110 ?_
              rintro _ G110 ⟨rfl, f110⟩
              refine js_iret (pc := 113) F hr (rfl) ?_ dX5_joins_113
              have e : l2.take k = l2 := List.take_of_length_le (by omega)
              rw [e] at hS3
              exact ⟨rfl, G2, hS3, hf2, f110⟩
            · skip
              refine js_aload_n (pc := 88) 0 F rfl dX5_joins_88 ?_
              refine js_iload_n (pc := 89) 1 F rfl dX5_joins_89 ?_
              refine js_aload_n (pc := 90) 0 F rfl dX5_joins_90 ?_
              refine js_iload_n (pc := 91) 2 F rfl dX5_joins_91 ?_
              refine js_bipush (pc := 92) (v := nI (66)) F (by decide) dX5_joins_92 ?_
              refine js_iload_n (pc := 94) 3 F rfl dX5_joins_94 ?_
              refine js_iaddN (pc := 95) (a := 66) (b := k) F dX5_joins_95 ?_
              refine js_calli (pc := 96) F (c_X5_part _ hy (G := G2) (s := so) (p := 66 + k) (by omega)) mf_X5_part gX5_joins_X5_part rfl (by decide) (by decide) (js_ct_M) rfl rfl rfl (Nat.le_of_ble_eq_true rfl) dX5_joins_96 ?_
              rintro _ _ ⟨hv96, rfl⟩
              rw [hv96, show G2 192 ((1 + 106 * so) + (66 + k)) = nI (l2.getD (k) 0) from ((hS2.fr hf2 hne).2.2.2.2.2.2.2.2 _ (by omega))]
              clear hv96
              have htk := hE2 _ (jm_getD_mem (k := k) (l := l2) (by omega))
              refine js_callv (pc := 99) F (c_X5_lists _ hy hs hS3 (t := l2.getD (k) 0) htk) mf_X5_lists gX5_joins_X5_lists rfl (by decide) (by decide) (js_ct_M) rfl rfl rfl (Nat.le_of_ble_eq_true rfl) dX5_joins_99 ?_
              rintro G3 ⟨p1, p2⟩
              refine js_iinc (pc := 102) (v := nI (k + 1)) (lv2 := [(0, .ref (js_ad y (191))), (1, .int (nI (s))), (2, .int (nI (so))), (3, .int (nI (k + 1)))]) F dX5_joins_102 3 rfl (nI_add _ _) (by decide) [1, 2, 3, 0] rfl ?_
              refine js_goto (pc := 105) (tgt := 78) F dX5_joins_105 (by decide) ?_
              exact ih78 (k + 1) G3 (by omega) (by rw [jm_addL_take (by omega)]; exact p1) (hf2.tr p2) (by omega)
        exact L78 (_ + 1) 0 G1 (Nat.zero_le _) (hSm) (hf) (Nat.lt_succ_self _)
      · skip
        refine js_aload_n (pc := 11) 0 F rfl dX5_joins_11 ?_
        refine js_iload_n (pc := 12) 1 F rfl dX5_joins_12 ?_
        refine js_iconst (pc := 13) (v := nI (2)) F (by decide) dX5_joins_13 ?_
        refine js_iload_n (pc := 14) 3 F rfl dX5_joins_14 ?_
        refine js_iaddN (pc := 15) (a := 2) (b := i) F dX5_joins_15 ?_
        refine js_aload_n (pc := 16) 0 F rfl dX5_joins_16 ?_
        refine js_iload_n (pc := 17) 2 F rfl dX5_joins_17 ?_
        refine js_iconst (pc := 18) (v := nI (2)) F (by decide) dX5_joins_18 ?_
        refine js_iload_n (pc := 19) 3 F rfl dX5_joins_19 ?_
        refine js_iaddN (pc := 20) (a := 2) (b := i) F dX5_joins_20 ?_
        refine js_calli (pc := 21) F (c_X5_part _ hy (G := G1) (s := so) (p := 2 + i) (by omega)) mf_X5_part gX5_joins_X5_part rfl (by decide) (by decide) (js_ct_M) rfl rfl rfl (Nat.le_of_ble_eq_true rfl) dX5_joins_21 ?_
        rintro _ _ ⟨hv21, rfl⟩
        rw [hv21, show G1 192 ((1 + 106 * so) + (2 + i)) = nI (rk2 (i)) from (((hS2.fr hf hne).2.2.2.1 _ (by omega)).trans (congrArg nI (jz_lt (by omega))))]
        clear hv21
        refine js_aload_n (pc := 24) 0 F rfl dX5_joins_24 ?_
        refine js_iload_n (pc := 25) 1 F rfl dX5_joins_25 ?_
        refine js_iconst (pc := 26) (v := nI (2)) F (by decide) dX5_joins_26 ?_
        refine js_iload_n (pc := 27) 3 F rfl dX5_joins_27 ?_
        refine js_iaddN (pc := 28) (a := 2) (b := i) F dX5_joins_28 ?_
        refine js_calli (pc := 29) F (c_X5_part _ hy (G := G1) (s := s) (p := 2 + i) (by omega)) mf_X5_part gX5_joins_X5_part rfl (by decide) (by decide) (js_ct_M) rfl rfl rfl (Nat.le_of_ble_eq_true rfl) dX5_joins_29 ?_
        rintro _ _ ⟨hv29, rfl⟩
        rw [hv29, show G1 192 ((1 + 106 * s) + (2 + i)) = nI ((jm_mi rk rk2 i) (i)) from ((hS1.2.2.2.1 _ (by omega)).trans (congrArg nI (jz_lt (by omega))))]
        clear hv29
        refine js_icmp_leN (pc := 32) (a := rk2 (i)) (b := (jm_mi rk rk2 i) (i)) (tgt := 46) F (by first | omega | (have := hS1.2.2.2.2.1 i (by omega); have := hK2 i (by omega); omega)) (by first | omega | (have := hS1.2.2.2.2.1 i (by omega); have := hK2 i (by omega); omega)) dX5_joins_32 (by decide) (fun h32 => ?_) (fun h32 => ?_)
        · skip
          refine js_aload_n (pc := 46) 0 F rfl dX5_joins_46 ?_
          refine js_iload_n (pc := 47) 1 F rfl dX5_joins_47 ?_
          refine js_iconst (pc := 48) (v := nI (2)) F (by decide) dX5_joins_48 ?_
          refine js_iload_n (pc := 49) 3 F rfl dX5_joins_49 ?_
          refine js_iaddN (pc := 50) (a := 2) (b := i) F dX5_joins_50 ?_
          refine js_calli (pc := 51) F (c_X5_part _ hy (G := G1) (s := s) (p := 2 + i) (by omega)) mf_X5_part gX5_joins_X5_part rfl (by decide) (by decide) (js_ct_M) rfl rfl rfl (Nat.le_of_ble_eq_true rfl) dX5_joins_51 ?_
          rintro _ _ ⟨hv51, rfl⟩
          rw [hv51, show G1 192 ((1 + 106 * s) + (2 + i)) = nI ((jm_mi rk rk2 i) (i)) from ((hS1.2.2.2.1 _ (by omega)).trans (congrArg nI (jz_lt (by omega))))]
          clear hv51
          refine js_callv (pc := 54) F (c_X5_setPart _ hy (G := G1) (s := s) (p := 2 + i) (v := nI ((jm_mi rk rk2 i) (i))) (by omega)) mf_X5_setPart gX5_joins_X5_setPart rfl (by decide) (by decide) (js_ct_M) rfl rfl rfl (Nat.le_of_ble_eq_true rfl) dX5_joins_54 ?_
          rintro _ rfl
          refine js_iinc (pc := 57) (v := nI (i + 1)) (lv2 := [(0, .ref (js_ad y (191))), (1, .int (nI (s))), (2, .int (nI (so))), (3, .int (nI (i + 1)))]) F dX5_joins_57 3 rfl (nI_add _ _) (by decide) [1, 2, 3, 0] rfl ?_
          refine js_goto (pc := 60) (tgt := 2) F dX5_joins_60 (by decide) ?_
          exact ih2 (i + 1) (js_st G1 (192) ((1 + 106 * s) + (2 + i)) (nI ((jm_mi rk rk2 i) (i)))) (by omega) (mr_S_mi hS1 hS2.2.2.2.2.1 (by omega) (by have h := h32; simp only [jm_mi_self] at h ⊢; unfold jm_mx; first | rw [if_pos h] | rw [if_neg (Nat.not_lt.mpr h)])) (hf.tr (mfS.st (by omega))) (by omega)
        · skip
          refine js_aload_n (pc := 35) 0 F rfl dX5_joins_35 ?_
          refine js_iload_n (pc := 36) 2 F rfl dX5_joins_36 ?_
          refine js_iconst (pc := 37) (v := nI (2)) F (by decide) dX5_joins_37 ?_
          refine js_iload_n (pc := 38) 3 F rfl dX5_joins_38 ?_
          refine js_iaddN (pc := 39) (a := 2) (b := i) F dX5_joins_39 ?_
          refine js_calli (pc := 40) F (c_X5_part _ hy (G := G1) (s := so) (p := 2 + i) (by omega)) mf_X5_part gX5_joins_X5_part rfl (by decide) (by decide) (js_ct_M) rfl rfl rfl (Nat.le_of_ble_eq_true rfl) dX5_joins_40 ?_
          rintro _ _ ⟨hv40, rfl⟩
          rw [hv40, show G1 192 ((1 + 106 * so) + (2 + i)) = nI (rk2 (i)) from (((hS2.fr hf hne).2.2.2.1 _ (by omega)).trans (congrArg nI (jz_lt (by omega))))]
          clear hv40
          refine js_goto (pc := 43) (tgt := 54) F dX5_joins_43 (by decide) ?_
          refine js_callv (pc := 54) F (c_X5_setPart _ hy (G := G1) (s := s) (p := 2 + i) (v := nI (rk2 (i))) (by omega)) mf_X5_setPart gX5_joins_X5_setPart rfl (by decide) (by decide) (js_ct_M) rfl rfl rfl (Nat.le_of_ble_eq_true rfl) dX5_joins_54 ?_
          rintro _ rfl
          refine js_iinc (pc := 57) (v := nI (i + 1)) (lv2 := [(0, .ref (js_ad y (191))), (1, .int (nI (s))), (2, .int (nI (so))), (3, .int (nI (i + 1)))]) F dX5_joins_57 3 rfl (nI_add _ _) (by decide) [1, 2, 3, 0] rfl ?_
          refine js_goto (pc := 60) (tgt := 2) F dX5_joins_60 (by decide) ?_
          exact ih2 (i + 1) (js_st G1 (192) ((1 + 106 * s) + (2 + i)) (nI (rk2 (i)))) (by omega) (mr_S_mi hS1 hS2.2.2.2.2.1 (by omega) (by have h := h32; simp only [jm_mi_self] at h ⊢; unfold jm_mx; first | rw [if_pos h] | rw [if_neg (Nat.not_lt.mpr h)])) (hf.tr (mfS.st (by omega))) (by omega)
  exact L2 (_ + 1) 0 G (Nat.zero_le _) (hS.rk (fun b _ => (if_neg (Nat.not_lt_zero _)).symm)) (mfS.rf) (Nat.lt_succ_self _)
theorem c_X5_joins (la : Launch) {y : js_L} (hy : js_Dy y) {G : js_G} {s : Nat} (hs : s < 6) {B : Nat} {rk : Nat → Nat} {ls : Option (List Nat)} (hS : mr_S G 192 (1 + 106 * s) B rk ls) {so : Nat} (hso : so < 6) (hne : so ≠ s) {rk2 : Nat → Nat} {ls2 : Option (List Nat)} (hS2 : mr_S G 192 (1 + 106 * so) B rk2 ls2) : js_Ci la y yX5_joins wsX5_joins 5 102 [.ref (js_ad y (191)), .int (nI (s)), .int (nI (so))] G (fun r G' => r = nI (jm_est (jm_mx rk rk2) (2 ^ B)) ∧ ∃ Gm, mr_S Gm 192 (1 + 106 * s) B (jm_mx rk rk2) (jm_jl ls ls2) ∧ mfS s G Gm ∧ mfR Gm G') := by
  cases ls2 with
  | none => exact c_X5_joins_n la hy hs hS hso hne hS2
  | some l => exact c_X5_joins_s la hy hs hS hso hne hS2
theorem mf_X5_folds : js_M yX5_folds cX5_folds 6 (some .int) wsX5_folds 1 := ⟨⟨_, rfl⟩, by decide +kernel, by decide +kernel, by decide +kernel, by decide +kernel⟩
set_option maxHeartbeats 4000000 in
set_option maxRecDepth 100000 in
theorem c_X5_folds (la : Launch) {y : js_L} (hy : js_Dy y) {G : js_G} {s : Nat} (hs : s < 6) {B : Nat} {rk : Nat → Nat} {ls : Option (List Nat)} (hS : mr_S G 192 (1 + 106 * s) B rk ls) (h2B : 2 < B) : js_Ci la y yX5_folds wsX5_folds 3 55 [.ref (js_ad y (191)), .int (nI (s))] G (fun r G' => r = nI (2 ^ (B - 1)) ∧ mr_S G' 192 (1 + 106 * s) (B - 1) (jm_fd B rk) ls ∧ mfS s G G') := by
  obtain ⟨hB2, hB6, hB, hR, hK, hL⟩ := id hS
  have hp : 2 ^ B ≤ 64 := jm_p6 hB6
  have hp1 := jm_p1 B
  have hp4 := jm_p4 hB2
  obtain ⟨hh1, hh2⟩ := jm_half (B := B) (by omega)
  refine js_ofi mf_X5_folds (Nat.le_of_ble_eq_true rfl) hy (fun X F hr => ?_)
  replace F : js_F X y cX5_folds 6 RX5 wsX5_folds 3 55 := F
  show js_W X y 6 _ G 0 [(0, .ref (js_ad y (191))), (1, .int (nI (s)))] []
  refine js_aload_n (pc := 0) 0 F rfl dX5_folds_0 ?_
  refine js_iload_n (pc := 1) 1 F rfl dX5_folds_1 ?_
  refine js_calli (pc := 2) F (c_X5_bucketsOf _ hy (s := s) (by omega) (G := G) (hS)) mf_X5_bucketsOf gX5_folds_X5_bucketsOf rfl (by decide) (by decide) (js_ct_M) rfl rfl rfl (Nat.le_of_ble_eq_true rfl) dX5_folds_2 ?_
  rintro _ _ ⟨rfl, rfl⟩
  refine js_iconst (pc := 5) (v := nI (2)) F (by decide) dX5_folds_5 ?_
  refine js_idivN (pc := 6) (a := 2 ^ B) (b := 2) F (by omega) (by omega) (by omega) dX5_folds_6 ?_
  refine js_val (v := nI (2 ^ (B - 1))) (congrArg nI hh1) ?_
  refine js_istore_n (pc := 7) (lv2 := [(0, .ref (js_ad y (191))), (1, .int (nI (s))), (2, .int (nI (2 ^ (B - 1))))]) F dX5_folds_7 (by decide) [1, 2, 0] rfl ?_
  refine js_iconst (pc := 8) (v := nI (0)) F (by decide) dX5_folds_8 ?_
  refine js_istore_n (pc := 9) (lv2 := [(0, .ref (js_ad y (191))), (1, .int (nI (s))), (2, .int (nI (2 ^ (B - 1)))), (3, .int (nI (0)))]) F dX5_folds_9 (by decide) [1, 2, 3, 0] rfl ?_
  have L10 : ∀ (fu10 : Nat) (i : Nat) (G1 : js_G) (hi : i ≤ 2 ^ (B - 1)) (h1 : ∀ b, b < 64 → G1 192 ((1 + 106 * s) + (2 + b)) = nI (jm_fi B rk i b)) (h0 : G1 192 ((1 + 106 * s) + 0) = nI B) (hL1 : mr_L G1 192 (1 + 106 * s) ls) (hf : mfS s G G1) (hfu10 : 2 ^ (B - 1) - i < fu10), js_W X y 6 (js_Qi X y (fun r G' => r = nI (2 ^ (B - 1)) ∧ mr_S G' 192 (1 + 106 * s) (B - 1) (jm_fd B rk) ls ∧ mfS s G G')) G1 10 [(0, .ref (js_ad y (191))), (1, .int (nI (s))), (2, .int (nI (2 ^ (B - 1)))), (3, .int (nI (i)))] [] := by
    intro fu10
    induction fu10 with
    | zero => intro i G1 hi h1 h0 hL1 hf hfu10; exact absurd hfu10 (Nat.not_lt_zero _)
    | succ fu10 ih10 =>
      intro i G1 hi h1 h0 hL1 hf hfu10
      refine js_iload_n (pc := 10) 3 F rfl dX5_folds_10 ?_
      refine js_iload_n (pc := 11) 2 F rfl dX5_folds_11 ?_
      refine js_icmp_geN (pc := 12) (a := i) (b := 2 ^ (B - 1)) (tgt := 84) F (by first | omega | (have := hK i (by omega); have := hK (i + 2 ^ (B - 1)) (by omega); omega)) (by first | omega | (have := hK i (by omega); have := hK (i + 2 ^ (B - 1)) (by omega); omega)) dX5_folds_12 (by decide) (fun h12 => ?_) (fun h12 => ?_)
      · skip
        refine js_aload_n (pc := 84) 0 F rfl dX5_folds_84 ?_
        refine js_iload_n (pc := 85) 1 F rfl dX5_folds_85 ?_
        refine js_iconst (pc := 86) (v := nI (0)) F (by decide) dX5_folds_86 ?_
        refine js_aload_n (pc := 87) 0 F rfl dX5_folds_87 ?_
        refine js_iload_n (pc := 88) 1 F rfl dX5_folds_88 ?_
        refine js_iconst (pc := 89) (v := nI (0)) F (by decide) dX5_folds_89 ?_
        refine js_calli (pc := 90) F (c_X5_part _ hy (G := G1) (s := s) (p := 0) (by omega)) mf_X5_part gX5_folds_X5_part rfl (by decide) (by decide) (js_ct_M) rfl rfl rfl (Nat.le_of_ble_eq_true rfl) dX5_folds_90 ?_
        rintro _ _ ⟨hv90, rfl⟩
        rw [hv90, show G1 192 ((1 + 106 * s) + 0) = nI (B) from (h0)]
        clear hv90
        refine js_iconst (pc := 93) (v := nI (1)) F (by decide) dX5_folds_93 ?_
        refine js_isubN (pc := 94) (a := B) (b := 1) F (by omega) dX5_folds_94 ?_
        refine js_callv (pc := 95) F (c_X5_setPart _ hy (G := G1) (s := s) (p := 0) (v := nI (B - 1)) (by omega)) mf_X5_setPart gX5_folds_X5_setPart rfl (by decide) (by decide) (js_ct_M) rfl rfl rfl (Nat.le_of_ble_eq_true rfl) dX5_folds_95 ?_
        rintro _ rfl
        refine js_iload_n (pc := 98) 2 F rfl dX5_folds_98 ?_
        refine js_iret (pc := 99) F hr (rfl) ?_ dX5_folds_99
        have e : i = 2 ^ (B - 1) := by omega
        subst e
        refine ⟨rfl, ⟨by omega, by omega, ?_, fun b hb => ?_, fun b hb => jm_fd_le (by omega) hB6 hK hb, ?_⟩, hf.tr (mfS.st (by decide))⟩
        · rw [js_st_s]; simp [upd]
        · rw [js_st_s]; exact (if_neg (by omega)).trans ((h1 b hb).trans (congrArg nI (jm_fi_end (by omega) b)))
        · exact mr_L_st hL1 (by decide) (by decide)
      · skip
        refine js_aload_n (pc := 15) 0 F rfl dX5_folds_15 ?_
        refine js_iload_n (pc := 16) 1 F rfl dX5_folds_16 ?_
        refine js_iconst (pc := 17) (v := nI (2)) F (by decide) dX5_folds_17 ?_
        refine js_iload_n (pc := 18) 3 F rfl dX5_folds_18 ?_
        refine js_iaddN (pc := 19) (a := 2) (b := i) F dX5_folds_19 ?_
        refine js_calli (pc := 20) F (c_X5_part _ hy (G := G1) (s := s) (p := 2 + i) (by omega)) mf_X5_part gX5_folds_X5_part rfl (by decide) (by decide) (js_ct_M) rfl rfl rfl (Nat.le_of_ble_eq_true rfl) dX5_folds_20 ?_
        rintro _ _ ⟨hv20, rfl⟩
        rw [hv20, show G1 192 ((1 + 106 * s) + (2 + i)) = nI (rk (i)) from ((h1 i (by omega)).trans (congrArg nI (jm_fi_lo (by omega) (by omega))))]
        clear hv20
        refine js_istore (pc := 23) (lv2 := [(0, .ref (js_ad y (191))), (1, .int (nI (s))), (2, .int (nI (2 ^ (B - 1)))), (3, .int (nI (i))), (4, .int (nI (rk (i))))]) F dX5_folds_23 (by decide) [1, 2, 3, 4, 0] rfl ?_
        refine js_aload_n (pc := 25) 0 F rfl dX5_folds_25 ?_
        refine js_iload_n (pc := 26) 1 F rfl dX5_folds_26 ?_
        refine js_iconst (pc := 27) (v := nI (2)) F (by decide) dX5_folds_27 ?_
        refine js_iload_n (pc := 28) 2 F rfl dX5_folds_28 ?_
        refine js_iaddN (pc := 29) (a := 2) (b := 2 ^ (B - 1)) F dX5_folds_29 ?_
        refine js_iload_n (pc := 30) 3 F rfl dX5_folds_30 ?_
        refine js_iaddN (pc := 31) (a := 2 + (2 ^ (B - 1))) (b := i) F dX5_folds_31 ?_
        refine js_calli (pc := 32) F (c_X5_part _ hy (G := G1) (s := s) (p := (2 + (2 ^ (B - 1))) + i) (by omega)) mf_X5_part gX5_folds_X5_part rfl (by decide) (by decide) (js_ct_M) rfl rfl rfl (Nat.le_of_ble_eq_true rfl) dX5_folds_32 ?_
        rintro _ _ ⟨hv32, rfl⟩
        rw [hv32, show G1 192 ((1 + 106 * s) + ((2 + (2 ^ (B - 1))) + i)) = nI (rk (i + 2 ^ (B - 1))) from (by rw [show (2 + 2 ^ (B - 1)) + i = 2 + (2 ^ (B - 1) + i) by omega]; exact (h1 _ (by omega)).trans (congrArg nI (jm_fi_hi (by omega) (by omega))))]
        clear hv32
        refine js_istore (pc := 35) (lv2 := [(0, .ref (js_ad y (191))), (1, .int (nI (s))), (2, .int (nI (2 ^ (B - 1)))), (3, .int (nI (i))), (4, .int (nI (rk (i)))), (5, .int (nI (rk (i + 2 ^ (B - 1)))))]) F dX5_folds_35 (by decide) [1, 2, 3, 4, 5, 0] rfl ?_
        refine js_aload_n (pc := 37) 0 F rfl dX5_folds_37 ?_
        refine js_iload_n (pc := 38) 1 F rfl dX5_folds_38 ?_
        refine js_iconst (pc := 39) (v := nI (2)) F (by decide) dX5_folds_39 ?_
        refine js_iload_n (pc := 40) 3 F rfl dX5_folds_40 ?_
        refine js_iaddN (pc := 41) (a := 2) (b := i) F dX5_folds_41 ?_
        refine js_iload (pc := 42) 4 F rfl dX5_folds_42 ?_
        refine js_if_leN (pc := 44) (a := rk (i)) (tgt := 54) F (by first | omega | (have := hK i (by omega); have := hK (i + 2 ^ (B - 1)) (by omega); omega)) dX5_folds_44 (by decide) (fun h44 => ?_) (fun h44 => ?_)
        · skip
          refine js_iload (pc := 54) 5 F rfl dX5_folds_54 ?_
          refine js_if_leN (pc := 56) (a := rk (i + 2 ^ (B - 1))) (tgt := 63) F (by first | omega | (have := hK i (by omega); have := hK (i + 2 ^ (B - 1)) (by omega); omega)) dX5_folds_56 (by decide) (fun h56 => ?_) (fun h56 => ?_)
          · skip
            refine js_iconst (pc := 63) (v := nI (0)) F (by decide) dX5_folds_63 ?_
            refine js_callv (pc := 64) F (c_X5_setPart _ hy (G := G1) (s := s) (p := 2 + i) (v := nI (0)) (by omega)) mf_X5_setPart gX5_folds_X5_setPart rfl (by decide) (by decide) (js_ct_M) rfl rfl rfl (Nat.le_of_ble_eq_true rfl) dX5_folds_64 ?_
            rintro _ rfl
            refine js_aload_n (pc := 67) 0 F rfl dX5_folds_67 ?_
            refine js_iload_n (pc := 68) 1 F rfl dX5_folds_68 ?_
            refine js_iconst (pc := 69) (v := nI (2)) F (by decide) dX5_folds_69 ?_
            refine js_iload_n (pc := 70) 2 F rfl dX5_folds_70 ?_
            refine js_iaddN (pc := 71) (a := 2) (b := 2 ^ (B - 1)) F dX5_folds_71 ?_
            refine js_iload_n (pc := 72) 3 F rfl dX5_folds_72 ?_
            refine js_iaddN (pc := 73) (a := 2 + (2 ^ (B - 1))) (b := i) F dX5_folds_73 ?_
            refine js_iconst (pc := 74) (v := nI (0)) F (by decide) dX5_folds_74 ?_
            refine js_callv (pc := 75) F (c_X5_setPart _ hy (G := (js_st G1 (192) ((1 + 106 * s) + (2 + i)) (nI (0)))) (s := s) (p := (2 + (2 ^ (B - 1))) + i) (v := nI (0)) (by omega)) mf_X5_setPart gX5_folds_X5_setPart rfl (by decide) (by decide) (js_ct_M) rfl rfl rfl (Nat.le_of_ble_eq_true rfl) dX5_folds_75 ?_
            rintro _ rfl
            refine js_iinc (pc := 78) (v := nI (i + 1)) (lv2 := [(0, .ref (js_ad y (191))), (1, .int (nI (s))), (2, .int (nI (2 ^ (B - 1)))), (3, .int (nI (i + 1))), (4, .int (nI (rk (i)))), (5, .int (nI (rk (i + 2 ^ (B - 1)))))]) F dX5_folds_78 3 rfl (nI_add _ _) (by decide) [1, 2, 3, 0, 4, 5] rfl ?_
            refine js_goto (pc := 81) (tgt := 10) F dX5_folds_81 (by decide) ?_
            refine js_sub (lv2 := [(0, .ref (js_ad y (191))), (1, .int (nI (s))), (2, .int (nI (2 ^ (B - 1)))), (3, .int (nI (i + 1)))]) [0, 1, 2, 3] rfl ?_
            exact ih10 (i + 1) (js_st (js_st G1 (192) ((1 + 106 * s) + (2 + i)) (nI (0))) (192) ((1 + 106 * s) + ((2 + (2 ^ (B - 1))) + i)) (nI (0))) (by omega) (jm_fi_s (by omega) (by omega) (by unfold jm_fd; first | (rw [if_neg (by omega)]; done) | (rw [if_pos (by omega), if_neg (by omega)]; done) | (rw [if_pos (by omega), if_pos (by omega)]; done)) h1 hp) (by rw [js_st_s, js_st_s]; exact (if_neg (by omega)).trans ((if_neg (by omega)).trans h0)) (mr_L_st (mr_L_st hL1 (by omega) (by omega)) (by omega) (by omega)) (hf.tr ((mfS.st (by omega)).tr (mfS.st (by omega)))) (by omega)
          · skip
            refine js_iconst (pc := 59) (v := nI (1)) F (by decide) dX5_folds_59 ?_
            refine js_goto (pc := 60) (tgt := 64) F dX5_folds_60 (by decide) ?_
            refine js_callv (pc := 64) F (c_X5_setPart _ hy (G := G1) (s := s) (p := 2 + i) (v := nI (1)) (by omega)) mf_X5_setPart gX5_folds_X5_setPart rfl (by decide) (by decide) (js_ct_M) rfl rfl rfl (Nat.le_of_ble_eq_true rfl) dX5_folds_64 ?_
            rintro _ rfl
            refine js_aload_n (pc := 67) 0 F rfl dX5_folds_67 ?_
            refine js_iload_n (pc := 68) 1 F rfl dX5_folds_68 ?_
            refine js_iconst (pc := 69) (v := nI (2)) F (by decide) dX5_folds_69 ?_
            refine js_iload_n (pc := 70) 2 F rfl dX5_folds_70 ?_
            refine js_iaddN (pc := 71) (a := 2) (b := 2 ^ (B - 1)) F dX5_folds_71 ?_
            refine js_iload_n (pc := 72) 3 F rfl dX5_folds_72 ?_
            refine js_iaddN (pc := 73) (a := 2 + (2 ^ (B - 1))) (b := i) F dX5_folds_73 ?_
            refine js_iconst (pc := 74) (v := nI (0)) F (by decide) dX5_folds_74 ?_
            refine js_callv (pc := 75) F (c_X5_setPart _ hy (G := (js_st G1 (192) ((1 + 106 * s) + (2 + i)) (nI (1)))) (s := s) (p := (2 + (2 ^ (B - 1))) + i) (v := nI (0)) (by omega)) mf_X5_setPart gX5_folds_X5_setPart rfl (by decide) (by decide) (js_ct_M) rfl rfl rfl (Nat.le_of_ble_eq_true rfl) dX5_folds_75 ?_
            rintro _ rfl
            refine js_iinc (pc := 78) (v := nI (i + 1)) (lv2 := [(0, .ref (js_ad y (191))), (1, .int (nI (s))), (2, .int (nI (2 ^ (B - 1)))), (3, .int (nI (i + 1))), (4, .int (nI (rk (i)))), (5, .int (nI (rk (i + 2 ^ (B - 1)))))]) F dX5_folds_78 3 rfl (nI_add _ _) (by decide) [1, 2, 3, 0, 4, 5] rfl ?_
            refine js_goto (pc := 81) (tgt := 10) F dX5_folds_81 (by decide) ?_
            refine js_sub (lv2 := [(0, .ref (js_ad y (191))), (1, .int (nI (s))), (2, .int (nI (2 ^ (B - 1)))), (3, .int (nI (i + 1)))]) [0, 1, 2, 3] rfl ?_
            exact ih10 (i + 1) (js_st (js_st G1 (192) ((1 + 106 * s) + (2 + i)) (nI (1))) (192) ((1 + 106 * s) + ((2 + (2 ^ (B - 1))) + i)) (nI (0))) (by omega) (jm_fi_s (by omega) (by omega) (by unfold jm_fd; first | (rw [if_neg (by omega)]; done) | (rw [if_pos (by omega), if_neg (by omega)]; done) | (rw [if_pos (by omega), if_pos (by omega)]; done)) h1 hp) (by rw [js_st_s, js_st_s]; exact (if_neg (by omega)).trans ((if_neg (by omega)).trans h0)) (mr_L_st (mr_L_st hL1 (by omega) (by omega)) (by omega) (by omega)) (hf.tr ((mfS.st (by omega)).tr (mfS.st (by omega)))) (by omega)
        · skip
          refine js_iload (pc := 47) 4 F rfl dX5_folds_47 ?_
          refine js_iconst (pc := 49) (v := nI (1)) F (by decide) dX5_folds_49 ?_
          refine js_iaddN (pc := 50) (a := rk (i)) (b := 1) F dX5_folds_50 ?_
          refine js_goto (pc := 51) (tgt := 64) F dX5_folds_51 (by decide) ?_
          refine js_callv (pc := 64) F (c_X5_setPart _ hy (G := G1) (s := s) (p := 2 + i) (v := nI ((rk (i)) + 1)) (by omega)) mf_X5_setPart gX5_folds_X5_setPart rfl (by decide) (by decide) (js_ct_M) rfl rfl rfl (Nat.le_of_ble_eq_true rfl) dX5_folds_64 ?_
          rintro _ rfl
          refine js_aload_n (pc := 67) 0 F rfl dX5_folds_67 ?_
          refine js_iload_n (pc := 68) 1 F rfl dX5_folds_68 ?_
          refine js_iconst (pc := 69) (v := nI (2)) F (by decide) dX5_folds_69 ?_
          refine js_iload_n (pc := 70) 2 F rfl dX5_folds_70 ?_
          refine js_iaddN (pc := 71) (a := 2) (b := 2 ^ (B - 1)) F dX5_folds_71 ?_
          refine js_iload_n (pc := 72) 3 F rfl dX5_folds_72 ?_
          refine js_iaddN (pc := 73) (a := 2 + (2 ^ (B - 1))) (b := i) F dX5_folds_73 ?_
          refine js_iconst (pc := 74) (v := nI (0)) F (by decide) dX5_folds_74 ?_
          refine js_callv (pc := 75) F (c_X5_setPart _ hy (G := (js_st G1 (192) ((1 + 106 * s) + (2 + i)) (nI ((rk (i)) + 1)))) (s := s) (p := (2 + (2 ^ (B - 1))) + i) (v := nI (0)) (by omega)) mf_X5_setPart gX5_folds_X5_setPart rfl (by decide) (by decide) (js_ct_M) rfl rfl rfl (Nat.le_of_ble_eq_true rfl) dX5_folds_75 ?_
          rintro _ rfl
          refine js_iinc (pc := 78) (v := nI (i + 1)) (lv2 := [(0, .ref (js_ad y (191))), (1, .int (nI (s))), (2, .int (nI (2 ^ (B - 1)))), (3, .int (nI (i + 1))), (4, .int (nI (rk (i)))), (5, .int (nI (rk (i + 2 ^ (B - 1)))))]) F dX5_folds_78 3 rfl (nI_add _ _) (by decide) [1, 2, 3, 0, 4, 5] rfl ?_
          refine js_goto (pc := 81) (tgt := 10) F dX5_folds_81 (by decide) ?_
          refine js_sub (lv2 := [(0, .ref (js_ad y (191))), (1, .int (nI (s))), (2, .int (nI (2 ^ (B - 1)))), (3, .int (nI (i + 1)))]) [0, 1, 2, 3] rfl ?_
          exact ih10 (i + 1) (js_st (js_st G1 (192) ((1 + 106 * s) + (2 + i)) (nI ((rk (i)) + 1))) (192) ((1 + 106 * s) + ((2 + (2 ^ (B - 1))) + i)) (nI (0))) (by omega) (jm_fi_s (by omega) (by omega) (by unfold jm_fd; first | (rw [if_neg (by omega)]; done) | (rw [if_pos (by omega), if_neg (by omega)]; done) | (rw [if_pos (by omega), if_pos (by omega)]; done)) h1 hp) (by rw [js_st_s, js_st_s]; exact (if_neg (by omega)).trans ((if_neg (by omega)).trans h0)) (mr_L_st (mr_L_st hL1 (by omega) (by omega)) (by omega) (by omega)) (hf.tr ((mfS.st (by omega)).tr (mfS.st (by omega)))) (by omega)
  exact L10 (_ + 1) 0 G (Nat.zero_le _) (fun b hb => (hR b hb).trans (congrArg nI jm_fi_0.symm)) (hB) (hL) (mfS.rf) (Nat.lt_succ_self _)
theorem mf_X5_shareBits : js_M yX5_shareBits cX5_shareBits 3 (some .int) wsX5_shareBits 2 := ⟨⟨_, rfl⟩, by decide +kernel, by decide +kernel, by decide +kernel, by decide +kernel⟩
set_option maxHeartbeats 4000000 in
set_option maxRecDepth 100000 in
theorem c_X5_shareBits (la : Launch) {y : js_L} (hy : js_Dy y) {G : js_G} {m B : Nat} (hm : m ≤ 64) (hB6 : B ≤ 6) : js_Ci la y yX5_shareBits wsX5_shareBits 1 12 [.int (nI (m)), .int (nI (B))] G (fun r G' => r = jm_share m B ∧ G = G') := by
  refine js_ofi mf_X5_shareBits (Nat.le_of_ble_eq_true rfl) hy (fun X F hr => ?_)
  replace F : js_F X y cX5_shareBits 3 RX5 wsX5_shareBits 1 12 := F
  show js_W X y 3 _ G 0 [(0, .int (nI (m))), (1, .int (nI (B)))] []
  refine js_iload_n (pc := 0) 0 F rfl dX5_shareBits_0 ?_
  refine js_if_neN (pc := 1) (a := m) (tgt := 6) F (by first | omega | (have := Nat.div_le_self m (2 ^ q); omega)) dX5_shareBits_1 (by decide) (fun h1 => ?_) (fun h1 => ?_)
  · skip
    refine js_iconst (pc := 6) (v := nI (0)) F (by decide) dX5_shareBits_6 ?_
    refine js_istore_n (pc := 7) (lv2 := [(0, .int (nI (m))), (1, .int (nI (B))), (2, .int (nI (0)))]) F dX5_shareBits_7 (by decide) [1, 2, 0] rfl ?_
    have L8 : ∀ (fu8 : Nat) (q : Nat) (hq : q ≤ 6) (hq2 : q = 0 ∨ 1 < m / 2 ^ (q - 1)) (hfu8 : 7 - q < fu8), js_W X y 3 (js_Qi X y (fun r G' => r = jm_share m B ∧ G = G')) G 8 [(0, .int (nI (m))), (1, .int (nI (B))), (2, .int (nI (q)))] [] := by
      intro fu8
      induction fu8 with
      | zero => intro q hq hq2 hfu8; exact absurd hfu8 (Nat.not_lt_zero _)
      | succ fu8 ih8 =>
        intro q hq hq2 hfu8
        refine js_iload_n (pc := 8) 0 F rfl dX5_shareBits_8 ?_
        refine js_iload_n (pc := 9) 2 F rfl dX5_shareBits_9 ?_
        refine js_ishrN (pc := 10) (a := m) (b := q) F (by omega) (by omega) dX5_shareBits_10 ?_
        refine js_iconst (pc := 11) (v := nI (1)) F (by decide) dX5_shareBits_11 ?_
        refine js_icmp_leN (pc := 12) (a := m / 2 ^ q) (b := 1) (tgt := 21) F (by first | omega | (have := Nat.div_le_self m (2 ^ q); omega)) (by decide) dX5_shareBits_12 (by decide) (fun h12 => ?_) (fun h12 => ?_)
        · skip
          refine js_bipush (pc := 21) (v := nI (127)) F (by decide) dX5_shareBits_21 ?_
          refine js_iload_n (pc := 23) 2 F rfl dX5_shareBits_23 ?_
          refine js_iaddN (pc := 24) (a := 127) (b := q) F dX5_shareBits_24 ?_
          refine js_iload_n (pc := 25) 1 F rfl dX5_shareBits_25 ?_
          refine js_isub (pc := 26) F dX5_shareBits_26 ?_
          refine js_bipush (pc := 27) (v := nI (23)) F (by decide) dX5_shareBits_27 ?_
          refine js_ishl (pc := 29) F dX5_shareBits_29 ?_
          refine js_iload_n (pc := 30) 0 F rfl dX5_shareBits_30 ?_
          refine js_iconst (pc := 31) (v := nI (1)) F (by decide) dX5_shareBits_31 ?_
          refine js_iload_n (pc := 32) 2 F rfl dX5_shareBits_32 ?_
          refine js_ishl (pc := 33) F dX5_shareBits_33 ?_
          refine js_isub (pc := 34) F dX5_shareBits_34 ?_
          refine js_bipush (pc := 35) (v := nI (23)) F (by decide) dX5_shareBits_35 ?_
          refine js_iload_n (pc := 37) 2 F rfl dX5_shareBits_37 ?_
          refine js_isub (pc := 38) F dX5_shareBits_38 ?_
          refine js_ishl (pc := 39) F dX5_shareBits_39 ?_
          refine js_iadd (pc := 40) F dX5_shareBits_40 ?_
          refine js_iret (pc := 41) F hr (rfl) ?_ dX5_shareBits_41
          exact ⟨jm_share_eq (by omega) (by omega) (by omega) h1 (by omega) hq2, rfl⟩
        · skip
          refine js_iinc (pc := 15) (v := nI (q + 1)) (lv2 := [(0, .int (nI (m))), (1, .int (nI (B))), (2, .int (nI (q + 1)))]) F dX5_shareBits_15 2 rfl (nI_add _ _) (by decide) [1, 2, 0] rfl ?_
          refine js_goto (pc := 18) (tgt := 8) F dX5_shareBits_18 (by decide) ?_
          exact ih8 (q + 1) (by rcases Nat.lt_or_ge q 6 with z | z; omega; exfalso; rw [show q = 6 by omega] at h12; omega) (Or.inr h12) (by omega)
    exact L8 (_ + 1) 0 (by decide) (Or.inl rfl) (Nat.lt_succ_self _)
  · skip
    refine js_iconst (pc := 4) (v := nI (0)) F (by decide) dX5_shareBits_4 ?_
    refine js_iret (pc := 5) F hr (rfl) ?_ dX5_shareBits_5
    exact ⟨by unfold jm_share; rw [if_pos h1], rfl⟩
theorem in_X5_takeRanksBy_5 : ∀ w ∈ wsX50, w ∈ wsX5_takeRanksBy := by decide +kernel
theorem lk_X5_takeRanksBy_fieldLink_RX5_25_JoinedSketchesModel_ranks_I : Cond.fieldLink RX5 25 "JoinedSketchesModel" "ranks" "[I" ∈ wsX5_takeRanksBy := by decide +kernel
theorem mf_X5_takeRanksBy : js_M yX5_takeRanksBy cX5_takeRanksBy 7 none wsX5_takeRanksBy 2 := ⟨⟨_, rfl⟩, by decide +kernel, by decide +kernel, by decide +kernel, by decide +kernel⟩
set_option maxHeartbeats 4000000 in
set_option maxRecDepth 100000 in
theorem c_X5_takeRanksBy (la : Launch) {y : js_L} (hy : js_Dy y) {G : js_G} {s : Nat} (hs : s < 6) {B : Nat} {rk : Nat → Nat} {l : List Nat} (hS : mr_S G 192 (1 + 106 * s) B rk (some l)) {sl : Nat} (hsl6 : sl < 65536) : js_Cv la y yX5_takeRanksBy wsX5_takeRanksBy 3 55 [.ref (js_ad y (191)), .int (nI (s)), .int (nI (sl))] G (fun G' => (∀ b, b < 64 → G' 197 b = nI (jm_rkl sl B l b)) ∧ mfR G G') := by
  obtain ⟨hB2, hB6, hB, hR, hK, hL⟩ := id hS
  have hp : 2 ^ B ≤ 64 := jm_p6 hB6
  have hp1 := jm_p1 B
  have hp4 := jm_p4 hB2
  obtain ⟨hl1, hlen, hE, hT⟩ := id hL
  refine js_ofv mf_X5_takeRanksBy (Nat.le_of_ble_eq_true rfl) hy (fun X F hr => ?_)
  replace F : js_F X y cX5_takeRanksBy 7 RX5 wsX5_takeRanksBy 3 55 := F
  show js_W X y 7 _ G 0 [(0, .ref (js_ad y (191))), (1, .int (nI (s))), (2, .int (nI (sl)))] []
  refine js_iconst (pc := 0) (v := nI (0)) F (by decide) dX5_takeRanksBy_0 ?_
  refine js_istore_n (pc := 1) (lv2 := [(0, .ref (js_ad y (191))), (1, .int (nI (s))), (2, .int (nI (sl))), (3, .int (nI (0)))]) F dX5_takeRanksBy_1 (by decide) [1, 2, 3, 0] rfl ?_
  have L2 : ∀ (fu2 : Nat) (k : Nat) (G1 : js_G) (hk : k ≤ 64) (h1 : ∀ b, b < k → G1 197 b = nI 0) (hf : mfR G G1) (hfu2 : 64 - k < fu2), js_W X y 7 (js_Qv X y (fun G' => (∀ b, b < 64 → G' 197 b = nI (jm_rkl sl B l b)) ∧ mfR G G')) G1 2 [(0, .ref (js_ad y (191))), (1, .int (nI (s))), (2, .int (nI (sl))), (3, .int (nI (k)))] [] := by
    intro fu2
    induction fu2 with
    | zero => intro k G1 hk h1 hf hfu2; exact absurd hfu2 (Nat.not_lt_zero _)
    | succ fu2 ih2 =>
      intro k G1 hk h1 hf hfu2
      refine js_iload_n (pc := 2) 3 F rfl dX5_takeRanksBy_2 ?_
      refine js_bipush (pc := 3) (v := nI (64)) F (by decide) dX5_takeRanksBy_3 ?_
      refine js_icmp_geN (pc := 5) (a := k) (b := 64) (tgt := 21) F (by first | omega | exact Nat.lt_of_lt_of_le (jm_hash_lt _ _) (by decide) | (have := jm_rkl_le (s := sl) hB6 (l.take k) (jm_hash (l.getD (k) 0) sl % 2 ^ B); omega)) (by decide) dX5_takeRanksBy_5 (by decide) (fun h5 => ?_) (fun h5 => ?_)
      · skip
        refine js_iconst (pc := 21) (v := nI (0)) F (by decide) dX5_takeRanksBy_21 ?_
        refine js_istore_n (pc := 22) (lv2 := [(0, .ref (js_ad y (191))), (1, .int (nI (s))), (2, .int (nI (sl))), (3, .int (nI (0)))]) F dX5_takeRanksBy_22 (by decide) [1, 2, 3, 0] rfl ?_
        have L23 : ∀ (fu23 : Nat) (k : Nat) (G2 : js_G) (hk2 : k ≤ l.length) (h2 : ∀ b, b < 64 → G2 197 b = nI (jm_rkl sl B (l.take k) b)) (hf2 : mfR G G2) (hfu23 : l.length - k < fu23), js_W X y 7 (js_Qv X y (fun G' => (∀ b, b < 64 → G' 197 b = nI (jm_rkl sl B l b)) ∧ mfR G G')) G2 23 [(0, .ref (js_ad y (191))), (1, .int (nI (s))), (2, .int (nI (sl))), (3, .int (nI (k)))] [] := by
          intro fu23
          induction fu23 with
          | zero => intro k G2 hk2 h2 hf2 hfu23; exact absurd hfu23 (Nat.not_lt_zero _)
          | succ fu23 ih23 =>
            intro k G2 hk2 h2 hf2 hfu23
            have hs2 := hS.co (hf2 192 (by decide))
            refine js_iload_n (pc := 23) 3 F rfl dX5_takeRanksBy_23 ?_
            refine js_aload_n (pc := 24) 0 F rfl dX5_takeRanksBy_24 ?_
            refine js_iload_n (pc := 25) 1 F rfl dX5_takeRanksBy_25 ?_
            refine js_iconst (pc := 26) (v := nI (1)) F (by decide) dX5_takeRanksBy_26 ?_
            refine js_calli (pc := 27) F (c_X5_part _ hy (G := G2) (s := s) (p := 1) (by omega)) mf_X5_part gX5_takeRanksBy_X5_part rfl (by decide) (by decide) (js_ct_M) rfl rfl rfl (Nat.le_of_ble_eq_true rfl) dX5_takeRanksBy_27 ?_
            rintro _ _ ⟨hv27, rfl⟩
            rw [hv27, show G2 192 ((1 + 106 * s) + 1) = nI (l.length) from (hs2.2.2.2.2.2.1)]
            clear hv27
            refine js_icmp_geN (pc := 30) (a := k) (b := l.length) (tgt := 108) F (by first | omega | exact Nat.lt_of_lt_of_le (jm_hash_lt _ _) (by decide) | (have := jm_rkl_le (s := sl) hB6 (l.take k) (jm_hash (l.getD (k) 0) sl % 2 ^ B); omega)) (by first | omega | exact Nat.lt_of_lt_of_le (jm_hash_lt _ _) (by decide) | (have := jm_rkl_le (s := sl) hB6 (l.take k) (jm_hash (l.getD (k) 0) sl % 2 ^ B); omega)) dX5_takeRanksBy_30 (by decide) (fun h30 => ?_) (fun h30 => ?_)
            · skip
              refine js_vret (pc := 108) F hr ?_ dX5_takeRanksBy_108
              have e : l.take k = l := List.take_of_length_le (by omega)
              rw [e] at h2
              exact ⟨h2, hf2⟩
            · skip
              have htk := hE _ (jm_getD_mem (k := k) (l := l) (by omega))
              refine js_aload_n (pc := 33) 0 F rfl dX5_takeRanksBy_33 ?_
              refine js_iload_n (pc := 34) 1 F rfl dX5_takeRanksBy_34 ?_
              refine js_bipush (pc := 35) (v := nI (66)) F (by decide) dX5_takeRanksBy_35 ?_
              refine js_iload_n (pc := 37) 3 F rfl dX5_takeRanksBy_37 ?_
              refine js_iaddN (pc := 38) (a := 66) (b := k) F dX5_takeRanksBy_38 ?_
              refine js_calli (pc := 39) F (c_X5_part _ hy (G := G2) (s := s) (p := 66 + k) (by omega)) mf_X5_part gX5_takeRanksBy_X5_part rfl (by decide) (by decide) (js_ct_M) rfl rfl rfl (Nat.le_of_ble_eq_true rfl) dX5_takeRanksBy_39 ?_
              rintro _ _ ⟨hv39, rfl⟩
              rw [hv39, show G2 192 ((1 + 106 * s) + (66 + k)) = nI (l.getD (k) 0) from (hs2.2.2.2.2.2.2.2.2 _ (by omega))]
              clear hv39
              refine js_iload_n (pc := 42) 2 F rfl dX5_takeRanksBy_42 ?_
              refine js_callsi (pc := 43) F (c_X5_hashOf _ hy (t := l.getD (k) 0) (sl := sl) (by omega) (by omega)) mf_X5_hashOf gX5_takeRanksBy_X5_hashOf (by decide) rfl rfl (Nat.le_of_ble_eq_true rfl) dX5_takeRanksBy_43 ?_
              rintro _ _ ⟨rfl, rfl⟩
              refine js_istore (pc := 46) (lv2 := [(0, .ref (js_ad y (191))), (1, .int (nI (s))), (2, .int (nI (sl))), (3, .int (nI (k))), (4, .int (nI (jm_hash (l.getD (k) 0) sl)))]) F dX5_takeRanksBy_46 (by decide) [1, 2, 3, 4, 0] rfl ?_
              have hhs := jm_hash_lt (l.getD (k) 0) sl
              have hmod : jm_hash (l.getD (k) 0) sl % 2 ^ B < 2 ^ B := Nat.mod_lt _ (by omega)
              have hrk := jm_rank_le hhs hB6
              refine js_iload (pc := 48) 4 F rfl dX5_takeRanksBy_48 ?_
              refine js_aload_n (pc := 50) 0 F rfl dX5_takeRanksBy_50 ?_
              refine js_iload_n (pc := 51) 1 F rfl dX5_takeRanksBy_51 ?_
              refine js_calli (pc := 52) F (c_X5_bucketsOf _ hy (s := s) (by omega) (G := G2) (hs2)) mf_X5_bucketsOf gX5_takeRanksBy_X5_bucketsOf rfl (by decide) (by decide) (js_ct_M) rfl rfl rfl (Nat.le_of_ble_eq_true rfl) dX5_takeRanksBy_52 ?_
              rintro _ _ ⟨rfl, rfl⟩
              refine js_iremN (pc := 55) (a := jm_hash (l.getD (k) 0) sl) (b := 2 ^ B) F (by omega) (by omega) (by omega) dX5_takeRanksBy_55 ?_
              refine js_istore (pc := 56) (lv2 := [(0, .ref (js_ad y (191))), (1, .int (nI (s))), (2, .int (nI (sl))), (3, .int (nI (k))), (4, .int (nI (jm_hash (l.getD (k) 0) sl))), (5, .int (nI ((jm_hash (l.getD (k) 0) sl) % (2 ^ B))))]) F dX5_takeRanksBy_56 (by decide) [1, 2, 3, 4, 5, 0] rfl ?_
              refine js_iload (pc := 58) 4 F rfl dX5_takeRanksBy_58 ?_
              refine js_aload_n (pc := 60) 0 F rfl dX5_takeRanksBy_60 ?_
              refine js_iload_n (pc := 61) 1 F rfl dX5_takeRanksBy_61 ?_
              refine js_iconst (pc := 62) (v := nI (0)) F (by decide) dX5_takeRanksBy_62 ?_
              refine js_calli (pc := 63) F (c_X5_part _ hy (G := G2) (s := s) (p := 0) (by omega)) mf_X5_part gX5_takeRanksBy_X5_part rfl (by decide) (by decide) (js_ct_M) rfl rfl rfl (Nat.le_of_ble_eq_true rfl) dX5_takeRanksBy_63 ?_
              rintro _ _ ⟨hv63, rfl⟩
              rw [hv63, show G2 192 ((1 + 106 * s) + 0) = nI (B) from (hs2.2.2.1)]
              clear hv63
              refine js_callsi (pc := 66) F (c_X5_rankOf _ hy (h := jm_hash (l.getD (k) 0) sl) (B := B) (by first | omega | exact jm_hash_lt _ _) (by omega)) mf_X5_rankOf gX5_takeRanksBy_X5_rankOf (by decide) rfl rfl (Nat.le_of_ble_eq_true rfl) dX5_takeRanksBy_66 ?_
              rintro _ _ ⟨rfl, rfl⟩
              refine js_istore (pc := 69) (lv2 := [(0, .ref (js_ad y (191))), (1, .int (nI (s))), (2, .int (nI (sl))), (3, .int (nI (k))), (4, .int (nI (jm_hash (l.getD (k) 0) sl))), (5, .int (nI ((jm_hash (l.getD (k) 0) sl) % (2 ^ B)))), (6, .int (nI (jm_rank (jm_hash (l.getD (k) 0) sl) B)))]) F dX5_takeRanksBy_69 (by decide) [1, 2, 3, 4, 5, 6, 0] rfl ?_
              refine js_aload_n (pc := 71) 0 F rfl dX5_takeRanksBy_71 ?_
              refine jg_M_ranks (pc := 72) F in_X5_takeRanksBy_5 (lk_X5_takeRanksBy_fieldLink_RX5_25_JoinedSketchesModel_ranks_I) dX5_takeRanksBy_72 ?_
              refine js_iload (pc := 75) 5 F rfl dX5_takeRanksBy_75 ?_
              refine js_iload (pc := 77) 6 F rfl dX5_takeRanksBy_77 ?_
              refine js_aload_n (pc := 79) 0 F rfl dX5_takeRanksBy_79 ?_
              refine jg_M_ranks (pc := 80) F in_X5_takeRanksBy_5 (lk_X5_takeRanksBy_fieldLink_RX5_25_JoinedSketchesModel_ranks_I) dX5_takeRanksBy_80 ?_
              refine js_iload (pc := 83) 5 F rfl dX5_takeRanksBy_83 ?_
              refine js_iald (pc := 85) (j := (jm_hash (l.getD (k) 0) sl) % (2 ^ B)) (v := nI (jm_rkl sl B (l.take k) ((jm_hash (l.getD (k) 0) sl) % (2 ^ B)))) F (by decide) (js_ct_Mr) rfl (by omega) (by decide) (h2 _ (by omega)) dX5_takeRanksBy_85 ?_
              refine js_icmp_leN (pc := 86) (a := jm_rank (jm_hash (l.getD (k) 0) sl) B) (b := jm_rkl sl B (l.take k) ((jm_hash (l.getD (k) 0) sl) % (2 ^ B))) (tgt := 94) F (by first | omega | exact Nat.lt_of_lt_of_le (jm_hash_lt _ _) (by decide) | (have := jm_rkl_le (s := sl) hB6 (l.take k) (jm_hash (l.getD (k) 0) sl % 2 ^ B); omega)) (by first | omega | exact Nat.lt_of_lt_of_le (jm_hash_lt _ _) (by decide) | (have := jm_rkl_le (s := sl) hB6 (l.take k) (jm_hash (l.getD (k) 0) sl % 2 ^ B); omega)) dX5_takeRanksBy_86 (by decide) (fun h86 => ?_) (fun h86 => ?_)
              · skip
                refine js_aload_n (pc := 94) 0 F rfl dX5_takeRanksBy_94 ?_
                refine jg_M_ranks (pc := 95) F in_X5_takeRanksBy_5 (lk_X5_takeRanksBy_fieldLink_RX5_25_JoinedSketchesModel_ranks_I) dX5_takeRanksBy_95 ?_
                refine js_iload (pc := 98) 5 F rfl dX5_takeRanksBy_98 ?_
                refine js_iald (pc := 100) (j := (jm_hash (l.getD (k) 0) sl) % (2 ^ B)) (v := nI (jm_rkl sl B (l.take k) ((jm_hash (l.getD (k) 0) sl) % (2 ^ B)))) F (by decide) (js_ct_Mr) rfl (by omega) (by decide) (h2 _ (by omega)) dX5_takeRanksBy_100 ?_
                refine js_iast (pc := 101) (j := (jm_hash (l.getD (k) 0) sl) % (2 ^ B)) F (by decide) (fun _ => js_ct_Mr) rfl (by omega) (by decide) dX5_takeRanksBy_101 ?_
                refine js_iinc (pc := 102) (v := nI (k + 1)) (lv2 := [(0, .ref (js_ad y (191))), (1, .int (nI (s))), (2, .int (nI (sl))), (3, .int (nI (k + 1))), (4, .int (nI (jm_hash (l.getD (k) 0) sl))), (5, .int (nI ((jm_hash (l.getD (k) 0) sl) % (2 ^ B)))), (6, .int (nI (jm_rank (jm_hash (l.getD (k) 0) sl) B)))]) F dX5_takeRanksBy_102 3 rfl (nI_add _ _) (by decide) [1, 2, 3, 0, 4, 5, 6] rfl ?_
                refine js_goto (pc := 105) (tgt := 23) F dX5_takeRanksBy_105 (by decide) ?_
                refine js_sub (lv2 := [(0, .ref (js_ad y (191))), (1, .int (nI (s))), (2, .int (nI (sl))), (3, .int (nI (k + 1)))]) [0, 1, 2, 3] rfl ?_
                exact ih23 (k + 1) (js_st G2 (197) ((jm_hash (l.getD (k) 0) sl) % (2 ^ B)) (nI (jm_rkl sl B (l.take k) ((jm_hash (l.getD (k) 0) sl) % (2 ^ B))))) (by omega) (fun b hb => by rw [js_st_s, jm_rkl_take (by omega)]; unfold upd jm_rs; first | (rw [if_pos h86]; unfold jm_up; by_cases q : b = jm_hash (l.getD (k) 0) sl % 2 ^ B; (rw [if_pos q, if_pos q]); (rw [if_neg q, if_neg q]; exact h2 b hb)) | (rw [if_neg (Nat.not_lt.mpr h86)]; by_cases q : b = jm_hash (l.getD (k) 0) sl % 2 ^ B; (rw [if_pos q, q]); (rw [if_neg q]; exact h2 b hb))) (hf2.tr mfR.st) (by omega)
              · skip
                refine js_iload (pc := 89) 6 F rfl dX5_takeRanksBy_89 ?_
                refine js_goto (pc := 91) (tgt := 101) F dX5_takeRanksBy_91 (by decide) ?_
                refine js_iast (pc := 101) (j := (jm_hash (l.getD (k) 0) sl) % (2 ^ B)) F (by decide) (fun _ => js_ct_Mr) rfl (by omega) (by decide) dX5_takeRanksBy_101 ?_
                refine js_iinc (pc := 102) (v := nI (k + 1)) (lv2 := [(0, .ref (js_ad y (191))), (1, .int (nI (s))), (2, .int (nI (sl))), (3, .int (nI (k + 1))), (4, .int (nI (jm_hash (l.getD (k) 0) sl))), (5, .int (nI ((jm_hash (l.getD (k) 0) sl) % (2 ^ B)))), (6, .int (nI (jm_rank (jm_hash (l.getD (k) 0) sl) B)))]) F dX5_takeRanksBy_102 3 rfl (nI_add _ _) (by decide) [1, 2, 3, 0, 4, 5, 6] rfl ?_
                refine js_goto (pc := 105) (tgt := 23) F dX5_takeRanksBy_105 (by decide) ?_
                refine js_sub (lv2 := [(0, .ref (js_ad y (191))), (1, .int (nI (s))), (2, .int (nI (sl))), (3, .int (nI (k + 1)))]) [0, 1, 2, 3] rfl ?_
                exact ih23 (k + 1) (js_st G2 (197) ((jm_hash (l.getD (k) 0) sl) % (2 ^ B)) (nI (jm_rank (jm_hash (l.getD (k) 0) sl) B))) (by omega) (fun b hb => by rw [js_st_s, jm_rkl_take (by omega)]; unfold upd jm_rs; first | (rw [if_pos h86]; unfold jm_up; by_cases q : b = jm_hash (l.getD (k) 0) sl % 2 ^ B; (rw [if_pos q, if_pos q]); (rw [if_neg q, if_neg q]; exact h2 b hb)) | (rw [if_neg (Nat.not_lt.mpr h86)]; by_cases q : b = jm_hash (l.getD (k) 0) sl % 2 ^ B; (rw [if_pos q, q]); (rw [if_neg q]; exact h2 b hb))) (hf2.tr mfR.st) (by omega)
        exact L23 (_ + 1) 0 G1 (Nat.zero_le _) (fun b hb => h1 b (by omega)) (hf) (Nat.lt_succ_self _)
      · skip
        refine js_aload_n (pc := 8) 0 F rfl dX5_takeRanksBy_8 ?_
        refine jg_M_ranks (pc := 9) F in_X5_takeRanksBy_5 (lk_X5_takeRanksBy_fieldLink_RX5_25_JoinedSketchesModel_ranks_I) dX5_takeRanksBy_9 ?_
        refine js_iload_n (pc := 12) 3 F rfl dX5_takeRanksBy_12 ?_
        refine js_iconst (pc := 13) (v := nI (0)) F (by decide) dX5_takeRanksBy_13 ?_
        refine js_iast (pc := 14) (j := k) F (by decide) (fun _ => js_ct_Mr) rfl (by omega) (by decide) dX5_takeRanksBy_14 ?_
        refine js_iinc (pc := 15) (v := nI (k + 1)) (lv2 := [(0, .ref (js_ad y (191))), (1, .int (nI (s))), (2, .int (nI (sl))), (3, .int (nI (k + 1)))]) F dX5_takeRanksBy_15 3 rfl (nI_add _ _) (by decide) [1, 2, 3, 0] rfl ?_
        refine js_goto (pc := 18) (tgt := 2) F dX5_takeRanksBy_18 (by decide) ?_
        exact ih2 (k + 1) (js_st G1 (197) (k) (nI (0))) (by omega) (fun b hb => by rw [js_st_s]; unfold upd; by_cases q : b = k; (rw [if_pos q]); (rw [if_neg q]; exact h1 b (by omega))) (hf.tr mfR.st) (by omega)
  exact L2 (_ + 1) 0 G (by decide) (fun b hb => absurd hb (Nat.not_lt_zero _)) (mfR.rf) (Nat.lt_succ_self _)
