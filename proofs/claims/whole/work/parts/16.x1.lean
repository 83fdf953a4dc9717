theorem in_X0_record_0 : ∀ w ∈ wsX00, w ∈ wsX0_record := by decide +kernel
theorem lk_X0_record_fieldLink_RX0_11_JoinedSketches_History_ring_LJoinedSketches_State : Cond.fieldLink RX0 11 "JoinedSketches$History" "ring" "[LJoinedSketches$State;" ∈ wsX0_record := by decide +kernel
theorem lk_X0_record_fieldLink_RX0_17_JoinedSketches_History_oldest_I : Cond.fieldLink RX0 17 "JoinedSketches$History" "oldest" "I" ∈ wsX0_record := by decide +kernel
theorem lk_X0_record_fieldLink_RX0_21_JoinedSketches_History_size_I : Cond.fieldLink RX0 21 "JoinedSketches$History" "size" "I" ∈ wsX0_record := by decide +kernel
theorem mf_X0_record : js_M yX0_record cX0_record 2 none wsX0_record 1 := ⟨⟨_, rfl⟩, by decide +kernel, by decide +kernel, by decide +kernel, by decide +kernel⟩
set_option maxHeartbeats 4000000 in
set_option maxRecDepth 100000 in
theorem c_X0_record_lt (la : Launch) {y : js_L} (hy : js_Dy y) {G : js_G} {h : List js_T} {s0 : js_T} (hH : jr_H G h) (hlen : ¬ h.length = 6) (hT : jr_T G 0 s0) : js_Cv la y yX0_record wsX0_record 4 101 [.ref (js_ad y (183)), .ref (js_ad y (js_kA 0))] G (fun G' => jr_H G' (jm_rec h s0) ∧ js_frH G G') := by
  obtain ⟨o, ho, e1, e2, hl, hh⟩ := id hH
  refine js_ofv mf_X0_record (Nat.le_of_ble_eq_true rfl) hy (fun X F hr => ?_)
  replace F : js_F X y cX0_record 2 RX0 wsX0_record 4 101 := F
  show js_W X y 2 _ G 0 [(0, .ref (js_ad y (183))), (1, .ref (js_ad y (js_kA 0)))] []
  refine js_aload_n (pc := 0) 0 F rfl dX0_record_0 ?_
  refine jg_H_size (pc := 1) (v := nI (h.length)) F in_X0_record_0 (lk_X0_record_fieldLink_RX0_21_JoinedSketches_History_size_I) (e2) dX0_record_1 ?_
  refine js_bipush (pc := 4) (v := nI (6)) F (by decide) dX0_record_4 ?_
  refine js_icmp_neN (pc := 6) (a := h.length) (b := 6) (tgt := 32) F (by omega) (by decide) dX0_record_6 (by decide) (fun h6 => ?_) (fun h6 => by exact absurd h6 hlen)
  refine js_aload_n (pc := 32) 0 F rfl dX0_record_32 ?_
  refine jg_H_ring (pc := 33) F in_X0_record_0 (lk_X0_record_fieldLink_RX0_11_JoinedSketches_History_ring_LJoinedSketches_State) dX0_record_33 ?_
  refine js_aload_n (pc := 36) 0 F rfl dX0_record_36 ?_
  refine jg_H_oldest (pc := 37) (v := nI (o)) F in_X0_record_0 (lk_X0_record_fieldLink_RX0_17_JoinedSketches_History_oldest_I) (e1) dX0_record_37 ?_
  refine js_aload_n (pc := 40) 0 F rfl dX0_record_40 ?_
  refine jg_H_size (pc := 41) (v := nI (h.length)) F in_X0_record_0 (lk_X0_record_fieldLink_RX0_21_JoinedSketches_History_size_I) (e2) dX0_record_41 ?_
  refine js_iaddN (pc := 44) (a := o) (b := h.length) F dX0_record_44 ?_
  refine js_bipush (pc := 45) (v := nI (6)) F (by decide) dX0_record_45 ?_
  refine js_callsi (pc := 47) F (c_floorMod _ hy (a := o + h.length) (b := 6) (by omega) (by omega) (by omega)) mf_J9_floorMod_7cf53 gX0_record_J9_floorMod_7cf53 (by decide) rfl rfl (Nat.le_of_ble_eq_true rfl) dX0_record_47 ?_
  rintro _ _ ⟨rfl, rfl⟩
  refine js_aldq (pc := 50) (j := (o + h.length) % 6) (t0 := 4) F (by decide) (js_ct_Ri) rfl rfl (by omega) (by decide) dX0_record_50 ?_
  refine js_aload_n (pc := 51) 1 F rfl dX0_record_51 ?_
  have hm6 : (o + h.length) % 6 < 6 := Nat.mod_lt _ (by decide)
  refine js_callv (pc := 52) F (c_X3_copyFrom _ hy (t := 3 + (o + h.length) % 6) (by omega) (G := G) (u := 0) (by omega) (by omega) hT) mf_X3_copyFrom gX0_record_X3_copyFrom rfl (by decide) (by unfold js_kA; omega) (js_ct_A (by omega)) rfl rfl rfl (Nat.le_of_ble_eq_true rfl) dX0_record_52 ?_
  rintro G2 ⟨p1, p2⟩
  refine js_aload_n (pc := 55) 0 F rfl dX0_record_55 ?_
  refine js_dup (pc := 56) rfl F dX0_record_56 ?_
  refine jg_H_size (pc := 57) (v := nI (h.length)) F in_X0_record_0 (lk_X0_record_fieldLink_RX0_21_JoinedSketches_History_size_I) (by rw [p2.s183 (by omega)]; exact e2) dX0_record_57 ?_
  refine js_iconst (pc := 60) (v := nI (1)) F (by decide) dX0_record_60 ?_
  refine js_iaddN (pc := 61) (a := h.length) (b := 1) F dX0_record_61 ?_
  refine jp_H_size (pc := 62) (v := nI (h.length + 1)) F in_X0_record_0 (lk_X0_record_fieldLink_RX0_21_JoinedSketches_History_size_I) dX0_record_62 ?_
  refine js_vret (pc := 65) F hr ?_ dX0_record_65
  refine ⟨?_, ?_⟩
  · unfold jm_rec; rw [if_neg hlen]
    exact jr_H_push ho (by omega) e1 hh (fun _ _ => rfl) p1 p2 rfl
  · exact fun a x y z => (js_st_n x).trans (js_frH.of (fun _ _ => rfl) p2 (by omega) (by omega) a x y z)
set_option maxHeartbeats 4000000 in
set_option maxRecDepth 100000 in
theorem c_X0_record_eq (la : Launch) {y : js_L} (hy : js_Dy y) {G : js_G} {h : List js_T} {s0 : js_T} (hH : jr_H G h) (hlen : h.length = 6) (hT : jr_T G 0 s0) : js_Cv la y yX0_record wsX0_record 4 101 [.ref (js_ad y (183)), .ref (js_ad y (js_kA 0))] G (fun G' => jr_H G' (jm_rec h s0) ∧ js_frH G G') := by
  obtain ⟨o, ho, e1, e2, hl, hh⟩ := id hH
  refine js_ofv mf_X0_record (Nat.le_of_ble_eq_true rfl) hy (fun X F hr => ?_)
  replace F : js_F X y cX0_record 2 RX0 wsX0_record 4 101 := F
  show js_W X y 2 _ G 0 [(0, .ref (js_ad y (183))), (1, .ref (js_ad y (js_kA 0)))] []
  refine js_aload_n (pc := 0) 0 F rfl dX0_record_0 ?_
  refine jg_H_size (pc := 1) (v := nI (6)) F in_X0_record_0 (lk_X0_record_fieldLink_RX0_21_JoinedSketches_History_size_I) (by rw [e2, hlen]) dX0_record_1 ?_
  refine js_bipush (pc := 4) (v := nI (6)) F (by decide) dX0_record_4 ?_
  refine js_icmp_neN (pc := 6) (a := 6) (b := 6) (tgt := 32) F (by decide) (by decide) dX0_record_6 (by decide) (fun h6 => by exact absurd rfl h6) (fun h6 => ?_)
  refine js_aload_n (pc := 9) 0 F rfl dX0_record_9 ?_
  refine js_aload_n (pc := 10) 0 F rfl dX0_record_10 ?_
  refine jg_H_oldest (pc := 11) (v := nI (o)) F in_X0_record_0 (lk_X0_record_fieldLink_RX0_17_JoinedSketches_History_oldest_I) (e1) dX0_record_11 ?_
  refine js_iconst (pc := 14) (v := nI (1)) F (by decide) dX0_record_14 ?_
  refine js_iaddN (pc := 15) (a := o) (b := 1) F dX0_record_15 ?_
  refine js_bipush (pc := 16) (v := nI (6)) F (by decide) dX0_record_16 ?_
  refine js_iremN (pc := 18) (a := o + 1) (b := 6) F (by omega) (by omega) (by omega) dX0_record_18 ?_
  refine jp_H_oldest (pc := 19) (v := nI ((o + 1) % 6)) F in_X0_record_0 (lk_X0_record_fieldLink_RX0_17_JoinedSketches_History_oldest_I) dX0_record_19 ?_
  refine js_aload_n (pc := 22) 0 F rfl dX0_record_22 ?_
  refine js_dup (pc := 23) rfl F dX0_record_23 ?_
  refine jg_H_size (pc := 24) (v := nI (6)) F in_X0_record_0 (lk_X0_record_fieldLink_RX0_21_JoinedSketches_History_size_I) (by rw [js_st_s, upd, if_neg (by decide)]; all_goals exact (by rw [e2, hlen])) dX0_record_24 ?_
  refine js_iconst (pc := 27) (v := nI (1)) F (by decide) dX0_record_27 ?_
  refine js_isubN (pc := 28) (a := 6) (b := 1) F (by omega) dX0_record_28 ?_
  refine js_val (v := nI (5)) (rfl) ?_
  refine jp_H_size (pc := 29) (v := nI (5)) F in_X0_record_0 (lk_X0_record_fieldLink_RX0_21_JoinedSketches_History_size_I) dX0_record_29 ?_
  refine js_aload_n (pc := 32) 0 F rfl dX0_record_32 ?_
  refine jg_H_ring (pc := 33) F in_X0_record_0 (lk_X0_record_fieldLink_RX0_11_JoinedSketches_History_ring_LJoinedSketches_State) dX0_record_33 ?_
  refine js_aload_n (pc := 36) 0 F rfl dX0_record_36 ?_
  refine jg_H_oldest (pc := 37) (v := nI ((o + 1) % 6)) F in_X0_record_0 (lk_X0_record_fieldLink_RX0_17_JoinedSketches_History_oldest_I) (by rw [js_st_s, upd, if_neg (by decide)]; all_goals exact (by rw [js_st_s]; simp [upd])) dX0_record_37 ?_
  refine js_aload_n (pc := 40) 0 F rfl dX0_record_40 ?_
  refine jg_H_size (pc := 41) (v := nI (5)) F in_X0_record_0 (lk_X0_record_fieldLink_RX0_21_JoinedSketches_History_size_I) (by rw [js_st_s]; simp [upd]) dX0_record_41 ?_
  refine js_iaddN (pc := 44) (a := (o + 1) % 6) (b := 5) F dX0_record_44 ?_
  refine js_bipush (pc := 45) (v := nI (6)) F (by decide) dX0_record_45 ?_
  refine js_callsi (pc := 47) F (c_floorMod _ hy (a := ((o + 1) % 6) + 5) (b := 6) (by omega) (by omega) (by omega)) mf_J9_floorMod_7cf53 gX0_record_J9_floorMod_7cf53 (by decide) rfl rfl (Nat.le_of_ble_eq_true rfl) dX0_record_47 ?_
  rintro _ _ ⟨rfl, rfl⟩
  refine js_aldq (pc := 50) (j := (((o + 1) % 6) + 5) % 6) (t0 := 4) F (by decide) (js_ct_Ri) rfl rfl (by omega) (by decide) dX0_record_50 ?_
  refine js_aload_n (pc := 51) 1 F rfl dX0_record_51 ?_
  have hm6 : ((o + 1) % 6 + 5) % 6 < 6 := Nat.mod_lt _ (by decide)
  obtain ⟨Ga, hGa⟩ : ∃ Ga, Ga = (js_st (js_st G (183) (1) (nI ((o + 1) % 6))) (183) (2) (nI (5))) := ⟨_, rfl⟩
  rw [← hGa]
  have g0 : ∀ a, a ≠ 183 → Ga a = G a := fun a ha => by rw [hGa, js_st_n ha, js_st_n ha]
  have g1 : Ga 183 1 = nI ((o + 1) % 6) := by rw [hGa, js_st_s]; simp [upd, js_st_s]
  have g2 : Ga 183 2 = nI 5 := by rw [hGa, js_st_s]; simp [upd]
  refine js_callv (pc := 52) F (c_X3_copyFrom _ hy (t := 3 + ((o + 1) % 6 + 5) % 6) (by omega) (G := Ga) (u := 0) (by omega) (by omega) (hT.c183 g0 (by decide))) mf_X3_copyFrom gX0_record_X3_copyFrom rfl (by decide) (by unfold js_kA; omega) (js_ct_A (by omega)) rfl rfl rfl (Nat.le_of_ble_eq_true rfl) dX0_record_52 ?_
  rintro G2 ⟨p1, p2⟩
  refine js_aload_n (pc := 55) 0 F rfl dX0_record_55 ?_
  refine js_dup (pc := 56) rfl F dX0_record_56 ?_
  refine jg_H_size (pc := 57) (v := nI (5)) F in_X0_record_0 (lk_X0_record_fieldLink_RX0_21_JoinedSketches_History_size_I) (by rw [p2.s183 (by omega)]; exact g2) dX0_record_57 ?_
  refine js_iconst (pc := 60) (v := nI (1)) F (by decide) dX0_record_60 ?_
  refine js_iaddN (pc := 61) (a := 5) (b := 1) F dX0_record_61 ?_
  refine jp_H_size (pc := 62) (v := nI (5 + 1)) F in_X0_record_0 (lk_X0_record_fieldLink_RX0_21_JoinedSketches_History_size_I) dX0_record_62 ?_
  refine js_vret (pc := 65) F hr ?_ dX0_record_65
  refine ⟨?_, ?_⟩
  · unfold jm_rec; rw [if_pos hlen]
    have hl5 : h.tail.length = 5 := by simp [hlen]
    refine jr_H_push (o := (o + 1) % 6) (Nat.mod_lt _ (by decide)) (by omega) g1 (fun k s hk => ?_) g0 (by rw [hl5]; exact p1) (by rw [hl5]; exact p2) (by rw [hl5])
    have := hh (k + 1) s (by rw [← hk]; simp [List.getElem?_tail])
    rw [show ((o + 1) % 6 + k) % 6 = (o + (k + 1)) % 6 by omega]
    exact this
  · exact fun a x y z => (js_st_n x).trans (js_frH.of g0 p2 (by omega) (by omega) a x y z)
theorem c_X0_record (la : Launch) {y : js_L} (hy : js_Dy y) {G : js_G} {h : List js_T} {s0 : js_T} (hH : jr_H G h) (hT : jr_T G 0 s0) : js_Cv la y yX0_record wsX0_record 4 101 [.ref (js_ad y 183), .ref (js_ad y (js_kA 0))] G (fun G' => jr_H G' (jm_rec h s0) ∧ js_frH G G') := by
  by_cases q : h.length = 6
  · exact c_X0_record_eq la hy hH q hT
  · exact c_X0_record_lt la hy hH q hT
theorem in_X0_takeBack_0 : ∀ w ∈ wsX00, w ∈ wsX0_takeBack := by decide +kernel
theorem lk_X0_takeBack_fieldLink_RX0_11_JoinedSketches_History_ring_LJoinedSketches_State : Cond.fieldLink RX0 11 "JoinedSketches$History" "ring" "[LJoinedSketches$State;" ∈ wsX0_takeBack := by decide +kernel
theorem lk_X0_takeBack_fieldLink_RX0_17_JoinedSketches_History_oldest_I : Cond.fieldLink RX0 17 "JoinedSketches$History" "oldest" "I" ∈ wsX0_takeBack := by decide +kernel
theorem lk_X0_takeBack_fieldLink_RX0_21_JoinedSketches_History_size_I : Cond.fieldLink RX0 21 "JoinedSketches$History" "size" "I" ∈ wsX0_takeBack := by decide +kernel
theorem mf_X0_takeBack : js_M yX0_takeBack cX0_takeBack 2 none wsX0_takeBack 1 := ⟨⟨_, rfl⟩, by decide +kernel, by decide +kernel, by decide +kernel, by decide +kernel⟩
set_option maxHeartbeats 4000000 in
set_option maxRecDepth 100000 in
theorem c_X0_takeBack (la : Launch) {y : js_L} (hy : js_Dy y) {G : js_G} {h : List js_T} {s0 : js_T} (hH : jr_H G (h ++ [s0])) : js_Cv la y yX0_takeBack wsX0_takeBack 4 101 [.ref (js_ad y (183)), .ref (js_ad y (js_kA 0))] G (fun G' => jr_T G' 0 s0 ∧ jr_H G' h ∧ ∀ a, a ≠ 183 → a ≠ js_kA 0 → 18 ≤ a → G' a = G a) := by
  obtain ⟨o, ho, e1, e2, hl, hh⟩ := id hH
  simp only [List.length_append, List.length_cons, List.length_nil] at e2 hl
  have hm6 : (o + h.length) % 6 < 6 := Nat.mod_lt _ (by decide)
  have hTs := hh h.length s0 (by simp)
  refine js_ofv mf_X0_takeBack (Nat.le_of_ble_eq_true rfl) hy (fun X F hr => ?_)
  replace F : js_F X y cX0_takeBack 2 RX0 wsX0_takeBack 4 101 := F
  show js_W X y 2 _ G 0 [(0, .ref (js_ad y (183))), (1, .ref (js_ad y (js_kA 0)))] []
  refine js_aload_n (pc := 0) 0 F rfl dX0_takeBack_0 ?_
  refine jg_H_size (pc := 1) (v := nI (h.length + 1)) F in_X0_takeBack_0 (lk_X0_takeBack_fieldLink_RX0_21_JoinedSketches_History_size_I) (e2) dX0_takeBack_1 ?_
  refine js_if_gtN (pc := 4) (a := h.length + 1) (tgt := 8) F (by omega) dX0_takeBack_4 (by decide) (fun h4 => ?_) (fun h4 => by exfalso; omega)
  refine js_aload_n (pc := 8) 0 F rfl dX0_takeBack_8 ?_
  refine js_dup (pc := 9) rfl F dX0_takeBack_9 ?_
  refine jg_H_size (pc := 10) (v := nI (h.length + 1)) F in_X0_takeBack_0 (lk_X0_takeBack_fieldLink_RX0_21_JoinedSketches_History_size_I) (e2) dX0_takeBack_10 ?_
  refine js_iconst (pc := 13) (v := nI (1)) F (by decide) dX0_takeBack_13 ?_
  refine js_isubN (pc := 14) (a := h.length + 1) (b := 1) F (by omega) dX0_takeBack_14 ?_
  refine js_val (v := nI (h.length)) (by rw [Nat.add_sub_cancel]) ?_
  refine jp_H_size (pc := 15) (v := nI (h.length)) F in_X0_takeBack_0 (lk_X0_takeBack_fieldLink_RX0_21_JoinedSketches_History_size_I) dX0_takeBack_15 ?_
  refine js_aload_n (pc := 18) 1 F rfl dX0_takeBack_18 ?_
  refine js_aload_n (pc := 19) 0 F rfl dX0_takeBack_19 ?_
  refine jg_H_ring (pc := 20) F in_X0_takeBack_0 (lk_X0_takeBack_fieldLink_RX0_11_JoinedSketches_History_ring_LJoinedSketches_State) dX0_takeBack_20 ?_
  refine js_aload_n (pc := 23) 0 F rfl dX0_takeBack_23 ?_
  refine jg_H_oldest (pc := 24) (v := nI (o)) F in_X0_takeBack_0 (lk_X0_takeBack_fieldLink_RX0_17_JoinedSketches_History_oldest_I) (by rw [js_st_s, upd, if_neg (by decide)]; all_goals exact (e1)) dX0_takeBack_24 ?_
  refine js_aload_n (pc := 27) 0 F rfl dX0_takeBack_27 ?_
  refine jg_H_size (pc := 28) (v := nI (h.length)) F in_X0_takeBack_0 (lk_X0_takeBack_fieldLink_RX0_21_JoinedSketches_History_size_I) (by rw [js_st_s]; simp [upd]) dX0_takeBack_28 ?_
  refine js_iaddN (pc := 31) (a := o) (b := h.length) F dX0_takeBack_31 ?_
  refine js_bipush (pc := 32) (v := nI (6)) F (by decide) dX0_takeBack_32 ?_
  refine js_callsi (pc := 34) F (c_floorMod _ hy (a := o + h.length) (b := 6) (by omega) (by omega) (by omega)) mf_J9_floorMod_7cf53 gX0_takeBack_J9_floorMod_7cf53 (by decide) rfl rfl (Nat.le_of_ble_eq_true rfl) dX0_takeBack_34 ?_
  rintro _ _ ⟨rfl, rfl⟩
  refine js_aldq (pc := 37) (j := (o + h.length) % 6) (t0 := 4) F (by decide) (js_ct_Ri) rfl rfl (by omega) (by decide) dX0_takeBack_37 ?_
  obtain ⟨Ga, hGa⟩ : ∃ Ga, Ga = (js_st G (183) (2) (nI (h.length))) := ⟨_, rfl⟩
  rw [← hGa]
  have g0 : ∀ a, a ≠ 183 → Ga a = G a := fun a ha => by rw [hGa, js_st_n ha]
  refine js_callv (pc := 38) F (c_X3_copyFrom _ hy (t := 0) (by omega) (G := Ga) (u := 3 + (o + h.length) % 6) (by omega) (by omega) (hTs.c183 g0 (by omega))) mf_X3_copyFrom gX0_takeBack_X3_copyFrom rfl (by decide) (by unfold js_kA; omega) (js_ct_A (by omega)) rfl rfl rfl (Nat.le_of_ble_eq_true rfl) dX0_takeBack_38 ?_
  rintro G2 ⟨p1, p2⟩
  refine js_vret (pc := 41) F hr ?_ dX0_takeBack_41
  refine ⟨p1, ⟨o, ho, ?_, ?_, by omega, fun k s hk => ?_⟩, fun a x z w => (p2 a z (by omega)).trans (g0 a x)⟩
  · rw [p2.s183 (by omega), hGa, js_st_s]; simp only [upd]; rw [if_neg (by decide)]; exact e1
  · rw [p2.s183 (by omega), hGa, js_st_s]; simp [upd]
  · have hk2 := hh k s (by rw [List.getElem?_append_left (by have := (List.getElem?_eq_some_iff.mp hk).1; exact this)]; exact hk)
    exact (hk2.c183 g0 (by omega)).frT p2 (by omega) (by omega) (by omega)
theorem lk_X4_isThing_constant_RX4_184_100000 : Cond.constant RX4 184 (100000) ∈ wsX4_isThing := by decide +kernel
theorem mf_X4_isThing : js_M yX4_isThing cX4_isThing 1 (some .boolean) wsX4_isThing 1 := ⟨⟨_, rfl⟩, by decide +kernel, by decide +kernel, by decide +kernel, by decide +kernel⟩
set_option maxHeartbeats 4000000 in
set_option maxRecDepth 100000 in
theorem c_X4_isThing (la : Launch) {y : js_L} (hy : js_Dy y) {G : js_G} {x : Int32} : js_Ci la y yX4_isThing wsX4_isThing 1 12 [.int (x)] G (fun r G' => r = nI (if jb x 100000 then 0 else 1) ∧ G = G') := by
  refine js_ofi mf_X4_isThing (Nat.le_of_ble_eq_true rfl) hy (fun X F hr => ?_)
  replace F : js_F X y cX4_isThing 1 RX4 wsX4_isThing 1 12 := F
  show js_W X y 1 _ G 0 [(0, .int (x))] []
  refine js_iload_n (pc := 0) 0 F rfl dX4_isThing_0 ?_
  refine js_if_lt (pc := 1) (tgt := 14) F dX4_isThing_1 (by decide) (fun h1 => ?_) (fun h1 => ?_)
  · skip
    refine js_iconst (pc := 14) (v := nI (0)) F (by decide) dX4_isThing_14 ?_
    refine js_iret (pc := 15) F hr (rfl) ?_ dX4_isThing_15
    exact ⟨by rw [if_pos (by first | exact Or.inl h1 | exact Or.inr h7)], rfl⟩
  · skip
    refine js_iload_n (pc := 4) 0 F rfl dX4_isThing_4 ?_
    refine js_ldc (pc := 5) (v := nI (100000)) F (lk_X4_isThing_constant_RX4_184_100000) dX4_isThing_5 ?_
    refine js_icmp_ge (pc := 7) (tgt := 14) F dX4_isThing_7 (by decide) (fun h7 => ?_) (fun h7 => ?_)
    · skip
      refine js_iconst (pc := 14) (v := nI (0)) F (by decide) dX4_isThing_14 ?_
      refine js_iret (pc := 15) F hr (rfl) ?_ dX4_isThing_15
      exact ⟨by rw [if_pos (by first | exact Or.inl h1 | exact Or.inr h7)], rfl⟩
    · skip
      refine js_iconst (pc := 10) (v := nI (1)) F (by decide) dX4_isThing_10 ?_
      refine js_goto (pc := 11) (tgt := 15) F dX4_isThing_11 (by decide) ?_
      refine js_iret (pc := 15) F hr (rfl) ?_ dX4_isThing_15
      exact ⟨by rw [if_neg (fun q => q.elim h1 h7)], rfl⟩
theorem lk_X4_isRange_constant_RX4_184_100000 : Cond.constant RX4 184 (100000) ∈ wsX4_isRange := by decide +kernel
theorem mf_X4_isRange : js_M yX4_isRange cX4_isRange 2 (some .boolean) wsX4_isRange 2 := ⟨⟨_, rfl⟩, by decide +kernel, by decide +kernel, by decide +kernel, by decide +kernel⟩
set_option maxHeartbeats 4000000 in
set_option maxRecDepth 100000 in
theorem c_X4_isRange (la : Launch) {y : js_L} (hy : js_Dy y) {G : js_G} {x m : Int32} : js_Ci la y yX4_isRange wsX4_isRange 2 32 [.int (x), .int (m)] G (fun r G' => r = nI (if jm_rng x m then 1 else 0) ∧ G = G') := by
  refine js_ofi mf_X4_isRange (Nat.le_of_ble_eq_true rfl) hy (fun X F hr => ?_)
  replace F : js_F X y cX4_isRange 2 RX4 wsX4_isRange 2 32 := F
  show js_W X y 2 _ G 0 [(0, .int (x)), (1, .int (m))] []
  refine js_iload_n (pc := 0) 0 F rfl dX4_isRange_0 ?_
  refine js_callsi (pc := 1) F (c_X4_isThing _ hy (x := x)) mf_X4_isThing gX4_isRange_X4_isThing (by decide) rfl rfl (Nat.le_of_ble_eq_true rfl) dX4_isRange_1 ?_
  rintro _ _ ⟨rfl, rfl⟩
  rw [show (if jb (x) 100000 then 0 else 1) = (if ¬ jb (x) 100000 then 1 else 0) from by split <;> simp_all]
  refine js_if_eqB (pc := 4) (tgt := 31) F dX4_isRange_4 (by decide) (fun h4 => ?_) (fun h4 => ?_)
  · skip
    refine js_iconst (pc := 31) (v := nI (0)) F (by decide) dX4_isRange_31 ?_
    refine js_iret (pc := 32) F hr (rfl) ?_ dX4_isRange_32
    exact ⟨by rw [if_neg (fun q => by first | exact h4 q.1 | exact q.2.1 h9 | exact q.2.2.1 h16 | exact q.2.2.2 h24)], rfl⟩
  · skip
    refine js_iload_n (pc := 7) 1 F rfl dX4_isRange_7 ?_
    refine js_iconst (pc := 8) (v := nI (1)) F (by decide) dX4_isRange_8 ?_
    refine js_icmp_lt (pc := 9) (tgt := 31) F dX4_isRange_9 (by decide) (fun h9 => ?_) (fun h9 => ?_)
    · skip
      refine js_iconst (pc := 31) (v := nI (0)) F (by decide) dX4_isRange_31 ?_
      refine js_iret (pc := 32) F hr (rfl) ?_ dX4_isRange_32
      exact ⟨by rw [if_neg (fun q => by first | exact h4 q.1 | exact q.2.1 h9 | exact q.2.2.1 h16 | exact q.2.2.2 h24)], rfl⟩
    · skip
      refine js_iload_n (pc := 12) 1 F rfl dX4_isRange_12 ?_
      refine js_sipush (pc := 13) (v := nI (999)) F (by decide) dX4_isRange_13 ?_
      refine js_icmp_gt (pc := 16) (tgt := 31) F dX4_isRange_16 (by decide) (fun h16 => ?_) (fun h16 => ?_)
      · skip
        refine js_iconst (pc := 31) (v := nI (0)) F (by decide) dX4_isRange_31 ?_
        refine js_iret (pc := 32) F hr (rfl) ?_ dX4_isRange_32
        exact ⟨by rw [if_neg (fun q => by first | exact h4 q.1 | exact q.2.1 h9 | exact q.2.2.1 h16 | exact q.2.2.2 h24)], rfl⟩
      · skip
        refine js_iload_n (pc := 19) 0 F rfl dX4_isRange_19 ?_
        refine js_iload_n (pc := 20) 1 F rfl dX4_isRange_20 ?_
        refine js_iadd (pc := 21) F dX4_isRange_21 ?_
        refine js_ldc (pc := 22) (v := nI (100000)) F (lk_X4_isRange_constant_RX4_184_100000) dX4_isRange_22 ?_
        refine js_icmp_gt (pc := 24) (tgt := 31) F dX4_isRange_24 (by decide) (fun h24 => ?_) (fun h24 => ?_)
        · skip
          refine js_iconst (pc := 31) (v := nI (0)) F (by decide) dX4_isRange_31 ?_
          refine js_iret (pc := 32) F hr (rfl) ?_ dX4_isRange_32
          exact ⟨by rw [if_neg (fun q => by first | exact h4 q.1 | exact q.2.1 h9 | exact q.2.2.1 h16 | exact q.2.2.2 h24)], rfl⟩
        · skip
          refine js_iconst (pc := 27) (v := nI (1)) F (by decide) dX4_isRange_27 ?_
          refine js_goto (pc := 28) (tgt := 32) F dX4_isRange_28 (by decide) ?_
          refine js_iret (pc := 32) F hr (rfl) ?_ dX4_isRange_32
          exact ⟨by rw [if_pos ⟨h4, h9, h16, h24⟩], rfl⟩
theorem in_X4_areToJoin_2 : ∀ w ∈ wsX20, w ∈ wsX4_areToJoin := by decide +kernel
theorem mf_X4_areToJoin : js_M yX4_areToJoin cX4_areToJoin 2 (some .boolean) wsX4_areToJoin 2 := ⟨⟨_, rfl⟩, by decide +kernel, by decide +kernel, by decide +kernel, by decide +kernel⟩
set_option maxHeartbeats 4000000 in
set_option maxRecDepth 100000 in
theorem c_X4_areToJoin (la : Launch) {y : js_L} (hy : js_Dy y) {j : Nat} (hj : j < 55) {j2 : Nat} (hj2 : j2 < 55) {G : js_G} {B B2 : Nat} (hB : G (js_kS j) 0 = nI B) (hB6 : B ≤ 6) (hB2 : G (js_kS j2) 0 = nI B2) (hB62 : B2 ≤ 6) : js_Ci la y yX4_areToJoin wsX4_areToJoin 1 12 [.ref (js_ad y (js_kS j)), .ref (js_ad y (js_kS j2))] G (fun r G' => r = nI (if j ≠ j2 ∧ B = B2 then 1 else 0) ∧ G = G') := by
  have hin : js_ad y (js_kS j) = js_ad y (js_kS j2) → j = j2 := fun q => by have := hy.1 _ _ (by unfold js_kS; omega) (by unfold js_kS; omega) q; unfold js_kS at this; omega
  refine js_ofi mf_X4_areToJoin (Nat.le_of_ble_eq_true rfl) hy (fun X F hr => ?_)
  replace F : js_F X y cX4_areToJoin 2 RX4 wsX4_areToJoin 1 12 := F
  show js_W X y 2 _ G 0 [(0, .ref (js_ad y (js_kS j))), (1, .ref (js_ad y (js_kS j2)))] []
  refine js_aload_n (pc := 0) 0 F rfl dX4_areToJoin_0 ?_
  refine js_aload_n (pc := 1) 1 F rfl dX4_areToJoin_1 ?_
  refine js_acmp_eq (pc := 2) (tgt := 20) F dX4_areToJoin_2 (by decide) (fun h2 => ?_) (fun h2 => ?_)
  · skip
    refine js_iconst (pc := 20) (v := nI (0)) F (by decide) dX4_areToJoin_20 ?_
    refine js_iret (pc := 21) F hr (rfl) ?_ dX4_areToJoin_21
    exact ⟨by rw [if_neg (fun q => by first | exact q.1 (hin h2) | exact h13 q.2)], rfl⟩
  · skip
    refine js_aload_n (pc := 5) 0 F rfl dX4_areToJoin_5 ?_
    refine jgN_4_62 (pc := 6) (v := nI (B)) F in_X4_areToJoin_2 hj (hB) dX4_areToJoin_6 ?_
    refine js_aload_n (pc := 9) 1 F rfl dX4_areToJoin_9 ?_
    refine jgN_4_62 (pc := 10) (v := nI (B2)) F in_X4_areToJoin_2 hj2 (hB2) dX4_areToJoin_10 ?_
    refine js_icmp_neN (pc := 13) (a := B) (b := B2) (tgt := 20) F (by omega) (by omega) dX4_areToJoin_13 (by decide) (fun h13 => ?_) (fun h13 => ?_)
    · skip
      refine js_iconst (pc := 20) (v := nI (0)) F (by decide) dX4_areToJoin_20 ?_
      refine js_iret (pc := 21) F hr (rfl) ?_ dX4_areToJoin_21
      exact ⟨by rw [if_neg (fun q => by first | exact q.1 (hin h2) | exact h13 q.2)], rfl⟩
    · skip
      refine js_iconst (pc := 16) (v := nI (1)) F (by decide) dX4_areToJoin_16 ?_
      refine js_goto (pc := 17) (tgt := 21) F dX4_areToJoin_17 (by decide) ?_
      refine js_iret (pc := 21) F hr (rfl) ?_ dX4_areToJoin_21
      exact ⟨by rw [if_pos ⟨fun q => h2 (by rw [q]), h13⟩], rfl⟩
theorem in_X4_isToFold_2 : ∀ w ∈ wsX20, w ∈ wsX4_isToFold := by decide +kernel
theorem mf_X4_isToFold : js_M yX4_isToFold cX4_isToFold 1 (some .boolean) wsX4_isToFold 1 := ⟨⟨_, rfl⟩, by decide +kernel, by decide +kernel, by decide +kernel, by decide +kernel⟩
set_option maxHeartbeats 4000000 in
set_option maxRecDepth 100000 in
theorem c_X4_isToFold (la : Launch) {y : js_L} (hy : js_Dy y) {j : Nat} (hj : j < 55) {G : js_G} {B : Nat} (hB : G (js_kS j) 0 = nI B) (hB6 : B ≤ 6) : js_Ci la y yX4_isToFold wsX4_isToFold 1 12 [.ref (js_ad y (js_kS j))] G (fun r G' => r = nI (if 2 < B then 1 else 0) ∧ G = G') := by
  refine js_ofi mf_X4_isToFold (Nat.le_of_ble_eq_true rfl) hy (fun X F hr => ?_)
  replace F : js_F X y cX4_isToFold 1 RX4 wsX4_isToFold 1 12 := F
  show js_W X y 1 _ G 0 [(0, .ref (js_ad y (js_kS j)))] []
  refine js_aload_n (pc := 0) 0 F rfl dX4_isToFold_0 ?_
  refine jgN_4_62 (pc := 1) (v := nI (B)) F in_X4_isToFold_2 hj (hB) dX4_isToFold_1 ?_
  refine js_iconst (pc := 4) (v := nI (2)) F (by decide) dX4_isToFold_4 ?_
  refine js_icmp_leN (pc := 5) (a := B) (b := 2) (tgt := 12) F (by omega) (by decide) dX4_isToFold_5 (by decide) (fun h5 => ?_) (fun h5 => ?_)
  · skip
    refine js_iconst (pc := 12) (v := nI (0)) F (by decide) dX4_isToFold_12 ?_
    refine js_iret (pc := 13) F hr (rfl) ?_ dX4_isToFold_13
    exact ⟨by rw [if_neg (by omega)], rfl⟩
  · skip
    refine js_iconst (pc := 8) (v := nI (1)) F (by decide) dX4_isToFold_8 ?_
    refine js_goto (pc := 9) (tgt := 13) F dX4_isToFold_9 (by decide) ?_
    refine js_iret (pc := 13) F hr (rfl) ?_ dX4_isToFold_13
    exact ⟨by rw [if_pos (by omega)], rfl⟩
theorem lk_X4_hashOf_constant_RX4_224_40503 : Cond.constant RX4 224 (40503) ∈ wsX4_hashOf := by decide +kernel
theorem lk_X4_hashOf_constant_RX4_225_65535 : Cond.constant RX4 225 (65535) ∈ wsX4_hashOf := by decide +kernel
theorem mf_X4_hashOf : js_M yX4_hashOf cX4_hashOf 3 (some .int) wsX4_hashOf 2 := ⟨⟨_, rfl⟩, by decide +kernel, by decide +kernel, by decide +kernel, by decide +kernel⟩
set_option maxHeartbeats 4000000 in
set_option maxRecDepth 100000 in
theorem c_X4_hashOf (la : Launch) {y : js_L} (hy : js_Dy y) {G : js_G} {t s : Nat} : js_Ci la y yX4_hashOf wsX4_hashOf 1 12 [.int (nI (t)), .int (nI (s))] G (fun r G' => r = nI (jm_hash t s) ∧ G = G') := by
  have hlt : (t * 40503 + s) % 65536 < 65536 := Nat.mod_lt _ (by decide)
  refine js_ofi mf_X4_hashOf (Nat.le_of_ble_eq_true rfl) hy (fun X F hr => ?_)
  replace F : js_F X y cX4_hashOf 3 RX4 wsX4_hashOf 1 12 := F
  show js_W X y 3 _ G 0 [(0, .int (nI (t))), (1, .int (nI (s)))] []
  refine js_iload_n (pc := 0) 0 F rfl dX4_hashOf_0 ?_
  refine js_ldc (pc := 1) (v := nI (40503)) F (lk_X4_hashOf_constant_RX4_224_40503) dX4_hashOf_1 ?_
  refine js_imulN (pc := 3) (a := t) (b := 40503) F dX4_hashOf_3 ?_
  refine js_iload_n (pc := 4) 1 F rfl dX4_hashOf_4 ?_
  refine js_iaddN (pc := 5) (a := t * 40503) (b := s) F dX4_hashOf_5 ?_
  refine js_ldc (pc := 6) (v := nI (65535)) F (lk_X4_hashOf_constant_RX4_225_65535) dX4_hashOf_6 ?_
  refine js_iandN (pc := 8) (a := (t * 40503) + s) (b := 65535) F dX4_hashOf_8 ?_
  refine js_val (v := nI ((t * 40503 + s) % 65536)) (congrArg nI (Nat.and_two_pow_sub_one_eq_mod _ 16)) ?_
  refine js_istore_n (pc := 9) (lv2 := [(0, .int (nI (t))), (1, .int (nI (s))), (2, .int (nI ((t * 40503 + s) % 65536)))]) F dX4_hashOf_9 (by decide) [1, 2, 0] rfl ?_
  refine js_iload_n (pc := 10) 2 F rfl dX4_hashOf_10 ?_
  refine js_iload_n (pc := 11) 2 F rfl dX4_hashOf_11 ?_
  refine js_bipush (pc := 12) (v := nI (8)) F (by decide) dX4_hashOf_12 ?_
  refine js_ishrN (pc := 14) (a := (t * 40503 + s) % 65536) (b := 8) F (by omega) (by omega) dX4_hashOf_14 ?_
  refine js_ixorN (pc := 15) (a := (t * 40503 + s) % 65536) (b := ((t * 40503 + s) % 65536) / 2 ^ 8) F dX4_hashOf_15 ?_
  refine js_iret (pc := 16) F hr (rfl) ?_ dX4_hashOf_16
  exact ⟨rfl, rfl⟩
theorem in_X4_takeThings_3 : ∀ w ∈ wsX30, w ∈ wsX4_takeThings := by decide +kernel
theorem in_X4_takeThings_4 : ∀ w ∈ wsX40, w ∈ wsX4_takeThings := by decide +kernel
theorem lk_X4_takeThings_fieldLink_RX4_10_JoinedSketches_now_LJoinedSketches_State : Cond.fieldLink RX4 10 "JoinedSketches" "now" "LJoinedSketches$State;" ∈ wsX4_takeThings := by decide +kernel
theorem mf_X4_takeThings : js_M yX4_takeThings cX4_takeThings 6 (some .int) wsX4_takeThings 3 := ⟨⟨_, rfl⟩, by decide +kernel, by decide +kernel, by decide +kernel, by decide +kernel⟩
set_option maxHeartbeats 4000000 in
set_option maxRecDepth 100000 in
theorem c_X4_takeThings (la : Launch) {y : js_L} (hy : js_Dy y) {j : Nat} (hj : j < 55) {G : js_G} {s B : Nat} {rk : Nat → Nat} {ls : Option (List Nat)} (hs : G (js_kA 0) 0 = nI s) (hS : jr_S G j B rk ls) {a n : Nat} (han : a + n ≤ 100000) : js_Ci la y yX4_takeThings wsX4_takeThings 4 76 [.ref (js_ad y (190)), .ref (js_ad y (js_kS j)), .int (nI (a)), .int (nI (n))] G (fun r G' => r = nI (jm_takes s B rk ls a n).2.2 ∧ jr_S G' j B (jm_takes s B rk ls a n).1 (jm_takes s B rk ls a n).2.1 ∧ js_fr j G G') := by
  have hB2 := hS.1
  have hB6 := hS.2.1
  have hp : 2 ^ B ≤ 64 := jm_p6 hB6
  have hp1 := jm_p1 B
  refine js_ofi mf_X4_takeThings (Nat.le_of_ble_eq_true rfl) hy (fun X F hr => ?_)
  replace F : js_F X y cX4_takeThings 6 RX4 wsX4_takeThings 4 76 := F
  show js_W X y 6 _ G 0 [(0, .ref (js_ad y (190))), (1, .ref (js_ad y (js_kS j))), (2, .int (nI (a))), (3, .int (nI (n)))] []
  refine js_iconst (pc := 0) (v := nI (0)) F (by decide) dX4_takeThings_0 ?_
  refine js_istore (pc := 1) (lv2 := [(0, .ref (js_ad y (190))), (1, .ref (js_ad y (js_kS j))), (2, .int (nI (a))), (3, .int (nI (n))), (4, .int (nI (0)))]) F dX4_takeThings_1 (by decide) [1, 2, 3, 4, 0] rfl ?_
  refine js_iload_n (pc := 3) 2 F rfl dX4_takeThings_3 ?_
  refine js_istore (pc := 4) (lv2 := [(0, .ref (js_ad y (190))), (1, .ref (js_ad y (js_kS j))), (2, .int (nI (a))), (3, .int (nI (n))), (4, .int (nI (0))), (5, .int (nI (a)))]) F dX4_takeThings_4 (by decide) [1, 2, 3, 4, 5, 0] rfl ?_
  have L6 : ∀ (fu6 : Nat) (k : Nat) (c0 : Nat) (G1 : js_G) (hk : k ≤ n) (hc : c0 = (jm_takes s B rk ls a k).2.2) (hS1 : jr_S G1 j B (jm_takes s B rk ls a k).1 (jm_takes s B rk ls a k).2.1) (hf : js_fr j G G1) (hfu6 : n - k < fu6), js_W X y 6 (js_Qi X y (fun r G' => r = nI (jm_takes s B rk ls a n).2.2 ∧ jr_S G' j B (jm_takes s B rk ls a n).1 (jm_takes s B rk ls a n).2.1 ∧ js_fr j G G')) G1 6 [(0, .ref (js_ad y (190))), (1, .ref (js_ad y (js_kS j))), (2, .int (nI (a))), (3, .int (nI (n))), (4, .int (nI (c0))), (5, .int (nI (a + k)))] [] := by
    intro fu6
    induction fu6 with
    | zero => intro k c0 G1 hk hc hS1 hf hfu6; exact absurd hfu6 (Nat.not_lt_zero _)
    | succ fu6 ih6 =>
      intro k c0 G1 hk hc hS1 hf hfu6
      refine js_iload (pc := 6) 5 F rfl dX4_takeThings_6 ?_
      refine js_iload_n (pc := 8) 2 F rfl dX4_takeThings_8 ?_
      refine js_iload_n (pc := 9) 3 F rfl dX4_takeThings_9 ?_
      refine js_iaddN (pc := 10) (a := a) (b := n) F dX4_takeThings_10 ?_
      refine js_icmp_geN (pc := 11) (a := a + k) (b := a + n) (tgt := 48) F (by omega) (by omega) dX4_takeThings_11 (by decide) (fun h11 => ?_) (fun h11 => ?_)
      · skip
        refine js_iload (pc := 48) 4 F rfl dX4_takeThings_48 ?_
        refine js_iret (pc := 50) F hr (rfl) ?_ dX4_takeThings_50
        have e : k = n := by omega
        subst e
        exact ⟨by rw [hc], hS1, hf⟩
      · skip
        refine js_aload_n (pc := 14) 1 F rfl dX4_takeThings_14 ?_
        refine js_iload (pc := 15) 5 F rfl dX4_takeThings_15 ?_
        refine js_aload_n (pc := 17) 0 F rfl dX4_takeThings_17 ?_
        refine jg_X_now (pc := 18) F in_X4_takeThings_4 (lk_X4_takeThings_fieldLink_RX4_10_JoinedSketches_now_LJoinedSketches_State) dX4_takeThings_18 ?_
        refine jgN_4_50 (pc := 21) (v := nI (s)) F in_X4_takeThings_3 (by decide) (by rw [hf.kA hj]; exact hs) dX4_takeThings_21 ?_
        refine js_callsi (pc := 24) F (c_X4_hashOf _ hy (t := a + k) (s := s)) mf_X4_hashOf gX4_takeThings_X4_hashOf (by decide) rfl rfl (Nat.le_of_ble_eq_true rfl) dX4_takeThings_24 ?_
        rintro _ _ ⟨rfl, rfl⟩
        refine js_calli (pc := 27) F (c_X2_takeHash _ hy hj (G := G1) (B := B) (hS1.2.2.1) (by omega) (rk := (jm_takes s B rk ls a k).1) (hS1.2.2.2.1) (fun b hb => Nat.le_trans (hS1.2.2.2.2.1 b hb) (by omega)) (h := jm_hash (a + k) s) (jm_hash_lt _ _)) mf_X2_takeHash gX4_takeThings_X2_takeHash rfl (by decide) (by unfold js_kS; omega) (js_ct_S hj) rfl rfl rfl (Nat.le_of_ble_eq_true rfl) dX4_takeThings_27 ?_
        rintro _ G2 ⟨rfl, hG2⟩
        have hS2 : jr_S G2 j B (jm_rs (jm_takes s B rk ls a k).1 (jm_hash (a + k) s % 2 ^ B) (jm_rank (jm_hash (a + k) s) B)) (jm_takes s B rk ls a k).2.1 := by rw [← hG2]; exact jr_S_raise hS1 (Nat.mod_lt _ (by omega)) (jm_rank_le (jm_hash_lt _ _) hB6)
        have hf2 : js_fr j G G2 := hf.tr (by rw [← hG2]; exact js_fr_if (js_fr.st (Or.inr (Or.inl rfl))))
        refine js_if_eqB (pc := 30) (tgt := 36) F dX4_takeThings_30 (by decide) (fun h30 => ?_) (fun h30 => ?_)
        · skip
          refine js_aload_n (pc := 36) 1 F rfl dX4_takeThings_36 ?_
          refine js_iload (pc := 37) 5 F rfl dX4_takeThings_37 ?_
          refine js_callv (pc := 39) F (c_X2_list _ hy hj (G := G2) (ls := (jm_takes s B rk ls a k).2.1) hS2.2.2.2.2.2 (t := a + k) (by omega)) mf_X2_list gX4_takeThings_X2_list rfl (by decide) (by unfold js_kS; omega) (js_ct_S hj) rfl rfl rfl (Nat.le_of_ble_eq_true rfl) dX4_takeThings_39 ?_
          rintro G3 ⟨p1, p2, p3, p4⟩
          refine js_iinc (pc := 42) (v := nI ((a + k) + 1)) (lv2 := [(0, .ref (js_ad y (190))), (1, .ref (js_ad y (js_kS j))), (2, .int (nI (a))), (3, .int (nI (n))), (4, .int (nI (c0))), (5, .int (nI ((a + k) + 1)))]) F dX4_takeThings_42 5 rfl (nI_add _ _) (by decide) [1, 2, 3, 4, 5, 0] rfl ?_
          refine js_goto (pc := 45) (tgt := 6) F dX4_takeThings_45 (by decide) ?_
          exact ih6 (k + 1) c0 G3 (by omega) (by simp only [jm_takes]; rw [← hc]; split <;> omega) (jr_S_list hS2 p1 p2 p3) (hf2.tr p4) (by omega)
        · skip
          refine js_iinc (pc := 33) (v := nI (c0 + 1)) (lv2 := [(0, .ref (js_ad y (190))), (1, .ref (js_ad y (js_kS j))), (2, .int (nI (a))), (3, .int (nI (n))), (4, .int (nI (c0 + 1))), (5, .int (nI (a + k)))]) F dX4_takeThings_33 4 rfl (nI_add _ _) (by decide) [1, 2, 3, 4, 0, 5] rfl ?_
          refine js_aload_n (pc := 36) 1 F rfl dX4_takeThings_36 ?_
          refine js_iload (pc := 37) 5 F rfl dX4_takeThings_37 ?_
          refine js_callv (pc := 39) F (c_X2_list _ hy hj (G := G2) (ls := (jm_takes s B rk ls a k).2.1) hS2.2.2.2.2.2 (t := a + k) (by omega)) mf_X2_list gX4_takeThings_X2_list rfl (by decide) (by unfold js_kS; omega) (js_ct_S hj) rfl rfl rfl (Nat.le_of_ble_eq_true rfl) dX4_takeThings_39 ?_
          rintro G3 ⟨p1, p2, p3, p4⟩
          refine js_iinc (pc := 42) (v := nI ((a + k) + 1)) (lv2 := [(0, .ref (js_ad y (190))), (1, .ref (js_ad y (js_kS j))), (2, .int (nI (a))), (3, .int (nI (n))), (4, .int (nI (c0 + 1))), (5, .int (nI ((a + k) + 1)))]) F dX4_takeThings_42 5 rfl (nI_add _ _) (by decide) [1, 2, 3, 4, 5, 0] rfl ?_
          refine js_goto (pc := 45) (tgt := 6) F dX4_takeThings_45 (by decide) ?_
          exact ih6 (k + 1) (c0 + 1) G3 (by omega) (by simp only [jm_takes]; rw [← hc]; split <;> omega) (jr_S_list hS2 p1 p2 p3) (hf2.tr p4) (by omega)
  exact L6 (_ + 1) 0 0 G (Nat.zero_le _) (rfl) (hS) (js_fr.rf) (Nat.lt_succ_self _)
theorem in_X4_distanceBySalt_2 : ∀ w ∈ wsX20, w ∈ wsX4_distanceBySalt := by decide +kernel
theorem in_X4_distanceBySalt_4 : ∀ w ∈ wsX40, w ∈ wsX4_distanceBySalt := by decide +kernel
theorem lk_X4_distanceBySalt_code_Lib_Math_abs_name_Lib_Math_abs_code_1_some_int : Cond.code Lib.Math.abs.name Lib.Math.abs.code 1 (some .int) ∈ wsX4_distanceBySalt := by decide +kernel
theorem lk_X4_distanceBySalt_fieldLink_RX4_41_JoinedSketches_trial_LJoinedSketches_Sketch : Cond.fieldLink RX4 41 "JoinedSketches" "trial" "LJoinedSketches$Sketch;" ∈ wsX4_distanceBySalt := by decide +kernel
theorem lk_X4_distanceBySalt_initialized_java_lang_Math : Cond.initialized "java/lang/Math" ∈ wsX4_distanceBySalt := by decide +kernel
theorem lk_X4_distanceBySalt_methodLink_RX4_232_Lib_Math_abs_name : Cond.methodLink RX4 232 Lib.Math.abs.name ∈ wsX4_distanceBySalt := by decide +kernel
theorem lk_X4_distanceBySalt_static_Lib_Math_abs_name : Cond.static Lib.Math.abs.name ∈ wsX4_distanceBySalt := by decide +kernel
theorem mf_X4_distanceBySalt : js_M yX4_distanceBySalt cX4_distanceBySalt 4 (some .int) wsX4_distanceBySalt 2 := ⟨⟨_, rfl⟩, by decide +kernel, by decide +kernel, by decide +kernel, by decide +kernel⟩
set_option maxHeartbeats 4000000 in
set_option maxRecDepth 100000 in
theorem c_X4_distanceBySalt (la : Launch) {y : js_L} (hy : js_Dy y) {j : Nat} (hj : j < 54) {G : js_G} {s B : Nat} {rk : Nat → Nat} {l : List Nat} (hS : jr_S G j B rk (some l)) : js_Ci la y yX4_distanceBySalt wsX4_distanceBySalt 6 122 [.ref (js_ad y (190)), .ref (js_ad y (js_kS j)), .int (nI (s))] G (fun r G' => r = nI (jm_dist s B l) ∧ js_fr 54 G G') := by
  obtain ⟨hB2, hB6, hB, hR, hK, hL3, hL4, hlen, hE, hT⟩ := id hS
  have hp : 2 ^ B ≤ 64 := jm_p6 hB6
  have hp1 := jm_p1 B
  have hne : j ≠ 54 := by omega
  refine js_ofi mf_X4_distanceBySalt (Nat.le_of_ble_eq_true rfl) hy (fun X F hr => ?_)
  replace F : js_F X y cX4_distanceBySalt 4 RX4 wsX4_distanceBySalt 6 122 := F
  show js_W X y 4 _ G 0 [(0, .ref (js_ad y (190))), (1, .ref (js_ad y (js_kS j))), (2, .int (nI (s)))] []
  refine js_aload_n (pc := 0) 0 F rfl dX4_distanceBySalt_0 ?_
  refine jg_X_trial (pc := 1) F in_X4_distanceBySalt_4 (lk_X4_distanceBySalt_fieldLink_RX4_41_JoinedSketches_trial_LJoinedSketches_Sketch) dX4_distanceBySalt_1 ?_
  refine js_aload_n (pc := 4) 1 F rfl dX4_distanceBySalt_4 ?_
  refine jgN_4_62 (pc := 5) (v := nI (B)) F in_X4_distanceBySalt_2 (by omega) (hB) dX4_distanceBySalt_5 ?_
  refine js_callv (pc := 8) F (c_X2_startAgain _ hy (j := 54) (G := G) (by decide) (B := B) hB2 hB6) mf_X2_startAgain gX4_distanceBySalt_X2_startAgain rfl (by decide) (by unfold js_kS; omega) (js_ct_S (by decide)) rfl rfl rfl (Nat.le_of_ble_eq_true rfl) dX4_distanceBySalt_8 ?_
  rintro Ga ⟨p1, p2⟩
  refine js_iconst (pc := 11) (v := nI (0)) F (by decide) dX4_distanceBySalt_11 ?_
  refine js_istore_n (pc := 12) (lv2 := [(0, .ref (js_ad y (190))), (1, .ref (js_ad y (js_kS j))), (2, .int (nI (s))), (3, .int (nI (0)))]) F dX4_distanceBySalt_12 (by decide) [1, 2, 3, 0] rfl ?_
  have L13 : ∀ (fu13 : Nat) (k : Nat) (G1 : js_G) (hk : k ≤ l.length) (hS1 : jr_S G1 54 B (jm_rkl s B (l.take k)) (some [])) (hf : js_fr 54 G G1) (hfu13 : l.length - k < fu13), js_W X y 4 (js_Qi X y (fun r G' => r = nI (jm_dist s B l) ∧ js_fr 54 G G')) G1 13 [(0, .ref (js_ad y (190))), (1, .ref (js_ad y (js_kS j))), (2, .int (nI (s))), (3, .int (nI (k)))] [] := by
    intro fu13
    induction fu13 with
    | zero => intro k G1 hk hS1 hf hfu13; exact absurd hfu13 (Nat.not_lt_zero _)
    | succ fu13 ih13 =>
      intro k G1 hk hS1 hf hfu13
      refine js_iload_n (pc := 13) 3 F rfl dX4_distanceBySalt_13 ?_
      refine js_aload_n (pc := 14) 1 F rfl dX4_distanceBySalt_14 ?_
      refine jgN_4_144 (pc := 15) (v := nI (l.length)) F in_X4_distanceBySalt_2 (by omega) (by rw [(hf.at hne).1]; exact hL3) dX4_distanceBySalt_15 ?_
      refine js_icmp_geN (pc := 18) (a := k) (b := l.length) (tgt := 44) F (by omega) (by omega) dX4_distanceBySalt_18 (by decide) (fun h18 => ?_) (fun h18 => ?_)
      · skip
        refine js_aload_n (pc := 44) 0 F rfl dX4_distanceBySalt_44 ?_
        refine jg_X_trial (pc := 45) F in_X4_distanceBySalt_4 (lk_X4_distanceBySalt_fieldLink_RX4_41_JoinedSketches_trial_LJoinedSketches_Sketch) dX4_distanceBySalt_45 ?_
        have hes := jm_est_le (rk := jm_rkl s B (l.take k)) (m := 2 ^ B) (by omega) hp (fun b hb => Nat.le_trans (hS1.2.2.2.2.1 b hb) (by omega))
        refine js_calli (pc := 48) F (c_X2_estimate _ hy (by decide) (G := G1) (B := B) (hS1.2.2.1) (hB6) (rk := jm_rkl s B (l.take k)) (hS1.2.2.2.1) (fun b hb => Nat.le_trans (hS1.2.2.2.2.1 b hb) (by omega))) mf_X2_estimate gX4_distanceBySalt_X2_estimate rfl (by decide) (by unfold js_kS; omega) (js_ct_S (by decide)) rfl rfl rfl (Nat.le_of_ble_eq_true rfl) dX4_distanceBySalt_48 ?_
        rintro _ _ ⟨rfl, rfl⟩
        refine js_aload_n (pc := 51) 1 F rfl dX4_distanceBySalt_51 ?_
        refine jgN_4_144 (pc := 52) (v := nI (l.length)) F in_X4_distanceBySalt_2 (by omega) (by rw [(hf.at hne).1]; exact hL3) dX4_distanceBySalt_52 ?_
        refine js_isub (pc := 55) F dX4_distanceBySalt_55 ?_
        refine js_abs (pc := 56) F lk_X4_distanceBySalt_methodLink_RX4_232_Lib_Math_abs_name lk_X4_distanceBySalt_static_Lib_Math_abs_name lk_X4_distanceBySalt_initialized_java_lang_Math lk_X4_distanceBySalt_code_Lib_Math_abs_name_Lib_Math_abs_code_1_some_int (by decide) (Nat.le_of_ble_eq_true rfl) dX4_distanceBySalt_56 ?_
        refine js_val (v := nI (jm_ad l.length (jm_est (jm_rkl s B (l.take k)) (2 ^ B)))) (jn_abs (by omega) (by omega)) ?_
        refine js_iret (pc := 59) F hr (rfl) ?_ dX4_distanceBySalt_59
        have e : l.take k = l := List.take_of_length_le (by omega)
        rw [e]
        exact ⟨rfl, hf⟩
      · skip
        refine js_aload_n (pc := 21) 0 F rfl dX4_distanceBySalt_21 ?_
        refine jg_X_trial (pc := 22) F in_X4_distanceBySalt_4 (lk_X4_distanceBySalt_fieldLink_RX4_41_JoinedSketches_trial_LJoinedSketches_Sketch) dX4_distanceBySalt_22 ?_
        refine js_aload_n (pc := 25) 1 F rfl dX4_distanceBySalt_25 ?_
        refine js_iload_n (pc := 26) 3 F rfl dX4_distanceBySalt_26 ?_
        refine js_calli (pc := 27) F (c_X2_thingAt _ hy (by omega) (G := G1) (n := l.length) (by rw [(hf.at hne).1]; exact hL3) (by omega) (p := k) (by omega)) mf_X2_thingAt gX4_distanceBySalt_X2_thingAt rfl (by decide) (by unfold js_kS; omega) (js_ct_S (by omega)) rfl rfl rfl (Nat.le_of_ble_eq_true rfl) dX4_distanceBySalt_27 ?_
        rintro _ _ ⟨hv27, rfl⟩
        rw [hv27, show G1 (js_kT j) (k) = nI (l.getD (k) 0) from (by rw [(hf.at hne).2.2]; exact hT _ (by omega))]
        refine js_iload_n (pc := 30) 2 F rfl dX4_distanceBySalt_30 ?_
        refine js_callsi (pc := 31) F (c_X4_hashOf _ hy (t := l.getD (k) 0) (s := s)) mf_X4_hashOf gX4_distanceBySalt_X4_hashOf (by decide) rfl rfl (Nat.le_of_ble_eq_true rfl) dX4_distanceBySalt_31 ?_
        rintro _ _ ⟨rfl, rfl⟩
        refine js_calli (pc := 34) F (c_X2_takeHash _ hy (by decide) (G := G1) (B := B) (hS1.2.2.1) (hB6) (rk := jm_rkl s B (l.take k)) (hS1.2.2.2.1) (fun b hb => Nat.le_trans (hS1.2.2.2.2.1 b hb) (by omega)) (h := jm_hash (l.getD (k) 0) s) (jm_hash_lt _ _)) mf_X2_takeHash gX4_distanceBySalt_X2_takeHash rfl (by decide) (by unfold js_kS; omega) (js_ct_S (by decide)) rfl rfl rfl (Nat.le_of_ble_eq_true rfl) dX4_distanceBySalt_34 ?_
        rintro _ G2 ⟨rfl, hG2⟩
        have hS2 : jr_S G2 54 B (jm_rs (jm_rkl s B (l.take k)) (jm_hash (l.getD (k) 0) s % 2 ^ B) (jm_rank (jm_hash (l.getD (k) 0) s) B)) (some []) := by rw [← hG2]; exact jr_S_raise hS1 (Nat.mod_lt _ (by omega)) (jm_rank_le (jm_hash_lt _ _) hB6)
        have hf2 : js_fr 54 G G2 := hf.tr (by rw [← hG2]; exact js_fr_if (js_fr.st (Or.inr (Or.inl rfl))))
        refine js_pop (pc := 37) rfl F dX4_distanceBySalt_37 ?_
        refine js_iinc (pc := 38) (v := nI (k + 1)) (lv2 := [(0, .ref (js_ad y (190))), (1, .ref (js_ad y (js_kS j))), (2, .int (nI (s))), (3, .int (nI (k + 1)))]) F dX4_distanceBySalt_38 3 rfl (nI_add _ _) (by decide) [1, 2, 3, 0] rfl ?_
        refine js_goto (pc := 41) (tgt := 13) F dX4_distanceBySalt_41 (by decide) ?_
        exact ih13 (k + 1) G2 (by omega) (by rw [jm_rkl_take (by omega)]; exact hS2) (hf2) (by omega)
  exact L13 (_ + 1) 0 Ga (Nat.zero_le _) (p1) (p2) (Nat.lt_succ_self _)
theorem lk_X4_bitsOfShare_constant_RX4_237_8388607 : Cond.constant RX4 237 (8388607) ∈ wsX4_bitsOfShare := by decide +kernel
theorem mf_X4_bitsOfShare : js_M yX4_bitsOfShare cX4_bitsOfShare 5 (some .int) wsX4_bitsOfShare 2 := ⟨⟨_, rfl⟩, by decide +kernel, by decide +kernel, by decide +kernel, by decide +kernel⟩
set_option maxHeartbeats 4000000 in
set_option maxRecDepth 100000 in
theorem c_X4_bitsOfShare (la : Launch) {y : js_L} (hy : js_Dy y) {G : js_G} {m B : Nat} (hm : m ≤ 64) (hB6 : B ≤ 6) : js_Ci la y yX4_bitsOfShare wsX4_bitsOfShare 1 12 [.int (nI (m)), .int (nI (B))] G (fun r G' => r = jm_share m B ∧ G = G') := by
  refine js_ofi mf_X4_bitsOfShare (Nat.le_of_ble_eq_true rfl) hy (fun X F hr => ?_)
  replace F : js_F X y cX4_bitsOfShare 5 RX4 wsX4_bitsOfShare 1 12 := F
  show js_W X y 5 _ G 0 [(0, .int (nI (m))), (1, .int (nI (B)))] []
  refine js_iload_n (pc := 0) 0 F rfl dX4_bitsOfShare_0 ?_
  refine js_if_gtN (pc := 1) (a := m) (tgt := 6) F (by first | omega | (have := Nat.div_le_self m (2 ^ (i + 1)); omega)) dX4_bitsOfShare_1 (by decide) (fun h1 => ?_) (fun h1 => ?_)
  · skip
    refine js_iconst (pc := 6) (v := nI (0)) F (by decide) dX4_bitsOfShare_6 ?_
    refine js_istore_n (pc := 7) (lv2 := [(0, .int (nI (m))), (1, .int (nI (B))), (2, .int (nI (0)))]) F dX4_bitsOfShare_7 (by decide) [1, 2, 0] rfl ?_
    refine js_iconst (pc := 8) (v := nI (1)) F (by decide) dX4_bitsOfShare_8 ?_
    refine js_istore_n (pc := 9) (lv2 := [(0, .int (nI (m))), (1, .int (nI (B))), (2, .int (nI (0))), (3, .int (nI (1)))]) F dX4_bitsOfShare_9 (by decide) [1, 2, 3, 0] rfl ?_
    have L10 : ∀ (fu10 : Nat) (i : Nat) (t : Nat) (hi : i ≤ 6) (ht : t = jm_tp m i) (hfu10 : 6 - i < fu10), js_W X y 5 (js_Qi X y (fun r G' => r = jm_share m B ∧ G = G')) G 10 [(0, .int (nI (m))), (1, .int (nI (B))), (2, .int (nI (t))), (3, .int (nI (i + 1)))] [] := by
      intro fu10
      induction fu10 with
      | zero => intro i t hi ht hfu10; exact absurd hfu10 (Nat.not_lt_zero _)
      | succ fu10 ih10 =>
        intro i t hi ht hfu10
        refine js_iload_n (pc := 10) 3 F rfl dX4_bitsOfShare_10 ?_
        refine js_bipush (pc := 11) (v := nI (6)) F (by decide) dX4_bitsOfShare_11 ?_
        refine js_icmp_gtN (pc := 13) (a := i + 1) (b := 6) (tgt := 30) F (by first | omega | (have := Nat.div_le_self m (2 ^ (i + 1)); omega)) (by decide) dX4_bitsOfShare_13 (by decide) (fun h13 => ?_) (fun h13 => ?_)
        · skip
          have htl := jm_tp_le m i
          refine js_bipush (pc := 30) (v := nI (127)) F (by decide) dX4_bitsOfShare_30 ?_
          refine js_iload_n (pc := 32) 2 F rfl dX4_bitsOfShare_32 ?_
          refine js_iaddN (pc := 33) (a := 127) (b := t) F dX4_bitsOfShare_33 ?_
          refine js_iload_n (pc := 34) 1 F rfl dX4_bitsOfShare_34 ?_
          refine js_isubN (pc := 35) (a := 127 + t) (b := B) F (by omega) dX4_bitsOfShare_35 ?_
          refine js_istore_n (pc := 36) (lv2 := [(0, .int (nI (m))), (1, .int (nI (B))), (2, .int (nI (t))), (3, .int (nI ((127 + t) - B)))]) F dX4_bitsOfShare_36 (by decide) [1, 2, 3, 0] rfl ?_
          refine js_iload_n (pc := 37) 0 F rfl dX4_bitsOfShare_37 ?_
          refine js_bipush (pc := 38) (v := nI (23)) F (by decide) dX4_bitsOfShare_38 ?_
          refine js_iload_n (pc := 40) 2 F rfl dX4_bitsOfShare_40 ?_
          refine js_isubN (pc := 41) (a := 23) (b := t) F (by omega) dX4_bitsOfShare_41 ?_
          refine js_ishl (pc := 42) F dX4_bitsOfShare_42 ?_
          refine js_ldc (pc := 43) (v := nI (8388607)) F (lk_X4_bitsOfShare_constant_RX4_237_8388607) dX4_bitsOfShare_43 ?_
          refine js_iand (pc := 45) F dX4_bitsOfShare_45 ?_
          refine js_istore (pc := 46) (lv2 := [(0, .int (nI (m))), (1, .int (nI (B))), (2, .int (nI (t))), (3, .int (nI ((127 + t) - B))), (4, .int (((nI (m)) <<< ((nI (23 - t)) &&& 31)) &&& (nI (8388607))))]) F dX4_bitsOfShare_46 (by decide) [1, 2, 3, 4, 0] rfl ?_
          refine js_iload_n (pc := 48) 3 F rfl dX4_bitsOfShare_48 ?_
          refine js_bipush (pc := 49) (v := nI (23)) F (by decide) dX4_bitsOfShare_49 ?_
          refine js_ishl (pc := 51) F dX4_bitsOfShare_51 ?_
          refine js_iload (pc := 52) 4 F rfl dX4_bitsOfShare_52 ?_
          refine js_ior (pc := 54) F dX4_bitsOfShare_54 ?_
          refine js_iret (pc := 55) F hr (rfl) ?_ dX4_bitsOfShare_55
          have e : i = 6 := by omega
          subst e
          exact ⟨by unfold jm_share; rw [if_neg (by omega), ht], rfl⟩
        · skip
          refine js_iload_n (pc := 16) 0 F rfl dX4_bitsOfShare_16 ?_
          refine js_iload_n (pc := 17) 3 F rfl dX4_bitsOfShare_17 ?_
          refine js_ishrN (pc := 18) (a := m) (b := i + 1) F (by omega) (by omega) dX4_bitsOfShare_18 ?_
          refine js_if_eqN (pc := 19) (a := m / 2 ^ (i + 1)) (tgt := 24) F (by first | omega | (have := Nat.div_le_self m (2 ^ (i + 1)); omega)) dX4_bitsOfShare_19 (by decide) (fun h19 => ?_) (fun h19 => ?_)
          · skip
            refine js_iinc (pc := 24) (v := nI ((i + 1) + 1)) (lv2 := [(0, .int (nI (m))), (1, .int (nI (B))), (2, .int (nI (t))), (3, .int (nI ((i + 1) + 1)))]) F dX4_bitsOfShare_24 3 rfl (nI_add _ _) (by decide) [1, 2, 3, 0] rfl ?_
            refine js_goto (pc := 27) (tgt := 10) F dX4_bitsOfShare_27 (by decide) ?_
            exact ih10 (i + 1) t (by omega) (by simp only [jm_tp]; rw [← ht]; first | rw [if_pos h19] | rw [if_neg h19]) (by omega)
          · skip
            refine js_iload_n (pc := 22) 3 F rfl dX4_bitsOfShare_22 ?_
            refine js_istore_n (pc := 23) (lv2 := [(0, .int (nI (m))), (1, .int (nI (B))), (2, .int (nI (i + 1))), (3, .int (nI (i + 1)))]) F dX4_bitsOfShare_23 (by decide) [1, 2, 0, 3] rfl ?_
            refine js_iinc (pc := 24) (v := nI ((i + 1) + 1)) (lv2 := [(0, .int (nI (m))), (1, .int (nI (B))), (2, .int (nI (i + 1))), (3, .int (nI ((i + 1) + 1)))]) F dX4_bitsOfShare_24 3 rfl (nI_add _ _) (by decide) [1, 2, 3, 0] rfl ?_
            refine js_goto (pc := 27) (tgt := 10) F dX4_bitsOfShare_27 (by decide) ?_
            exact ih10 (i + 1) (i + 1) (by omega) (by simp only [jm_tp]; rw [← ht]; first | rw [if_pos h19] | rw [if_neg h19]) (by omega)
    exact L10 (_ + 1) 0 0 (Nat.zero_le _) (rfl) (Nat.lt_succ_self _)
  · skip
    refine js_iconst (pc := 4) (v := nI (0)) F (by decide) dX4_bitsOfShare_4 ?_
    refine js_iret (pc := 5) F hr (rfl) ?_ dX4_bitsOfShare_5
    exact ⟨by unfold jm_share; rw [if_pos (by omega)], rfl⟩
