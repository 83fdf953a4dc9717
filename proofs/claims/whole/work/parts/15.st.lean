theorem in_X2_takeAll_2 : ∀ w ∈ wsX20, w ∈ wsX2_takeAll := by decide +kernel
theorem lk_X2_takeAll_fieldLink_RX2_22_JoinedSketches_Sketch_listLength_I : Cond.fieldLink RX2 22 "JoinedSketches$Sketch" "listLength" "I" ∈ wsX2_takeAll := by decide +kernel
theorem lk_X2_takeAll_fieldLink_RX2_25_JoinedSketches_Sketch_full_Z : Cond.fieldLink RX2 25 "JoinedSketches$Sketch" "full" "Z" ∈ wsX2_takeAll := by decide +kernel
theorem mf_X2_takeAll : js_M yX2_takeAll cX2_takeAll 3 none wsX2_takeAll 1 := ⟨⟨_, rfl⟩, by decide +kernel, by decide +kernel, by decide +kernel, by decide +kernel⟩
set_option maxHeartbeats 4000000 in
set_option maxRecDepth 100000 in
theorem c_X2_takeAll_none (la : Launch) {y : js_L} (hy : js_Dy y) {j : Nat} (hj : j < 55) {j2 : Nat} (hj2 : j2 < 55) (hne : j2 ≠ j) {G : js_G} {B : Nat} {rk : Nat → Nat} {ls : Option (List Nat)} (hS : jr_S G j B rk ls) {rk2 : Nat → Nat} (hS2 : jr_S G j2 B rk2 none) : js_Cv la y yX2_takeAll wsX2_takeAll 3 55 [.ref (js_ad y (js_kS j)), .ref (js_ad y (js_kS j2))] G (fun G' => jr_S G' j B (jm_mx rk rk2) (jm_jl ls none) ∧ js_fr j G G') := by
  obtain ⟨hB2, hB6, hB, hR, hK, hL⟩ := id hS
  obtain ⟨-, -, hB2x, hR2, hK2, hL2⟩ := id hS2
  have hp : 2 ^ B ≤ 64 := jm_p6 hB6
  have n1 : js_kS j ≠ js_kR j := by unfold js_kS js_kR; omega
  have n2 : js_kR j ≠ js_kS j := by unfold js_kS js_kR; omega
  have n3 : js_kT j ≠ js_kR j := by unfold js_kR js_kT; omega
  have m1 : js_kS j2 ≠ js_kR j := by unfold js_kS js_kR; omega
  have m2 : js_kR j2 ≠ js_kR j := by unfold js_kR; omega
  have m3 : js_kT j2 ≠ js_kR j := by unfold js_kT js_kR; omega
  have m4 : js_kS j2 ≠ js_kS j := by unfold js_kS; omega
  refine js_ofv mf_X2_takeAll (Nat.le_of_ble_eq_true rfl) hy (fun X F hr => ?_)
  replace F : js_F X y cX2_takeAll 3 RX2 wsX2_takeAll 3 55 := F
  show js_W X y 3 _ G 0 [(0, .ref (js_ad y (js_kS j))), (1, .ref (js_ad y (js_kS j2)))] []
  refine js_iconst (pc := 0) (v := nI (0)) F (by decide) dX2_takeAll_0 ?_
  refine js_istore_n (pc := 1) (lv2 := [(0, .ref (js_ad y (js_kS j))), (1, .ref (js_ad y (js_kS j2))), (2, .int (nI (0)))]) F dX2_takeAll_1 (by decide) [1, 2, 0] rfl ?_
  have L2 : ∀ (fu2 : Nat) (i : Nat) (G1 : js_G) (hi : i ≤ 2 ^ B) (h1 : ∀ b, b < 2 ^ B → G1 (js_kR j) b = nI (if b < i then jm_mx rk rk2 b else rk b)) (h2 : ∀ a, a ≠ js_kR j → G1 a = G a) (hfu2 : 2 ^ B - i < fu2), js_W X y 3 (js_Qv X y (fun G' => jr_S G' j B (jm_mx rk rk2) (jm_jl ls none) ∧ js_fr j G G')) G1 2 [(0, .ref (js_ad y (js_kS j))), (1, .ref (js_ad y (js_kS j2))), (2, .int (nI (i)))] [] := by
    intro fu2
    induction fu2 with
    | zero => intro i G1 hi h1 h2 hfu2; exact absurd hfu2 (Nat.not_lt_zero _)
    | succ fu2 ih2 =>
      intro i G1 hi h1 h2 hfu2
      refine js_iload_n (pc := 2) 2 F rfl dX2_takeAll_2 ?_
      refine js_aload_n (pc := 3) 0 F rfl dX2_takeAll_3 ?_
      refine js_calli (pc := 4) F (c_X2_buckets _ hy hj (G := G1) (B := B) (by rw [h2 _ n1]; exact hB) (by omega)) mf_X2_buckets gX2_takeAll_X2_buckets rfl (by decide) (by unfold js_kS; omega) (js_ct_S hj) rfl rfl rfl (Nat.le_of_ble_eq_true rfl) dX2_takeAll_4 ?_
      rintro _ _ ⟨rfl, rfl⟩
      refine js_icmp_geN (pc := 7) (a := i) (b := 2 ^ B) (tgt := 27) F (by omega) (by omega) dX2_takeAll_7 (by decide) (fun h7 => ?_) (fun h7 => ?_)
      · skip
        refine js_aload_n (pc := 27) 1 F rfl dX2_takeAll_27 ?_
        refine jg_S_full (pc := 28) (v := nI (1)) F in_X2_takeAll_2 hj2 (lk_X2_takeAll_fieldLink_RX2_25_JoinedSketches_Sketch_full_Z) (by rw [h2 _ m1]; exact hL2.2) dX2_takeAll_28 ?_
        refine js_if_eqN (pc := 31) (a := 1) (tgt := 38) F (by decide) dX2_takeAll_31 (by decide) (fun h31 => by exact absurd h31 (by decide)) (fun h31 => ?_)
        refine js_aload_n (pc := 34) 0 F rfl dX2_takeAll_34 ?_
        refine js_callv (pc := 35) F (c_X2_fillList _ hy hj (G := G1)) mf_X2_fillList gX2_takeAll_X2_fillList rfl (by decide) (by unfold js_kS; omega) (js_ct_S hj) rfl rfl rfl (Nat.le_of_ble_eq_true rfl) dX2_takeAll_35 ?_
        rintro _ rfl
        refine js_iconst (pc := 38) (v := nI (0)) F (by decide) dX2_takeAll_38 ?_
        refine js_istore_n (pc := 39) (lv2 := [(0, .ref (js_ad y (js_kS j))), (1, .ref (js_ad y (js_kS j2))), (2, .int (nI (0)))]) F dX2_takeAll_39 (by decide) [1, 2, 0] rfl ?_
        refine js_iload_n (pc := 40) 2 F rfl dX2_takeAll_40 ?_
        refine js_aload_n (pc := 41) 1 F rfl dX2_takeAll_41 ?_
        refine jg_S_listLength (pc := 42) (v := nI (0)) F in_X2_takeAll_2 hj2 (lk_X2_takeAll_fieldLink_RX2_22_JoinedSketches_Sketch_listLength_I) (by rw [js_st_n (by simp only [js_kS, js_kR, js_kT, js_kA, js_kB]; omega)]; all_goals exact (by rw [js_st_n (by simp only [js_kS, js_kR, js_kT, js_kA, js_kB]; omega)]; all_goals exact (by rw [h2 _ m1]; exact hL2.1))) dX2_takeAll_42 ?_
        refine js_icmp_geN (pc := 45) (a := 0) (b := 0) (tgt := 63) F (by decide) (by decide) dX2_takeAll_45 (by decide) (fun h45 => ?_) (fun h45 => by exfalso; omega)
        refine js_vret (pc := 63) F hr ?_ dX2_takeAll_63
        refine ⟨⟨hB2, hB6, ?_, fun b hb => ?_, fun b hb => jm_mx_le (hK b hb) (hK2 b hb), ?_, ?_⟩, ?_⟩
        · rw [js_st_s]; simp [upd, js_st_s]; rw [h2 _ n1]; exact hB
        · rw [js_st_n n2, js_st_n n2, h1 b hb, if_pos (by omega)]
        · rw [js_st_s]; simp [upd]
        · rw [js_st_s]; simp [upd, js_st_s]
        · exact js_fr.tr (fun a x y z => h2 a y) (js_fr.tr (js_fr.st (Or.inl rfl)) (js_fr.st (Or.inl rfl)))
      · skip
        refine js_aload_n (pc := 10) 0 F rfl dX2_takeAll_10 ?_
        refine js_iload_n (pc := 11) 2 F rfl dX2_takeAll_11 ?_
        refine js_aload_n (pc := 12) 1 F rfl dX2_takeAll_12 ?_
        refine js_iload_n (pc := 13) 2 F rfl dX2_takeAll_13 ?_
        refine js_calli (pc := 14) F (c_X2_rankIn _ hy hj2 (G := G1) (B := B) (by rw [h2 _ m1]; exact hB2x) (by omega) (b := i) (by omega)) mf_X2_rankIn gX2_takeAll_X2_rankIn rfl (by decide) (by unfold js_kS; omega) (js_ct_S hj2) rfl rfl rfl (Nat.le_of_ble_eq_true rfl) dX2_takeAll_14 ?_
        rintro _ _ ⟨hv14, rfl⟩
        rw [hv14, show G1 (js_kR j2) (i) = nI (rk2 (i)) from (by rw [h2 _ m2]; exact hR2 _ (by omega))]
        refine js_calli (pc := 17) F (c_X2_raise _ hy hj (G := G1) (B := B) (by rw [h2 _ n1]; exact hB) (by omega) (b := i) (r := rk2 (i)) (v := rk (i)) (by omega) (by rw [h1 _ (by omega), if_neg (Nat.lt_irrefl _)]) (by have := hK2 i (by omega); omega) (by have := hK i (by omega); omega)) mf_X2_raise gX2_takeAll_X2_raise rfl (by decide) (by unfold js_kS; omega) (js_ct_S hj) rfl rfl rfl (Nat.le_of_ble_eq_true rfl) dX2_takeAll_17 ?_
        rintro _ Gr17 ⟨rfl, hGr17⟩
        refine js_pop (pc := 20) rfl F dX2_takeAll_20 ?_
        refine js_iinc (pc := 21) (v := nI (i + 1)) (lv2 := [(0, .ref (js_ad y (js_kS j))), (1, .ref (js_ad y (js_kS j2))), (2, .int (nI (i + 1)))]) F dX2_takeAll_21 2 rfl (nI_add _ _) (by decide) [1, 2, 0] rfl ?_
        refine js_goto (pc := 24) (tgt := 2) F dX2_takeAll_24 (by decide) ?_
        exact ih2 (i + 1) Gr17 (by omega) ((jl_mx h1 hGr17).1) (fun a ha => ((jl_mx h1 hGr17).2 a ha).trans (h2 a ha)) (by omega)
  exact L2 (_ + 1) 0 G (Nat.zero_le _) (fun b hb => by rw [hR b hb, if_neg (Nat.not_lt_zero _)]) (fun _ _ => rfl) (Nat.lt_succ_self _)
set_option maxHeartbeats 4000000 in
set_option maxRecDepth 100000 in
theorem c_X2_takeAll_some (la : Launch) {y : js_L} (hy : js_Dy y) {j : Nat} (hj : j < 55) {j2 : Nat} (hj2 : j2 < 55) (hne : j2 ≠ j) {G : js_G} {B : Nat} {rk : Nat → Nat} {ls : Option (List Nat)} (hS : jr_S G j B rk ls) {rk2 : Nat → Nat} {l2 : List Nat} (hS2 : jr_S G j2 B rk2 (some l2)) : js_Cv la y yX2_takeAll wsX2_takeAll 3 55 [.ref (js_ad y (js_kS j)), .ref (js_ad y (js_kS j2))] G (fun G' => jr_S G' j B (jm_mx rk rk2) (jm_jl ls (some l2)) ∧ js_fr j G G') := by
  obtain ⟨hB2, hB6, hB, hR, hK, hL⟩ := id hS
  obtain ⟨-, -, hB2x, hR2, hK2, hL2⟩ := id hS2
  have hp : 2 ^ B ≤ 64 := jm_p6 hB6
  have n1 : js_kS j ≠ js_kR j := by unfold js_kS js_kR; omega
  have n2 : js_kR j ≠ js_kS j := by unfold js_kS js_kR; omega
  have n3 : js_kT j ≠ js_kR j := by unfold js_kR js_kT; omega
  have m1 : js_kS j2 ≠ js_kR j := by unfold js_kS js_kR; omega
  have m2 : js_kR j2 ≠ js_kR j := by unfold js_kR; omega
  have m3 : js_kT j2 ≠ js_kR j := by unfold js_kT js_kR; omega
  have m4 : js_kS j2 ≠ js_kS j := by unfold js_kS; omega
  have hlen2 := hL2.2.2.1
  refine js_ofv mf_X2_takeAll (Nat.le_of_ble_eq_true rfl) hy (fun X F hr => ?_)
  replace F : js_F X y cX2_takeAll 3 RX2 wsX2_takeAll 3 55 := F
  show js_W X y 3 _ G 0 [(0, .ref (js_ad y (js_kS j))), (1, .ref (js_ad y (js_kS j2)))] []
  refine js_iconst (pc := 0) (v := nI (0)) F (by decide) dX2_takeAll_0 ?_
  refine js_istore_n (pc := 1) (lv2 := [(0, .ref (js_ad y (js_kS j))), (1, .ref (js_ad y (js_kS j2))), (2, .int (nI (0)))]) F dX2_takeAll_1 (by decide) [1, 2, 0] rfl ?_
  have L2 : ∀ (fu2 : Nat) (i : Nat) (G1 : js_G) (hi : i ≤ 2 ^ B) (h1 : ∀ b, b < 2 ^ B → G1 (js_kR j) b = nI (if b < i then jm_mx rk rk2 b else rk b)) (h2 : ∀ a, a ≠ js_kR j → G1 a = G a) (hfu2 : 2 ^ B - i < fu2), js_W X y 3 (js_Qv X y (fun G' => jr_S G' j B (jm_mx rk rk2) (jm_jl ls (some l2)) ∧ js_fr j G G')) G1 2 [(0, .ref (js_ad y (js_kS j))), (1, .ref (js_ad y (js_kS j2))), (2, .int (nI (i)))] [] := by
    intro fu2
    induction fu2 with
    | zero => intro i G1 hi h1 h2 hfu2; exact absurd hfu2 (Nat.not_lt_zero _)
    | succ fu2 ih2 =>
      intro i G1 hi h1 h2 hfu2
      refine js_iload_n (pc := 2) 2 F rfl dX2_takeAll_2 ?_
      refine js_aload_n (pc := 3) 0 F rfl dX2_takeAll_3 ?_
      refine js_calli (pc := 4) F (c_X2_buckets _ hy hj (G := G1) (B := B) (by rw [h2 _ n1]; exact hB) (by omega)) mf_X2_buckets gX2_takeAll_X2_buckets rfl (by decide) (by unfold js_kS; omega) (js_ct_S hj) rfl rfl rfl (Nat.le_of_ble_eq_true rfl) dX2_takeAll_4 ?_
      rintro _ _ ⟨rfl, rfl⟩
      refine js_icmp_geN (pc := 7) (a := i) (b := 2 ^ B) (tgt := 27) F (by omega) (by omega) dX2_takeAll_7 (by decide) (fun h7 => ?_) (fun h7 => ?_)
      · skip
        refine js_aload_n (pc := 27) 1 F rfl dX2_takeAll_27 ?_
        refine jg_S_full (pc := 28) (v := nI (0)) F in_X2_takeAll_2 hj2 (lk_X2_takeAll_fieldLink_RX2_25_JoinedSketches_Sketch_full_Z) (by rw [h2 _ m1]; exact hL2.2.1) dX2_takeAll_28 ?_
        refine js_if_eqN (pc := 31) (a := 0) (tgt := 38) F (by decide) dX2_takeAll_31 (by decide) (fun h31 => ?_) (fun h31 => by exact absurd rfl h31)
        refine js_iconst (pc := 38) (v := nI (0)) F (by decide) dX2_takeAll_38 ?_
        refine js_istore_n (pc := 39) (lv2 := [(0, .ref (js_ad y (js_kS j))), (1, .ref (js_ad y (js_kS j2))), (2, .int (nI (0)))]) F dX2_takeAll_39 (by decide) [1, 2, 0] rfl ?_
        have L40 : ∀ (fu40 : Nat) (k : Nat) (G2 : js_G) (hk : k ≤ l2.length) (g1 : jr_L G2 j (jm_addL ls (l2.take k))) (g2 : G2 (js_kR j) = G1 (js_kR j)) (g3 : G2 (js_kS j) 0 = nI B) (g4 : js_fr j G1 G2) (hfu40 : l2.length - k < fu40), js_W X y 3 (js_Qv X y (fun G' => jr_S G' j B (jm_mx rk rk2) (jm_jl ls (some l2)) ∧ js_fr j G G')) G2 40 [(0, .ref (js_ad y (js_kS j))), (1, .ref (js_ad y (js_kS j2))), (2, .int (nI (k)))] [] := by
          intro fu40
          induction fu40 with
          | zero => intro k G2 hk g1 g2 g3 g4 hfu40; exact absurd hfu40 (Nat.not_lt_zero _)
          | succ fu40 ih40 =>
            intro k G2 hk g1 g2 g3 g4 hfu40
            refine js_iload_n (pc := 40) 2 F rfl dX2_takeAll_40 ?_
            refine js_aload_n (pc := 41) 1 F rfl dX2_takeAll_41 ?_
            refine jg_S_listLength (pc := 42) (v := nI (l2.length)) F in_X2_takeAll_2 hj2 (lk_X2_takeAll_fieldLink_RX2_22_JoinedSketches_Sketch_listLength_I) (by rw [(g4.at hne).1, h2 _ m1]; exact hL2.1) dX2_takeAll_42 ?_
            refine js_icmp_geN (pc := 45) (a := k) (b := l2.length) (tgt := 63) F (by omega) (by omega) dX2_takeAll_45 (by decide) (fun h45 => ?_) (fun h45 => ?_)
            · skip
              refine js_vret (pc := 63) F hr ?_ dX2_takeAll_63
              refine ⟨⟨hB2, hB6, g3, fun b hb => by rw [g2, h1 b hb, if_pos (by omega)], fun b hb => jm_mx_le (hK b hb) (hK2 b hb), ?_⟩, js_fr.tr (fun a x y z => h2 a y) g4⟩
              have e : l2.take k = l2 := List.take_of_length_le (by omega)
              rw [e] at g1
              exact g1
            · skip
              refine js_aload_n (pc := 48) 0 F rfl dX2_takeAll_48 ?_
              refine js_aload_n (pc := 49) 1 F rfl dX2_takeAll_49 ?_
              refine js_iload_n (pc := 50) 2 F rfl dX2_takeAll_50 ?_
              refine js_calli (pc := 51) F (c_X2_thingAt _ hy hj2 (G := G2) (n := l2.length) (by rw [(g4.at hne).1, h2 _ m1]; exact hL2.1) (by omega) (p := k) (by omega)) mf_X2_thingAt gX2_takeAll_X2_thingAt rfl (by decide) (by unfold js_kS; omega) (js_ct_S hj2) rfl rfl rfl (Nat.le_of_ble_eq_true rfl) dX2_takeAll_51 ?_
              rintro _ _ ⟨hv51, rfl⟩
              rw [hv51, show G2 (js_kT j2) (k) = nI (l2.getD (k) 0) from (by rw [(g4.at hne).2.2, h2 _ m3]; exact hL2.2.2.2.2 _ (by omega))]
              refine js_callv (pc := 54) F (c_X2_list _ hy hj (G := G2) (ls := jm_addL ls (l2.take k)) g1 (t := l2.getD (k) 0) (hL2.2.2.2.1 _ (jm_getD_mem (by omega)))) mf_X2_list gX2_takeAll_X2_list rfl (by decide) (by unfold js_kS; omega) (js_ct_S hj) rfl rfl rfl (Nat.le_of_ble_eq_true rfl) dX2_takeAll_54 ?_
              rintro G3 ⟨p1, p2, p3, p4⟩
              refine js_iinc (pc := 57) (v := nI (k + 1)) (lv2 := [(0, .ref (js_ad y (js_kS j))), (1, .ref (js_ad y (js_kS j2))), (2, .int (nI (k + 1)))]) F dX2_takeAll_57 2 rfl (nI_add _ _) (by decide) [1, 2, 0] rfl ?_
              refine js_goto (pc := 60) (tgt := 40) F dX2_takeAll_60 (by decide) ?_
              exact ih40 (k + 1) G3 (by omega) (by rw [jm_addL_take (by omega)]; exact p1) (p2.trans g2) (p3.trans g3) (g4.tr p4) (by omega)
        exact L40 (_ + 1) 0 G1 (Nat.zero_le _) (hL.co (by rw [h2 _ n1]) (by rw [h2 _ n1]) (fun _ k _ => by rw [h2 _ n3])) (rfl) (by rw [h2 _ n1]; exact hB) (js_fr.rf) (Nat.lt_succ_self _)
      · skip
        refine js_aload_n (pc := 10) 0 F rfl dX2_takeAll_10 ?_
        refine js_iload_n (pc := 11) 2 F rfl dX2_takeAll_11 ?_
        refine js_aload_n (pc := 12) 1 F rfl dX2_takeAll_12 ?_
        refine js_iload_n (pc := 13) 2 F rfl dX2_takeAll_13 ?_
        refine js_calli (pc := 14) F (c_X2_rankIn _ hy hj2 (G := G1) (B := B) (by rw [h2 _ m1]; exact hB2x) (by omega) (b := i) (by omega)) mf_X2_rankIn gX2_takeAll_X2_rankIn rfl (by decide) (by unfold js_kS; omega) (js_ct_S hj2) rfl rfl rfl (Nat.le_of_ble_eq_true rfl) dX2_takeAll_14 ?_
        rintro _ _ ⟨hv14, rfl⟩
        rw [hv14, show G1 (js_kR j2) (i) = nI (rk2 (i)) from (by rw [h2 _ m2]; exact hR2 _ (by omega))]
        refine js_calli (pc := 17) F (c_X2_raise _ hy hj (G := G1) (B := B) (by rw [h2 _ n1]; exact hB) (by omega) (b := i) (r := rk2 (i)) (v := rk (i)) (by omega) (by rw [h1 _ (by omega), if_neg (Nat.lt_irrefl _)]) (by have := hK2 i (by omega); omega) (by have := hK i (by omega); omega)) mf_X2_raise gX2_takeAll_X2_raise rfl (by decide) (by unfold js_kS; omega) (js_ct_S hj) rfl rfl rfl (Nat.le_of_ble_eq_true rfl) dX2_takeAll_17 ?_
        rintro _ Gr17 ⟨rfl, hGr17⟩
        refine js_pop (pc := 20) rfl F dX2_takeAll_20 ?_
        refine js_iinc (pc := 21) (v := nI (i + 1)) (lv2 := [(0, .ref (js_ad y (js_kS j))), (1, .ref (js_ad y (js_kS j2))), (2, .int (nI (i + 1)))]) F dX2_takeAll_21 2 rfl (nI_add _ _) (by decide) [1, 2, 0] rfl ?_
        refine js_goto (pc := 24) (tgt := 2) F dX2_takeAll_24 (by decide) ?_
        exact ih2 (i + 1) Gr17 (by omega) ((jl_mx h1 hGr17).1) (fun a ha => ((jl_mx h1 hGr17).2 a ha).trans (h2 a ha)) (by omega)
  exact L2 (_ + 1) 0 G (Nat.zero_le _) (fun b hb => by rw [hR b hb, if_neg (Nat.not_lt_zero _)]) (fun _ _ => rfl) (Nat.lt_succ_self _)
theorem c_X2_takeAll (la : Launch) {y : js_L} (hy : js_Dy y) {j : Nat} (hj : j < 55) {j2 : Nat} (hj2 : j2 < 55) (hne : j2 ≠ j) {G : js_G} {B : Nat} {rk : Nat → Nat} {ls : Option (List Nat)} (hS : jr_S G j B rk ls) {rk2 : Nat → Nat} {ls2 : Option (List Nat)} (hS2 : jr_S G j2 B rk2 ls2) : js_Cv la y yX2_takeAll wsX2_takeAll 3 55 [.ref (js_ad y (js_kS j)), .ref (js_ad y (js_kS j2))] G (fun G' => jr_S G' j B (jm_mx rk rk2) (jm_jl ls ls2) ∧ js_fr j G G') := by
  cases ls2 with
  | none => exact c_X2_takeAll_none la hy hj hj2 hne hS hS2
  | some q => exact c_X2_takeAll_some la hy hj hj2 hne hS hS2
theorem in_X2_halve_2 : ∀ w ∈ wsX20, w ∈ wsX2_halve := by decide +kernel
theorem lk_X2_halve_code_Lib_Math_max_name_Lib_Math_max_code_2_some_int : Cond.code Lib.Math.max.name Lib.Math.max.code 2 (some .int) ∈ wsX2_halve := by decide +kernel
theorem lk_X2_halve_fieldLink_RX2_15_JoinedSketches_Sketch_ranks_I : Cond.fieldLink RX2 15 "JoinedSketches$Sketch" "ranks" "[I" ∈ wsX2_halve := by decide +kernel
theorem lk_X2_halve_fieldLink_RX2_9_JoinedSketches_Sketch_bits_I : Cond.fieldLink RX2 9 "JoinedSketches$Sketch" "bits" "I" ∈ wsX2_halve := by decide +kernel
theorem lk_X2_halve_initialized_java_lang_Math : Cond.initialized "java/lang/Math" ∈ wsX2_halve := by decide +kernel
theorem lk_X2_halve_methodLink_RX2_72_Lib_Math_max_name : Cond.methodLink RX2 72 Lib.Math.max.name ∈ wsX2_halve := by decide +kernel
theorem lk_X2_halve_static_Lib_Math_max_name : Cond.static Lib.Math.max.name ∈ wsX2_halve := by decide +kernel
theorem mf_X2_halve : js_M yX2_halve cX2_halve 5 none wsX2_halve 0 := ⟨⟨_, rfl⟩, by decide +kernel, by decide +kernel, by decide +kernel, by decide +kernel⟩
set_option maxHeartbeats 4000000 in
set_option maxRecDepth 100000 in
theorem c_X2_halve (la : Launch) {y : js_L} (hy : js_Dy y) {j : Nat} (hj : j < 55) {G : js_G} {B : Nat} {rk : Nat → Nat} {ls : Option (List Nat)} (hS : jr_S G j B rk ls) (hB3 : 3 ≤ B) : js_Cv la y yX2_halve wsX2_halve 3 58 [.ref (js_ad y (js_kS j))] G (fun G' => jr_S G' j (B - 1) (jm_fd B rk) ls ∧ js_fr j G G') := by
  obtain ⟨hB2, hB6, hB, hR, hK, hL⟩ := id hS
  have hp : 2 ^ B ≤ 64 := jm_p6 hB6
  obtain ⟨hh1, hh2⟩ := jm_half (B := B) (by omega)
  have n1 : js_kS j ≠ js_kR j := by unfold js_kS js_kR; omega
  have n2 : js_kR j ≠ js_kS j := by unfold js_kS js_kR; omega
  have n3 : js_kT j ≠ js_kR j := by unfold js_kR js_kT; omega
  have n4 : js_kT j ≠ js_kS j := by unfold js_kS js_kT; omega
  refine js_ofv mf_X2_halve (Nat.le_of_ble_eq_true rfl) hy (fun X F hr => ?_)
  replace F : js_F X y cX2_halve 5 RX2 wsX2_halve 3 58 := F
  show js_W X y 5 _ G 0 [(0, .ref (js_ad y (js_kS j)))] []
  refine js_aload_n (pc := 0) 0 F rfl dX2_halve_0 ?_
  refine js_calli (pc := 1) F (c_X2_buckets _ hy hj (G := G) (B := B) (hB) (by omega)) mf_X2_buckets gX2_halve_X2_buckets rfl (by decide) (by unfold js_kS; omega) (js_ct_S hj) rfl rfl rfl (Nat.le_of_ble_eq_true rfl) dX2_halve_1 ?_
  rintro _ _ ⟨rfl, rfl⟩
  refine js_iconst (pc := 4) (v := nI (2)) F (by decide) dX2_halve_4 ?_
  refine js_idivN (pc := 5) (a := 2 ^ B) (b := 2) F (by omega) (by omega) (by omega) dX2_halve_5 ?_
  refine js_val (v := nI (2 ^ (B - 1))) (by rw [hh1]) ?_
  refine js_istore_n (pc := 6) (lv2 := [(0, .ref (js_ad y (js_kS j))), (1, .int (nI (2 ^ (B - 1))))]) F dX2_halve_6 (by decide) [1, 0] rfl ?_
  refine js_iconst (pc := 7) (v := nI (0)) F (by decide) dX2_halve_7 ?_
  refine js_istore_n (pc := 8) (lv2 := [(0, .ref (js_ad y (js_kS j))), (1, .int (nI (2 ^ (B - 1)))), (2, .int (nI (0)))]) F dX2_halve_8 (by decide) [1, 2, 0] rfl ?_
  have L9 : ∀ (fu9 : Nat) (i : Nat) (G1 : js_G) (hi : i ≤ 2 ^ (B - 1)) (h1 : ∀ b, b < 2 ^ B → G1 (js_kR j) b = nI (if b < i then jm_fd B rk b else rk b)) (h2 : ∀ a, a ≠ js_kR j → G1 a = G a) (hfu9 : 2 ^ (B - 1) - i < fu9), js_W X y 5 (js_Qv X y (fun G' => jr_S G' j (B - 1) (jm_fd B rk) ls ∧ js_fr j G G')) G1 9 [(0, .ref (js_ad y (js_kS j))), (1, .int (nI (2 ^ (B - 1)))), (2, .int (nI (i)))] [] := by
    intro fu9
    induction fu9 with
    | zero => intro i G1 hi h1 h2 hfu9; exact absurd hfu9 (Nat.not_lt_zero _)
    | succ fu9 ih9 =>
      intro i G1 hi h1 h2 hfu9
      refine js_iload_n (pc := 9) 2 F rfl dX2_halve_9 ?_
      refine js_iload_n (pc := 10) 1 F rfl dX2_halve_10 ?_
      refine js_icmp_geN (pc := 11) (a := i) (b := 2 ^ (B - 1)) (tgt := 78) F (by first | omega | (have := hK i (by omega); omega) | (have := hK (i + 2 ^ (B - 1)) (by omega); omega) | (split <;> omega)) (by first | omega | (have := hK i (by omega); omega) | (have := hK (i + 2 ^ (B - 1)) (by omega); omega) | (split <;> omega)) dX2_halve_11 (by decide) (fun h11 => ?_) (fun h11 => ?_)
      · skip
        refine js_iload_n (pc := 78) 1 F rfl dX2_halve_78 ?_
        refine js_istore_n (pc := 79) (lv2 := [(0, .ref (js_ad y (js_kS j))), (1, .int (nI (2 ^ (B - 1)))), (2, .int (nI (2 ^ (B - 1))))]) F dX2_halve_79 (by decide) [1, 2, 0] rfl ?_
        have L80 : ∀ (fu80 : Nat) (b2 : Nat) (G2 : js_G) (hb1 : 2 ^ (B - 1) ≤ b2) (hb2 : b2 ≤ 64) (g1 : ∀ b, b < 2 ^ (B - 1) → G2 (js_kR j) b = nI (jm_fd B rk b)) (g2 : ∀ a, a ≠ js_kR j → G2 a = G a) (hfu80 : 64 - b2 < fu80), js_W X y 5 (js_Qv X y (fun G' => jr_S G' j (B - 1) (jm_fd B rk) ls ∧ js_fr j G G')) G2 80 [(0, .ref (js_ad y (js_kS j))), (1, .int (nI (2 ^ (B - 1)))), (2, .int (nI (b2)))] [] := by
          intro fu80
          induction fu80 with
          | zero => intro b2 G2 hb1 hb2 g1 g2 hfu80; exact absurd hfu80 (Nat.not_lt_zero _)
          | succ fu80 ih80 =>
            intro b2 G2 hb1 hb2 g1 g2 hfu80
            refine js_iload_n (pc := 80) 2 F rfl dX2_halve_80 ?_
            refine js_aload_n (pc := 81) 0 F rfl dX2_halve_81 ?_
            refine jg_S_ranks (pc := 82) F in_X2_halve_2 hj (lk_X2_halve_fieldLink_RX2_15_JoinedSketches_Sketch_ranks_I) dX2_halve_82 ?_
            refine js_alen (pc := 85) (t0 := 0) F (by unfold js_kR; omega) (js_ct_R hj) rfl dX2_halve_85 ?_
            refine js_icmp_geN (pc := 86) (a := b2) (b := 64) (tgt := 102) F (by first | omega | (have := hK i (by omega); omega) | (have := hK (i + 2 ^ (B - 1)) (by omega); omega) | (split <;> omega)) (by decide) dX2_halve_86 (by decide) (fun h86 => ?_) (fun h86 => ?_)
            · skip
              refine js_aload_n (pc := 102) 0 F rfl dX2_halve_102 ?_
              refine js_dup (pc := 103) rfl F dX2_halve_103 ?_
              refine jg_S_bits (pc := 104) (v := nI (B)) F in_X2_halve_2 hj (lk_X2_halve_fieldLink_RX2_9_JoinedSketches_Sketch_bits_I) (by rw [g2 _ n1]; exact hB) dX2_halve_104 ?_
              refine js_iconst (pc := 107) (v := nI (1)) F (by decide) dX2_halve_107 ?_
              refine js_isubN (pc := 108) (a := B) (b := 1) F (by omega) dX2_halve_108 ?_
              refine jp_S_bits (pc := 109) (v := nI (B - 1)) F in_X2_halve_2 hj (lk_X2_halve_fieldLink_RX2_9_JoinedSketches_Sketch_bits_I) dX2_halve_109 ?_
              refine js_vret (pc := 112) F hr ?_ dX2_halve_112
              refine ⟨⟨by omega, by omega, by rw [js_st_s]; simp [upd], fun b hb => by rw [js_st_n n2]; exact g1 b hb, fun b hb => jm_fd_le hB3 hB6 hK hb, hL.co ?_ ?_ ?_⟩, js_fr.tr (fun a x y z => g2 a y) (js_fr.st (Or.inl rfl))⟩
              · rw [js_st_s]; simp only [upd]; rw [if_neg (by decide), g2 _ n1]
              · rw [js_st_s]; simp only [upd]; rw [if_neg (by decide), g2 _ n1]
              · intro _ k _; rw [js_st_n n4, g2 _ n3]
            · skip
              refine js_aload_n (pc := 89) 0 F rfl dX2_halve_89 ?_
              refine jg_S_ranks (pc := 90) F in_X2_halve_2 hj (lk_X2_halve_fieldLink_RX2_15_JoinedSketches_Sketch_ranks_I) dX2_halve_90 ?_
              refine js_iload_n (pc := 93) 2 F rfl dX2_halve_93 ?_
              refine js_iconst (pc := 94) (v := nI (0)) F (by decide) dX2_halve_94 ?_
              refine js_iast (pc := 95) (j := b2) F (by unfold js_kR; omega) (fun _ => js_ct_R hj) rfl (by omega) (by decide) dX2_halve_95 ?_
              refine js_iinc (pc := 96) (v := nI (b2 + 1)) (lv2 := [(0, .ref (js_ad y (js_kS j))), (1, .int (nI (2 ^ (B - 1)))), (2, .int (nI (b2 + 1)))]) F dX2_halve_96 2 rfl (nI_add _ _) (by decide) [1, 2, 0] rfl ?_
              refine js_goto (pc := 99) (tgt := 80) F dX2_halve_99 (by decide) ?_
              exact ih80 (b2 + 1) (js_st G2 (js_kR j) (b2) (nI (0))) (by omega) (by omega) (fun b hb => by rw [js_st_s, upd, if_neg (by omega)]; exact g1 b hb) (fun a ha => (js_st_n ha).trans (g2 a ha)) (by omega)
        exact L80 (_ + 1) (2 ^ (B - 1)) G1 (Nat.le_refl _) (by omega) (fun b hb => by rw [h1 b (by omega), if_pos (by omega)]) (h2) (Nat.lt_succ_self _)
      · skip
        refine js_iload_n (pc := 14) 2 F rfl dX2_halve_14 ?_
        refine js_aload_n (pc := 15) 0 F rfl dX2_halve_15 ?_
        refine jg_S_ranks (pc := 16) F in_X2_halve_2 hj (lk_X2_halve_fieldLink_RX2_15_JoinedSketches_Sketch_ranks_I) dX2_halve_16 ?_
        refine js_alen (pc := 19) (t0 := 0) F (by unfold js_kR; omega) (js_ct_R hj) rfl dX2_halve_19 ?_
        refine js_icmp_geN (pc := 20) (a := i) (b := 64) (tgt := 78) F (by first | omega | (have := hK i (by omega); omega) | (have := hK (i + 2 ^ (B - 1)) (by omega); omega) | (split <;> omega)) (by decide) dX2_halve_20 (by decide) (fun h20 => by exfalso; omega) (fun h20 => ?_)
        refine js_aload_n (pc := 23) 0 F rfl dX2_halve_23 ?_
        refine js_iload_n (pc := 24) 2 F rfl dX2_halve_24 ?_
        refine js_calli (pc := 25) F (c_X2_rankIn _ hy hj (G := G1) (B := B) (by rw [h2 _ n1]; exact hB) (by omega) (b := i) (by omega)) mf_X2_rankIn gX2_halve_X2_rankIn rfl (by decide) (by unfold js_kS; omega) (js_ct_S hj) rfl rfl rfl (Nat.le_of_ble_eq_true rfl) dX2_halve_25 ?_
        rintro _ _ ⟨hv25, rfl⟩
        rw [hv25, show G1 (js_kR j) (i) = nI (rk (i)) from (by rw [h1 _ (by omega), if_neg (by omega)])]
        refine js_if_neN (pc := 28) (a := rk (i)) (tgt := 35) F (by first | omega | (have := hK i (by omega); omega) | (have := hK (i + 2 ^ (B - 1)) (by omega); omega) | (split <;> omega)) dX2_halve_28 (by decide) (fun h28 => ?_) (fun h28 => ?_)
        · skip
          refine js_aload_n (pc := 35) 0 F rfl dX2_halve_35 ?_
          refine js_iload_n (pc := 36) 2 F rfl dX2_halve_36 ?_
          refine js_calli (pc := 37) F (c_X2_rankIn _ hy hj (G := G1) (B := B) (by rw [h2 _ n1]; exact hB) (by omega) (b := i) (by omega)) mf_X2_rankIn gX2_halve_X2_rankIn rfl (by decide) (by unfold js_kS; omega) (js_ct_S hj) rfl rfl rfl (Nat.le_of_ble_eq_true rfl) dX2_halve_37 ?_
          rintro _ _ ⟨hv37, rfl⟩
          rw [hv37, show G1 (js_kR j) (i) = nI (rk (i)) from (by rw [h1 _ (by omega), if_neg (by omega)])]
          refine js_iconst (pc := 40) (v := nI (1)) F (by decide) dX2_halve_40 ?_
          refine js_iaddN (pc := 41) (a := rk (i)) (b := 1) F dX2_halve_41 ?_
          refine js_istore_n (pc := 42) (lv2 := [(0, .ref (js_ad y (js_kS j))), (1, .int (nI (2 ^ (B - 1)))), (2, .int (nI (i))), (3, .int (nI ((rk (i)) + 1)))]) F dX2_halve_42 (by decide) [1, 2, 3, 0] rfl ?_
          refine js_aload_n (pc := 43) 0 F rfl dX2_halve_43 ?_
          refine js_iload_n (pc := 44) 2 F rfl dX2_halve_44 ?_
          refine js_iload_n (pc := 45) 1 F rfl dX2_halve_45 ?_
          refine js_iaddN (pc := 46) (a := i) (b := 2 ^ (B - 1)) F dX2_halve_46 ?_
          refine js_calli (pc := 47) F (c_X2_rankIn _ hy hj (G := G1) (B := B) (by rw [h2 _ n1]; exact hB) (by omega) (b := i + (2 ^ (B - 1))) (by omega)) mf_X2_rankIn gX2_halve_X2_rankIn rfl (by decide) (by unfold js_kS; omega) (js_ct_S hj) rfl rfl rfl (Nat.le_of_ble_eq_true rfl) dX2_halve_47 ?_
          rintro _ _ ⟨hv47, rfl⟩
          rw [hv47, show G1 (js_kR j) (i + (2 ^ (B - 1))) = nI (rk (i + (2 ^ (B - 1)))) from (by rw [h1 _ (by omega), if_neg (by omega)])]
          refine js_if_neN (pc := 50) (a := rk (i + (2 ^ (B - 1)))) (tgt := 57) F (by first | omega | (have := hK i (by omega); omega) | (have := hK (i + 2 ^ (B - 1)) (by omega); omega) | (split <;> omega)) dX2_halve_50 (by decide) (fun h50 => ?_) (fun h50 => ?_)
          · skip
            refine js_iconst (pc := 57) (v := nI (1)) F (by decide) dX2_halve_57 ?_
            refine js_istore (pc := 58) (lv2 := [(0, .ref (js_ad y (js_kS j))), (1, .int (nI (2 ^ (B - 1)))), (2, .int (nI (i))), (3, .int (nI ((rk (i)) + 1))), (4, .int (nI (1)))]) F dX2_halve_58 (by decide) [1, 2, 3, 4, 0] rfl ?_
            refine js_aload_n (pc := 60) 0 F rfl dX2_halve_60 ?_
            refine jg_S_ranks (pc := 61) F in_X2_halve_2 hj (lk_X2_halve_fieldLink_RX2_15_JoinedSketches_Sketch_ranks_I) dX2_halve_61 ?_
            refine js_iload_n (pc := 64) 2 F rfl dX2_halve_64 ?_
            refine js_iload_n (pc := 65) 3 F rfl dX2_halve_65 ?_
            refine js_iload (pc := 66) 4 F rfl dX2_halve_66 ?_
            refine js_maxN (pc := 68) (a := (rk (i)) + 1) (b := 1) F (by first | omega | (have := hK i (by omega); omega) | (have := hK (i + 2 ^ (B - 1)) (by omega); omega) | (split <;> omega)) (by decide) lk_X2_halve_methodLink_RX2_72_Lib_Math_max_name lk_X2_halve_static_Lib_Math_max_name lk_X2_halve_initialized_java_lang_Math lk_X2_halve_code_Lib_Math_max_name_Lib_Math_max_code_2_some_int (by decide) (Nat.le_of_ble_eq_true rfl) dX2_halve_68 ?_
            refine js_iast (pc := 71) (j := i) F (by unfold js_kR; omega) (fun _ => js_ct_R hj) rfl (by omega) (by decide) dX2_halve_71 ?_
            refine js_iinc (pc := 72) (v := nI (i + 1)) (lv2 := [(0, .ref (js_ad y (js_kS j))), (1, .int (nI (2 ^ (B - 1)))), (2, .int (nI (i + 1))), (3, .int (nI ((rk (i)) + 1))), (4, .int (nI (1)))]) F dX2_halve_72 2 rfl (nI_add _ _) (by decide) [1, 2, 0, 3, 4] rfl ?_
            refine js_goto (pc := 75) (tgt := 9) F dX2_halve_75 (by decide) ?_
            refine js_sub (lv2 := [(0, .ref (js_ad y (js_kS j))), (1, .int (nI (2 ^ (B - 1)))), (2, .int (nI (i + 1)))]) [0, 1, 2] rfl ?_
            exact ih9 (i + 1) (js_st G1 (js_kR j) (i) (nI (if ((rk (i)) + 1) < 1 then 1 else (rk (i)) + 1))) (by omega) (jl_st h1 (by unfold jm_fd; (repeat' split) <;> omega)) (fun a ha => (js_st_n ha).trans (h2 a ha)) (by omega)
          · skip
            refine js_iconst (pc := 53) (v := nI (0)) F (by decide) dX2_halve_53 ?_
            refine js_goto (pc := 54) (tgt := 58) F dX2_halve_54 (by decide) ?_
            refine js_istore (pc := 58) (lv2 := [(0, .ref (js_ad y (js_kS j))), (1, .int (nI (2 ^ (B - 1)))), (2, .int (nI (i))), (3, .int (nI ((rk (i)) + 1))), (4, .int (nI (0)))]) F dX2_halve_58 (by decide) [1, 2, 3, 4, 0] rfl ?_
            refine js_aload_n (pc := 60) 0 F rfl dX2_halve_60 ?_
            refine jg_S_ranks (pc := 61) F in_X2_halve_2 hj (lk_X2_halve_fieldLink_RX2_15_JoinedSketches_Sketch_ranks_I) dX2_halve_61 ?_
            refine js_iload_n (pc := 64) 2 F rfl dX2_halve_64 ?_
            refine js_iload_n (pc := 65) 3 F rfl dX2_halve_65 ?_
            refine js_iload (pc := 66) 4 F rfl dX2_halve_66 ?_
            refine js_maxN (pc := 68) (a := (rk (i)) + 1) (b := 0) F (by first | omega | (have := hK i (by omega); omega) | (have := hK (i + 2 ^ (B - 1)) (by omega); omega) | (split <;> omega)) (by decide) lk_X2_halve_methodLink_RX2_72_Lib_Math_max_name lk_X2_halve_static_Lib_Math_max_name lk_X2_halve_initialized_java_lang_Math lk_X2_halve_code_Lib_Math_max_name_Lib_Math_max_code_2_some_int (by decide) (Nat.le_of_ble_eq_true rfl) dX2_halve_68 ?_
            refine js_iast (pc := 71) (j := i) F (by unfold js_kR; omega) (fun _ => js_ct_R hj) rfl (by omega) (by decide) dX2_halve_71 ?_
            refine js_iinc (pc := 72) (v := nI (i + 1)) (lv2 := [(0, .ref (js_ad y (js_kS j))), (1, .int (nI (2 ^ (B - 1)))), (2, .int (nI (i + 1))), (3, .int (nI ((rk (i)) + 1))), (4, .int (nI (0)))]) F dX2_halve_72 2 rfl (nI_add _ _) (by decide) [1, 2, 0, 3, 4] rfl ?_
            refine js_goto (pc := 75) (tgt := 9) F dX2_halve_75 (by decide) ?_
            refine js_sub (lv2 := [(0, .ref (js_ad y (js_kS j))), (1, .int (nI (2 ^ (B - 1)))), (2, .int (nI (i + 1)))]) [0, 1, 2] rfl ?_
            exact ih9 (i + 1) (js_st G1 (js_kR j) (i) (nI (if ((rk (i)) + 1) < 0 then 0 else (rk (i)) + 1))) (by omega) (jl_st h1 (by unfold jm_fd; (repeat' split) <;> omega)) (fun a ha => (js_st_n ha).trans (h2 a ha)) (by omega)
        · skip
          refine js_iconst (pc := 31) (v := nI (0)) F (by decide) dX2_halve_31 ?_
          refine js_goto (pc := 32) (tgt := 42) F dX2_halve_32 (by decide) ?_
          refine js_istore_n (pc := 42) (lv2 := [(0, .ref (js_ad y (js_kS j))), (1, .int (nI (2 ^ (B - 1)))), (2, .int (nI (i))), (3, .int (nI (0)))]) F dX2_halve_42 (by decide) [1, 2, 3, 0] rfl ?_
          refine js_aload_n (pc := 43) 0 F rfl dX2_halve_43 ?_
          refine js_iload_n (pc := 44) 2 F rfl dX2_halve_44 ?_
          refine js_iload_n (pc := 45) 1 F rfl dX2_halve_45 ?_
          refine js_iaddN (pc := 46) (a := i) (b := 2 ^ (B - 1)) F dX2_halve_46 ?_
          refine js_calli (pc := 47) F (c_X2_rankIn _ hy hj (G := G1) (B := B) (by rw [h2 _ n1]; exact hB) (by omega) (b := i + (2 ^ (B - 1))) (by omega)) mf_X2_rankIn gX2_halve_X2_rankIn rfl (by decide) (by unfold js_kS; omega) (js_ct_S hj) rfl rfl rfl (Nat.le_of_ble_eq_true rfl) dX2_halve_47 ?_
          rintro _ _ ⟨hv47, rfl⟩
          rw [hv47, show G1 (js_kR j) (i + (2 ^ (B - 1))) = nI (rk (i + (2 ^ (B - 1)))) from (by rw [h1 _ (by omega), if_neg (by omega)])]
          refine js_if_neN (pc := 50) (a := rk (i + (2 ^ (B - 1)))) (tgt := 57) F (by first | omega | (have := hK i (by omega); omega) | (have := hK (i + 2 ^ (B - 1)) (by omega); omega) | (split <;> omega)) dX2_halve_50 (by decide) (fun h50 => ?_) (fun h50 => ?_)
          · skip
            refine js_iconst (pc := 57) (v := nI (1)) F (by decide) dX2_halve_57 ?_
            refine js_istore (pc := 58) (lv2 := [(0, .ref (js_ad y (js_kS j))), (1, .int (nI (2 ^ (B - 1)))), (2, .int (nI (i))), (3, .int (nI (0))), (4, .int (nI (1)))]) F dX2_halve_58 (by decide) [1, 2, 3, 4, 0] rfl ?_
            refine js_aload_n (pc := 60) 0 F rfl dX2_halve_60 ?_
            refine jg_S_ranks (pc := 61) F in_X2_halve_2 hj (lk_X2_halve_fieldLink_RX2_15_JoinedSketches_Sketch_ranks_I) dX2_halve_61 ?_
            refine js_iload_n (pc := 64) 2 F rfl dX2_halve_64 ?_
            refine js_iload_n (pc := 65) 3 F rfl dX2_halve_65 ?_
            refine js_iload (pc := 66) 4 F rfl dX2_halve_66 ?_
            refine js_maxN (pc := 68) (a := 0) (b := 1) F (by decide) (by decide) lk_X2_halve_methodLink_RX2_72_Lib_Math_max_name lk_X2_halve_static_Lib_Math_max_name lk_X2_halve_initialized_java_lang_Math lk_X2_halve_code_Lib_Math_max_name_Lib_Math_max_code_2_some_int (by decide) (Nat.le_of_ble_eq_true rfl) dX2_halve_68 ?_
            refine js_iast (pc := 71) (j := i) F (by unfold js_kR; omega) (fun _ => js_ct_R hj) rfl (by omega) (by decide) dX2_halve_71 ?_
            refine js_iinc (pc := 72) (v := nI (i + 1)) (lv2 := [(0, .ref (js_ad y (js_kS j))), (1, .int (nI (2 ^ (B - 1)))), (2, .int (nI (i + 1))), (3, .int (nI (0))), (4, .int (nI (1)))]) F dX2_halve_72 2 rfl (nI_add _ _) (by decide) [1, 2, 0, 3, 4] rfl ?_
            refine js_goto (pc := 75) (tgt := 9) F dX2_halve_75 (by decide) ?_
            refine js_sub (lv2 := [(0, .ref (js_ad y (js_kS j))), (1, .int (nI (2 ^ (B - 1)))), (2, .int (nI (i + 1)))]) [0, 1, 2] rfl ?_
            exact ih9 (i + 1) (js_st G1 (js_kR j) (i) (nI (if 0 < 1 then 1 else 0))) (by omega) (jl_st h1 (by unfold jm_fd; (repeat' split) <;> omega)) (fun a ha => (js_st_n ha).trans (h2 a ha)) (by omega)
          · skip
            refine js_iconst (pc := 53) (v := nI (0)) F (by decide) dX2_halve_53 ?_
            refine js_goto (pc := 54) (tgt := 58) F dX2_halve_54 (by decide) ?_
            refine js_istore (pc := 58) (lv2 := [(0, .ref (js_ad y (js_kS j))), (1, .int (nI (2 ^ (B - 1)))), (2, .int (nI (i))), (3, .int (nI (0))), (4, .int (nI (0)))]) F dX2_halve_58 (by decide) [1, 2, 3, 4, 0] rfl ?_
            refine js_aload_n (pc := 60) 0 F rfl dX2_halve_60 ?_
            refine jg_S_ranks (pc := 61) F in_X2_halve_2 hj (lk_X2_halve_fieldLink_RX2_15_JoinedSketches_Sketch_ranks_I) dX2_halve_61 ?_
            refine js_iload_n (pc := 64) 2 F rfl dX2_halve_64 ?_
            refine js_iload_n (pc := 65) 3 F rfl dX2_halve_65 ?_
            refine js_iload (pc := 66) 4 F rfl dX2_halve_66 ?_
            refine js_maxN (pc := 68) (a := 0) (b := 0) F (by decide) (by decide) lk_X2_halve_methodLink_RX2_72_Lib_Math_max_name lk_X2_halve_static_Lib_Math_max_name lk_X2_halve_initialized_java_lang_Math lk_X2_halve_code_Lib_Math_max_name_Lib_Math_max_code_2_some_int (by decide) (Nat.le_of_ble_eq_true rfl) dX2_halve_68 ?_
            refine js_iast (pc := 71) (j := i) F (by unfold js_kR; omega) (fun _ => js_ct_R hj) rfl (by omega) (by decide) dX2_halve_71 ?_
            refine js_iinc (pc := 72) (v := nI (i + 1)) (lv2 := [(0, .ref (js_ad y (js_kS j))), (1, .int (nI (2 ^ (B - 1)))), (2, .int (nI (i + 1))), (3, .int (nI (0))), (4, .int (nI (0)))]) F dX2_halve_72 2 rfl (nI_add _ _) (by decide) [1, 2, 0, 3, 4] rfl ?_
            refine js_goto (pc := 75) (tgt := 9) F dX2_halve_75 (by decide) ?_
            refine js_sub (lv2 := [(0, .ref (js_ad y (js_kS j))), (1, .int (nI (2 ^ (B - 1)))), (2, .int (nI (i + 1)))]) [0, 1, 2] rfl ?_
            exact ih9 (i + 1) (js_st G1 (js_kR j) (i) (nI (if 0 < 0 then 0 else 0))) (by omega) (jl_st h1 (by unfold jm_fd; (repeat' split) <;> omega)) (fun a ha => (js_st_n ha).trans (h2 a ha)) (by omega)
  exact L9 (_ + 1) 0 G (Nat.zero_le _) (fun b hb => by rw [hR b hb, if_neg (Nat.not_lt_zero _)]) (fun _ _ => rfl) (Nat.lt_succ_self _)
theorem in_X3_sketchAt_3 : ∀ w ∈ wsX30, w ∈ wsX3_sketchAt := by decide +kernel
theorem lk_X3_sketchAt_fieldLink_RX3_17_JoinedSketches_State_sketches_LJoinedSketches_Sketch : Cond.fieldLink RX3 17 "JoinedSketches$State" "sketches" "[LJoinedSketches$Sketch;" ∈ wsX3_sketchAt := by decide +kernel
theorem mf_X3_sketchAt : js_M yX3_sketchAt cX3_sketchAt 2 (some (.object "JoinedSketches$Sketch")) wsX3_sketchAt 1 := ⟨⟨_, rfl⟩, by decide +kernel, by decide +kernel, by decide +kernel, by decide +kernel⟩
set_option maxHeartbeats 4000000 in
set_option maxRecDepth 100000 in
theorem c_X3_sketchAt (la : Launch) {y : js_L} (hy : js_Dy y) {t : Nat} (ht : t < 9) {G : js_G} {i : Nat} (hi : i < 6) : js_Cq la y yX3_sketchAt wsX3_sketchAt 1 12 [.ref (js_ad y (js_kA t)), .int (nI (i))] G (fun r G' => r = some (js_ad y (js_kS (6 * t + i))) ∧ G = G') := by
  refine js_ofq mf_X3_sketchAt (Nat.le_of_ble_eq_true rfl) hy (fun X F hr => ?_)
  replace F : js_F X y cX3_sketchAt 2 RX3 wsX3_sketchAt 1 12 := F
  show js_W X y 2 _ G 0 [(0, .ref (js_ad y (js_kA t))), (1, .int (nI (i)))] []
  refine js_iload_n (pc := 0) 1 F rfl dX3_sketchAt_0 ?_
  refine js_if_ltN (pc := 1) (a := i) (tgt := 22) F (by omega) dX3_sketchAt_1 (by decide) (fun h1 => by exact absurd h1 (Nat.not_lt_zero _)) (fun h1 => ?_)
  refine js_iload_n (pc := 4) 1 F rfl dX3_sketchAt_4 ?_
  refine js_aload_n (pc := 5) 0 F rfl dX3_sketchAt_5 ?_
  refine jg_A_sketches (pc := 6) F in_X3_sketchAt_3 ht (lk_X3_sketchAt_fieldLink_RX3_17_JoinedSketches_State_sketches_LJoinedSketches_Sketch) dX3_sketchAt_6 ?_
  refine js_alen (pc := 9) (t0 := 3) F (by unfold js_kB; omega) (js_ct_B ht) rfl dX3_sketchAt_9 ?_
  refine js_icmp_geN (pc := 10) (a := i) (b := 6) (tgt := 22) F (by omega) (by decide) dX3_sketchAt_10 (by decide) (fun h10 => by exfalso; omega) (fun h10 => ?_)
  refine js_aload_n (pc := 13) 0 F rfl dX3_sketchAt_13 ?_
  refine jg_A_sketches (pc := 14) F in_X3_sketchAt_3 ht (lk_X3_sketchAt_fieldLink_RX3_17_JoinedSketches_State_sketches_LJoinedSketches_Sketch) dX3_sketchAt_14 ?_
  refine js_iload_n (pc := 17) 1 F rfl dX3_sketchAt_17 ?_
  refine js_aldq (pc := 18) (j := i) (t0 := 3) F (by unfold js_kB; omega) (js_ct_B ht) rfl rfl (by omega) (by decide) dX3_sketchAt_18 ?_
  refine js_goto (pc := 19) (tgt := 23) F dX3_sketchAt_19 (by decide) ?_
  refine js_aret (pc := 23) F hr ?_ dX3_sketchAt_23
  exact ⟨rfl, rfl⟩
set_option maxHeartbeats 4000000 in
set_option maxRecDepth 100000 in
theorem c_X3_sketchAt_neg (la : Launch) {y : js_L} (hy : js_Dy y) {t : Nat} (ht : t < 9) {G : js_G} {x : Int32} (hx : x < 0) : js_Cq la y yX3_sketchAt wsX3_sketchAt 1 12 [.ref (js_ad y (js_kA t)), .int (x)] G (fun r G' => r = none ∧ G = G') := by
  refine js_ofq mf_X3_sketchAt (Nat.le_of_ble_eq_true rfl) hy (fun X F hr => ?_)
  replace F : js_F X y cX3_sketchAt 2 RX3 wsX3_sketchAt 1 12 := F
  show js_W X y 2 _ G 0 [(0, .ref (js_ad y (js_kA t))), (1, .int (x))] []
  refine js_iload_n (pc := 0) 1 F rfl dX3_sketchAt_0 ?_
  refine js_if_lt (pc := 1) (tgt := 22) F dX3_sketchAt_1 (by decide) (fun h1 => ?_) (fun h1 => by exact absurd hx h1)
  refine js_null (pc := 22) F dX3_sketchAt_22 ?_
  refine js_aretN (pc := 23) F hr ?_ dX3_sketchAt_23
  exact ⟨rfl, rfl⟩
set_option maxHeartbeats 4000000 in
set_option maxRecDepth 100000 in
theorem c_X3_sketchAt_big (la : Launch) {y : js_L} (hy : js_Dy y) {t : Nat} (ht : t < 9) {G : js_G} {x : Int32} (hx : nI 6 ≤ x) : js_Cq la y yX3_sketchAt wsX3_sketchAt 1 12 [.ref (js_ad y (js_kA t)), .int (x)] G (fun r G' => r = none ∧ G = G') := by
  have hx0 : ¬ x < 0 := fun q => by have a := Int32.lt_iff_toInt_lt.mp q; have b := Int32.le_iff_toInt_le.mp hx; rw [nI_toInt (by decide)] at b; have c : (0 : Int32).toInt = 0 := rfl; omega
  refine js_ofq mf_X3_sketchAt (Nat.le_of_ble_eq_true rfl) hy (fun X F hr => ?_)
  replace F : js_F X y cX3_sketchAt 2 RX3 wsX3_sketchAt 1 12 := F
  show js_W X y 2 _ G 0 [(0, .ref (js_ad y (js_kA t))), (1, .int (x))] []
  refine js_iload_n (pc := 0) 1 F rfl dX3_sketchAt_0 ?_
  refine js_if_lt (pc := 1) (tgt := 22) F dX3_sketchAt_1 (by decide) (fun h1 => by exact absurd h1 hx0) (fun h1 => ?_)
  refine js_iload_n (pc := 4) 1 F rfl dX3_sketchAt_4 ?_
  refine js_aload_n (pc := 5) 0 F rfl dX3_sketchAt_5 ?_
  refine jg_A_sketches (pc := 6) F in_X3_sketchAt_3 ht (lk_X3_sketchAt_fieldLink_RX3_17_JoinedSketches_State_sketches_LJoinedSketches_Sketch) dX3_sketchAt_6 ?_
  refine js_alen (pc := 9) (t0 := 3) F (by unfold js_kB; omega) (js_ct_B ht) rfl dX3_sketchAt_9 ?_
  refine js_icmp_ge (pc := 10) (tgt := 22) F dX3_sketchAt_10 (by decide) (fun h10 => ?_) (fun h10 => by exact absurd hx h10)
  refine js_null (pc := 22) F dX3_sketchAt_22 ?_
  refine js_aretN (pc := 23) F hr ?_ dX3_sketchAt_23
  exact ⟨rfl, rfl⟩
theorem in_X3_changeSalt_2 : ∀ w ∈ wsX20, w ∈ wsX3_changeSalt := by decide +kernel
theorem in_X3_changeSalt_3 : ∀ w ∈ wsX30, w ∈ wsX3_changeSalt := by decide +kernel
theorem lk_X3_changeSalt_fieldLink_RX3_17_JoinedSketches_State_sketches_LJoinedSketches_Sketch : Cond.fieldLink RX3 17 "JoinedSketches$State" "sketches" "[LJoinedSketches$Sketch;" ∈ wsX3_changeSalt := by decide +kernel
theorem lk_X3_changeSalt_fieldLink_RX3_9_JoinedSketches_State_salt_I : Cond.fieldLink RX3 9 "JoinedSketches$State" "salt" "I" ∈ wsX3_changeSalt := by decide +kernel
theorem mf_X3_changeSalt : js_M yX3_changeSalt cX3_changeSalt 6 none wsX3_changeSalt 1 := ⟨⟨_, rfl⟩, by decide +kernel, by decide +kernel, by decide +kernel, by decide +kernel⟩
set_option maxHeartbeats 4000000 in
set_option maxRecDepth 100000 in
theorem c_X3_changeSalt (la : Launch) {y : js_L} (hy : js_Dy y) {t : Nat} (ht : t < 9) {G : js_G} {s0 : js_T} (hT : jr_T G t s0) {v : Nat} (hv : v < 65536) : js_Cv la y yX3_changeSalt wsX3_changeSalt 3 56 [.ref (js_ad y (js_kA t)), .int (nI (v))] G (fun G' => jr_T G' t (v, fun i => jm_e (s0.2 i)) ∧ js_frT t G G') := by
  obtain ⟨hT1, hT2, hT3⟩ := id hT
  refine js_ofv mf_X3_changeSalt (Nat.le_of_ble_eq_true rfl) hy (fun X F hr => ?_)
  replace F : js_F X y cX3_changeSalt 6 RX3 wsX3_changeSalt 3 56 := F
  show js_W X y 6 _ G 0 [(0, .ref (js_ad y (js_kA t))), (1, .int (nI (v)))] []
  refine js_aload_n (pc := 0) 0 F rfl dX3_changeSalt_0 ?_
  refine js_iload_n (pc := 1) 1 F rfl dX3_changeSalt_1 ?_
  refine jp_A_salt (pc := 2) (v := nI (v)) F in_X3_changeSalt_3 ht (lk_X3_changeSalt_fieldLink_RX3_9_JoinedSketches_State_salt_I) dX3_changeSalt_2 ?_
  refine js_aload_n (pc := 5) 0 F rfl dX3_changeSalt_5 ?_
  refine jg_A_sketches (pc := 6) F in_X3_changeSalt_3 ht (lk_X3_changeSalt_fieldLink_RX3_17_JoinedSketches_State_sketches_LJoinedSketches_Sketch) dX3_changeSalt_6 ?_
  refine js_astore_n (pc := 9) (lv2 := [(0, .ref (js_ad y (js_kA t))), (1, .int (nI (v))), (2, .ref (js_ad y (js_kB t)))]) F dX3_changeSalt_9 (by decide) [1, 2, 0] rfl ?_
  refine js_aload_n (pc := 10) 2 F rfl dX3_changeSalt_10 ?_
  refine js_alen (pc := 11) (t0 := 3) F (by unfold js_kB; omega) (js_ct_B ht) rfl dX3_changeSalt_11 ?_
  refine js_istore_n (pc := 12) (lv2 := [(0, .ref (js_ad y (js_kA t))), (1, .int (nI (v))), (2, .ref (js_ad y (js_kB t))), (3, .int (nI (6)))]) F dX3_changeSalt_12 (by decide) [1, 2, 3, 0] rfl ?_
  refine js_iconst (pc := 13) (v := nI (0)) F (by decide) dX3_changeSalt_13 ?_
  refine js_istore (pc := 14) (lv2 := [(0, .ref (js_ad y (js_kA t))), (1, .int (nI (v))), (2, .ref (js_ad y (js_kB t))), (3, .int (nI (6))), (4, .int (nI (0)))]) F dX3_changeSalt_14 (by decide) [1, 2, 3, 4, 0] rfl ?_
  have L16 : ∀ (fu16 : Nat) (i : Nat) (G1 : js_G) (hi : i ≤ 6) (h0 : G1 (js_kA t) 0 = nI v) (h1 : ∀ k, k < 6 → jr_K G1 (6 * t + k) (if k < i then jm_e (s0.2 k) else s0.2 k)) (h2 : js_frT t G G1) (hfu16 : 6 - i < fu16), js_W X y 6 (js_Qv X y (fun G' => jr_T G' t (v, fun i => jm_e (s0.2 i)) ∧ js_frT t G G')) G1 16 [(0, .ref (js_ad y (js_kA t))), (1, .int (nI (v))), (2, .ref (js_ad y (js_kB t))), (3, .int (nI (6))), (4, .int (nI (i)))] [] := by
    intro fu16
    induction fu16 with
    | zero => intro i G1 hi h0 h1 h2 hfu16; exact absurd hfu16 (Nat.not_lt_zero _)
    | succ fu16 ih16 =>
      intro i G1 hi h0 h1 h2 hfu16
      refine js_iload (pc := 16) 4 F rfl dX3_changeSalt_16 ?_
      refine js_iload_n (pc := 18) 3 F rfl dX3_changeSalt_18 ?_
      refine js_icmp_geN (pc := 19) (a := i) (b := 6) (tgt := 44) F (by omega) (by decide) dX3_changeSalt_19 (by decide) (fun h19 => ?_) (fun h19 => ?_)
      · skip
        refine js_vret (pc := 44) F hr ?_ dX3_changeSalt_44
        exact ⟨⟨h0, hv, fun k hk => by have := h1 k hk; rw [if_pos (by omega)] at this; exact this⟩, h2⟩
      · skip
        have hcur : jr_K G1 (6 * t + i) (s0.2 i) := by have := h1 i (by omega); rwa [if_neg (Nat.lt_irrefl _)] at this
        refine js_aload_n (pc := 22) 2 F rfl dX3_changeSalt_22 ?_
        refine js_iload (pc := 23) 4 F rfl dX3_changeSalt_23 ?_
        refine js_aldq (pc := 25) (j := i) (t0 := 3) F (by unfold js_kB; omega) (js_ct_B ht) rfl rfl (by omega) (by decide) dX3_changeSalt_25 ?_
        refine js_astore (pc := 26) (lv2 := [(0, .ref (js_ad y (js_kA t))), (1, .int (nI (v))), (2, .ref (js_ad y (js_kB t))), (3, .int (nI (6))), (4, .int (nI (i))), (5, .ref (js_ad y (js_kS (6 * (t) + (i)))))]) F dX3_changeSalt_26 (by decide) [1, 2, 3, 4, 5, 0] rfl ?_
        refine js_aload (pc := 28) 5 F rfl dX3_changeSalt_28 ?_
        refine js_aload (pc := 30) 5 F rfl dX3_changeSalt_30 ?_
        refine jgN_3_22 (pc := 32) (v := nI ((s0.2 i).1)) F in_X3_changeSalt_2 (by omega) (hcur.2.2.1) dX3_changeSalt_32 ?_
        refine js_callv (pc := 35) F (c_X2_startAgain _ hy (j := 6 * t + i) (G := G1) (by omega) (B := (s0.2 i).1) hcur.1 hcur.2.1) mf_X2_startAgain gX3_changeSalt_X2_startAgain rfl (by decide) (by unfold js_kS; omega) (js_ct_S (by omega)) rfl rfl rfl (Nat.le_of_ble_eq_true rfl) dX3_changeSalt_35 ?_
        rintro G2 ⟨p1, p2⟩
        refine js_iinc (pc := 38) (v := nI (i + 1)) (lv2 := [(0, .ref (js_ad y (js_kA t))), (1, .int (nI (v))), (2, .ref (js_ad y (js_kB t))), (3, .int (nI (6))), (4, .int (nI (i + 1))), (5, .ref (js_ad y (js_kS (6 * (t) + (i)))))]) F dX3_changeSalt_38 4 rfl (nI_add _ _) (by decide) [1, 2, 3, 4, 0, 5] rfl ?_
        refine js_goto (pc := 41) (tgt := 16) F dX3_changeSalt_41 (by decide) ?_
        refine js_sub (lv2 := [(0, .ref (js_ad y (js_kA t))), (1, .int (nI (v))), (2, .ref (js_ad y (js_kB t))), (3, .int (nI (6))), (4, .int (nI (i + 1)))]) [0, 1, 2, 3, 4] rfl ?_
        exact ih16 (i + 1) G2 (by omega) (by rw [p2.kA (by omega)]; exact h0) (fun k hk => by
        rcases Nat.lt_trichotomy k i with q | q | q
        · rw [if_pos (by omega)]; have := h1 k hk; rw [if_pos q] at this; exact jr_S.fr this p2 (by omega)
        · subst q; rw [if_pos (by omega)]; exact p1
        · rw [if_neg (by omega)]; have := h1 k hk; rw [if_neg (by omega)] at this; exact jr_S.fr this p2 (by omega)) (h2.tr (js_frT.of p2 (by omega) (by omega))) (by omega)
  exact L16 (_ + 1) 0 (js_st G (js_kA t) (0) (nI (v))) (Nat.zero_le _) (by rw [js_st_s]; simp [upd]) (fun k hk => by rw [if_neg (Nat.not_lt_zero _)]; exact (hT3 k hk).co (js_st_n (by unfold js_kS js_kA; omega)) (js_st_n (by unfold js_kR js_kA; omega)) (js_st_n (by unfold js_kT js_kA; omega))) (js_frT.st) (Nat.lt_succ_self _)
theorem in_X3_copyFrom_3 : ∀ w ∈ wsX30, w ∈ wsX3_copyFrom := by decide +kernel
theorem lk_X3_copyFrom_fieldLink_RX3_17_JoinedSketches_State_sketches_LJoinedSketches_Sketch : Cond.fieldLink RX3 17 "JoinedSketches$State" "sketches" "[LJoinedSketches$Sketch;" ∈ wsX3_copyFrom := by decide +kernel
theorem lk_X3_copyFrom_fieldLink_RX3_9_JoinedSketches_State_salt_I : Cond.fieldLink RX3 9 "JoinedSketches$State" "salt" "I" ∈ wsX3_copyFrom := by decide +kernel
theorem mf_X3_copyFrom : js_M yX3_copyFrom cX3_copyFrom 3 none wsX3_copyFrom 1 := ⟨⟨_, rfl⟩, by decide +kernel, by decide +kernel, by decide +kernel, by decide +kernel⟩
set_option maxHeartbeats 4000000 in
set_option maxRecDepth 100000 in
theorem c_X3_copyFrom (la : Launch) {y : js_L} (hy : js_Dy y) {t : Nat} (ht : t < 9) {G : js_G} {u : Nat} (hu : u < 9) (hne : u ≠ t) {s0 : js_T} (hT : jr_T G u s0) : js_Cv la y yX3_copyFrom wsX3_copyFrom 3 79 [.ref (js_ad y (js_kA t)), .ref (js_ad y (js_kA u))] G (fun G' => jr_T G' t s0 ∧ js_frT t G G') := by
  obtain ⟨hT1, hT2, hT3⟩ := id hT
  refine js_ofv mf_X3_copyFrom (Nat.le_of_ble_eq_true rfl) hy (fun X F hr => ?_)
  replace F : js_F X y cX3_copyFrom 3 RX3 wsX3_copyFrom 3 79 := F
  show js_W X y 3 _ G 0 [(0, .ref (js_ad y (js_kA t))), (1, .ref (js_ad y (js_kA u)))] []
  refine js_aload_n (pc := 0) 0 F rfl dX3_copyFrom_0 ?_
  refine js_aload_n (pc := 1) 1 F rfl dX3_copyFrom_1 ?_
  refine jg_A_salt (pc := 2) (v := nI (s0.1)) F in_X3_copyFrom_3 hu (lk_X3_copyFrom_fieldLink_RX3_9_JoinedSketches_State_salt_I) (hT1) dX3_copyFrom_2 ?_
  refine jp_A_salt (pc := 5) (v := nI (s0.1)) F in_X3_copyFrom_3 ht (lk_X3_copyFrom_fieldLink_RX3_9_JoinedSketches_State_salt_I) dX3_copyFrom_5 ?_
  refine js_iconst (pc := 8) (v := nI (0)) F (by decide) dX3_copyFrom_8 ?_
  refine js_istore_n (pc := 9) (lv2 := [(0, .ref (js_ad y (js_kA t))), (1, .ref (js_ad y (js_kA u))), (2, .int (nI (0)))]) F dX3_copyFrom_9 (by decide) [1, 2, 0] rfl ?_
  have L10 : ∀ (fu10 : Nat) (i : Nat) (G1 : js_G) (hi : i ≤ 6) (h0 : G1 (js_kA t) 0 = nI s0.1) (h1 : ∀ k, k < i → jr_K G1 (6 * t + k) (s0.2 k)) (h2 : js_frT t G G1) (hfu10 : 6 - i < fu10), js_W X y 3 (js_Qv X y (fun G' => jr_T G' t s0 ∧ js_frT t G G')) G1 10 [(0, .ref (js_ad y (js_kA t))), (1, .ref (js_ad y (js_kA u))), (2, .int (nI (i)))] [] := by
    intro fu10
    induction fu10 with
    | zero => intro i G1 hi h0 h1 h2 hfu10; exact absurd hfu10 (Nat.not_lt_zero _)
    | succ fu10 ih10 =>
      intro i G1 hi h0 h1 h2 hfu10
      refine js_iload_n (pc := 10) 2 F rfl dX3_copyFrom_10 ?_
      refine js_bipush (pc := 11) (v := nI (6)) F (by decide) dX3_copyFrom_11 ?_
      refine js_icmp_geN (pc := 13) (a := i) (b := 6) (tgt := 37) F (by omega) (by decide) dX3_copyFrom_13 (by decide) (fun h13 => ?_) (fun h13 => ?_)
      · skip
        refine js_vret (pc := 37) F hr ?_ dX3_copyFrom_37
        exact ⟨⟨h0, hT2, fun k hk => h1 k (by omega)⟩, h2⟩
      · skip
        refine js_aload_n (pc := 16) 0 F rfl dX3_copyFrom_16 ?_
        refine jg_A_sketches (pc := 17) F in_X3_copyFrom_3 ht (lk_X3_copyFrom_fieldLink_RX3_17_JoinedSketches_State_sketches_LJoinedSketches_Sketch) dX3_copyFrom_17 ?_
        refine js_iload_n (pc := 20) 2 F rfl dX3_copyFrom_20 ?_
        refine js_aldq (pc := 21) (j := i) (t0 := 3) F (by unfold js_kB; omega) (js_ct_B ht) rfl rfl (by omega) (by decide) dX3_copyFrom_21 ?_
        refine js_aload_n (pc := 22) 1 F rfl dX3_copyFrom_22 ?_
        refine jg_A_sketches (pc := 23) F in_X3_copyFrom_3 hu (lk_X3_copyFrom_fieldLink_RX3_17_JoinedSketches_State_sketches_LJoinedSketches_Sketch) dX3_copyFrom_23 ?_
        refine js_iload_n (pc := 26) 2 F rfl dX3_copyFrom_26 ?_
        refine js_aldq (pc := 27) (j := i) (t0 := 3) F (by unfold js_kB; omega) (js_ct_B hu) rfl rfl (by omega) (by decide) dX3_copyFrom_27 ?_
        refine js_callv (pc := 28) F (c_X2_copyFrom _ hy (j := 6 * t + i) (G := G1) (by omega) (j2 := 6 * u + i) (by omega) (by omega) ((hT3 i (by omega)).frT h2 (by omega) ht (by omega))) mf_X2_copyFrom gX3_copyFrom_X2_copyFrom rfl (by decide) (by unfold js_kS; omega) (js_ct_S (by omega)) rfl rfl rfl (Nat.le_of_ble_eq_true rfl) dX3_copyFrom_28 ?_
        rintro G2 ⟨p1, p2⟩
        refine js_iinc (pc := 31) (v := nI (i + 1)) (lv2 := [(0, .ref (js_ad y (js_kA t))), (1, .ref (js_ad y (js_kA u))), (2, .int (nI (i + 1)))]) F dX3_copyFrom_31 2 rfl (nI_add _ _) (by decide) [1, 2, 0] rfl ?_
        refine js_goto (pc := 34) (tgt := 10) F dX3_copyFrom_34 (by decide) ?_
        exact ih10 (i + 1) G2 (by omega) (by rw [p2.kA (by omega)]; exact h0) (fun k hk => by
        rcases Nat.lt_or_ge k i with q | q
        · exact jr_S.fr (h1 k q) p2 (by omega)
        · rw [show k = i by omega]; exact p1) (h2.tr (js_frT.of p2 (by omega) (by omega))) (by omega)
  exact L10 (_ + 1) 0 (js_st G (js_kA t) (0) (nI (s0.1))) (Nat.zero_le _) (by rw [js_st_s]; simp [upd]) (fun k hk => absurd hk (Nat.not_lt_zero _)) (js_frT.st) (Nat.lt_succ_self _)
theorem in_X3_filledBuckets_3 : ∀ w ∈ wsX30, w ∈ wsX3_filledBuckets := by decide +kernel
theorem lk_X3_filledBuckets_fieldLink_RX3_17_JoinedSketches_State_sketches_LJoinedSketches_Sketch : Cond.fieldLink RX3 17 "JoinedSketches$State" "sketches" "[LJoinedSketches$Sketch;" ∈ wsX3_filledBuckets := by decide +kernel
theorem mf_X3_filledBuckets : js_M yX3_filledBuckets cX3_filledBuckets 6 (some .int) wsX3_filledBuckets 0 := ⟨⟨_, rfl⟩, by decide +kernel, by decide +kernel, by decide +kernel, by decide +kernel⟩
set_option maxHeartbeats 4000000 in
set_option maxRecDepth 100000 in
theorem c_X3_filledBuckets (la : Launch) {y : js_L} (hy : js_Dy y) {t : Nat} (ht : t < 9) {G : js_G} {s0 : js_T} (hT : jr_T G t s0) : js_Ci la y yX3_filledBuckets wsX3_filledBuckets 4 76 [.ref (js_ad y (js_kA t))] G (fun r G' => r = nI (jm_sum (fun i => jm_fil (s0.2 i).2.1 (2 ^ (s0.2 i).1)) 6) ∧ G = G') := by
  obtain ⟨hT1, hT2, hT3⟩ := id hT
  refine js_ofi mf_X3_filledBuckets (Nat.le_of_ble_eq_true rfl) hy (fun X F hr => ?_)
  replace F : js_F X y cX3_filledBuckets 6 RX3 wsX3_filledBuckets 4 76 := F
  show js_W X y 6 _ G 0 [(0, .ref (js_ad y (js_kA t)))] []
  refine js_iconst (pc := 0) (v := nI (0)) F (by decide) dX3_filledBuckets_0 ?_
  refine js_istore_n (pc := 1) (lv2 := [(0, .ref (js_ad y (js_kA t))), (1, .int (nI (0)))]) F dX3_filledBuckets_1 (by decide) [1, 0] rfl ?_
  refine js_aload_n (pc := 2) 0 F rfl dX3_filledBuckets_2 ?_
  refine jg_A_sketches (pc := 3) F in_X3_filledBuckets_3 ht (lk_X3_filledBuckets_fieldLink_RX3_17_JoinedSketches_State_sketches_LJoinedSketches_Sketch) dX3_filledBuckets_3 ?_
  refine js_astore_n (pc := 6) (lv2 := [(0, .ref (js_ad y (js_kA t))), (1, .int (nI (0))), (2, .ref (js_ad y (js_kB t)))]) F dX3_filledBuckets_6 (by decide) [1, 2, 0] rfl ?_
  refine js_aload_n (pc := 7) 2 F rfl dX3_filledBuckets_7 ?_
  refine js_alen (pc := 8) (t0 := 3) F (by unfold js_kB; omega) (js_ct_B ht) rfl dX3_filledBuckets_8 ?_
  refine js_istore_n (pc := 9) (lv2 := [(0, .ref (js_ad y (js_kA t))), (1, .int (nI (0))), (2, .ref (js_ad y (js_kB t))), (3, .int (nI (6)))]) F dX3_filledBuckets_9 (by decide) [1, 2, 3, 0] rfl ?_
  refine js_iconst (pc := 10) (v := nI (0)) F (by decide) dX3_filledBuckets_10 ?_
  refine js_istore (pc := 11) (lv2 := [(0, .ref (js_ad y (js_kA t))), (1, .int (nI (0))), (2, .ref (js_ad y (js_kB t))), (3, .int (nI (6))), (4, .int (nI (0)))]) F dX3_filledBuckets_11 (by decide) [1, 2, 3, 4, 0] rfl ?_
  have L13 : ∀ (fu13 : Nat) (i : Nat) (a : Nat) (hi : i ≤ 6) (ha : a = jm_sum (fun i => jm_fil (s0.2 i).2.1 (2 ^ (s0.2 i).1)) i) (hfu13 : 6 - i < fu13), js_W X y 6 (js_Qi X y (fun r G' => r = nI (jm_sum (fun i => jm_fil (s0.2 i).2.1 (2 ^ (s0.2 i).1)) 6) ∧ G = G')) G 13 [(0, .ref (js_ad y (js_kA t))), (1, .int (nI (a))), (2, .ref (js_ad y (js_kB t))), (3, .int (nI (6))), (4, .int (nI (i)))] [] := by
    intro fu13
    induction fu13 with
    | zero => intro i a hi ha hfu13; exact absurd hfu13 (Nat.not_lt_zero _)
    | succ fu13 ih13 =>
      intro i a hi ha hfu13
      refine js_iload (pc := 13) 4 F rfl dX3_filledBuckets_13 ?_
      refine js_iload_n (pc := 15) 3 F rfl dX3_filledBuckets_15 ?_
      refine js_icmp_geN (pc := 16) (a := i) (b := 6) (tgt := 39) F (by omega) (by decide) dX3_filledBuckets_16 (by decide) (fun h16 => ?_) (fun h16 => ?_)
      · skip
        refine js_iload_n (pc := 39) 1 F rfl dX3_filledBuckets_39 ?_
        refine js_iret (pc := 40) F hr (rfl) ?_ dX3_filledBuckets_40
        exact ⟨by rw [ha, show i = 6 by omega], rfl⟩
      · skip
        have hfl := jm_fil_le (s0.2 i).2.1 (2 ^ (s0.2 i).1); have hp := jm_p6 (hT3 i (by omega)).2.1
        refine js_aload_n (pc := 19) 2 F rfl dX3_filledBuckets_19 ?_
        refine js_iload (pc := 20) 4 F rfl dX3_filledBuckets_20 ?_
        refine js_aldq (pc := 22) (j := i) (t0 := 3) F (by unfold js_kB; omega) (js_ct_B ht) rfl rfl (by omega) (by decide) dX3_filledBuckets_22 ?_
        refine js_astore (pc := 23) (lv2 := [(0, .ref (js_ad y (js_kA t))), (1, .int (nI (a))), (2, .ref (js_ad y (js_kB t))), (3, .int (nI (6))), (4, .int (nI (i))), (5, .ref (js_ad y (js_kS (6 * (t) + (i)))))]) F dX3_filledBuckets_23 (by decide) [1, 2, 3, 4, 5, 0] rfl ?_
        refine js_iload_n (pc := 25) 1 F rfl dX3_filledBuckets_25 ?_
        refine js_aload (pc := 26) 5 F rfl dX3_filledBuckets_26 ?_
        refine js_calli (pc := 28) F (c_X2_filledBuckets _ hy (by omega) (G := G) (B := (s0.2 i).1) ((hT3 i (by omega)).2.2.1) ((hT3 i (by omega)).2.1) (rk := (s0.2 i).2.1) ((hT3 i (by omega)).2.2.2.1) (fun b hb => Nat.le_trans ((hT3 i (by omega)).2.2.2.2.1 b hb) (by have := (hT3 i (by omega)).1; omega))) mf_X2_filledBuckets gX3_filledBuckets_X2_filledBuckets rfl (by decide) (by unfold js_kS; omega) (js_ct_S (by omega)) rfl rfl rfl (Nat.le_of_ble_eq_true rfl) dX3_filledBuckets_28 ?_
        rintro _ _ ⟨rfl, rfl⟩
        refine js_iaddN (pc := 31) (a := a) (b := jm_fil (s0.2 i).2.1 (2 ^ ((s0.2 i).1))) F dX3_filledBuckets_31 ?_
        refine js_istore_n (pc := 32) (lv2 := [(0, .ref (js_ad y (js_kA t))), (1, .int (nI (a + (jm_fil (s0.2 i).2.1 (2 ^ ((s0.2 i).1)))))), (2, .ref (js_ad y (js_kB t))), (3, .int (nI (6))), (4, .int (nI (i))), (5, .ref (js_ad y (js_kS (6 * (t) + (i)))))]) F dX3_filledBuckets_32 (by decide) [1, 0, 2, 3, 4, 5] rfl ?_
        refine js_iinc (pc := 33) (v := nI (i + 1)) (lv2 := [(0, .ref (js_ad y (js_kA t))), (1, .int (nI (a + (jm_fil (s0.2 i).2.1 (2 ^ ((s0.2 i).1)))))), (2, .ref (js_ad y (js_kB t))), (3, .int (nI (6))), (4, .int (nI (i + 1))), (5, .ref (js_ad y (js_kS (6 * (t) + (i)))))]) F dX3_filledBuckets_33 4 rfl (nI_add _ _) (by decide) [1, 2, 3, 4, 0, 5] rfl ?_
        refine js_goto (pc := 36) (tgt := 13) F dX3_filledBuckets_36 (by decide) ?_
        refine js_sub (lv2 := [(0, .ref (js_ad y (js_kA t))), (1, .int (nI (a + (jm_fil (s0.2 i).2.1 (2 ^ ((s0.2 i).1)))))), (2, .ref (js_ad y (js_kB t))), (3, .int (nI (6))), (4, .int (nI (i + 1)))]) [0, 1, 2, 3, 4] rfl ?_
        exact ih13 (i + 1) (a + (jm_fil (s0.2 i).2.1 (2 ^ ((s0.2 i).1)))) (by omega) (by simp only [jm_sum]; rw [← ha]) (by omega)
  exact L13 (_ + 1) 0 0 (Nat.zero_le _) (rfl) (Nat.lt_succ_self _)
theorem in_X3_filledSketches_3 : ∀ w ∈ wsX30, w ∈ wsX3_filledSketches := by decide +kernel
theorem lk_X3_filledSketches_fieldLink_RX3_17_JoinedSketches_State_sketches_LJoinedSketches_Sketch : Cond.fieldLink RX3 17 "JoinedSketches$State" "sketches" "[LJoinedSketches$Sketch;" ∈ wsX3_filledSketches := by decide +kernel
theorem mf_X3_filledSketches : js_M yX3_filledSketches cX3_filledSketches 6 (some .int) wsX3_filledSketches 0 := ⟨⟨_, rfl⟩, by decide +kernel, by decide +kernel, by decide +kernel, by decide +kernel⟩
set_option maxHeartbeats 4000000 in
set_option maxRecDepth 100000 in
theorem c_X3_filledSketches (la : Launch) {y : js_L} (hy : js_Dy y) {t : Nat} (ht : t < 9) {G : js_G} {s0 : js_T} (hT : jr_T G t s0) : js_Ci la y yX3_filledSketches wsX3_filledSketches 4 76 [.ref (js_ad y (js_kA t))] G (fun r G' => r = nI (jm_sum (fun i => if 0 < jm_fil (s0.2 i).2.1 (2 ^ (s0.2 i).1) then 1 else 0) 6) ∧ G = G') := by
  obtain ⟨hT1, hT2, hT3⟩ := id hT
  refine js_ofi mf_X3_filledSketches (Nat.le_of_ble_eq_true rfl) hy (fun X F hr => ?_)
  replace F : js_F X y cX3_filledSketches 6 RX3 wsX3_filledSketches 4 76 := F
  show js_W X y 6 _ G 0 [(0, .ref (js_ad y (js_kA t)))] []
  refine js_iconst (pc := 0) (v := nI (0)) F (by decide) dX3_filledSketches_0 ?_
  refine js_istore_n (pc := 1) (lv2 := [(0, .ref (js_ad y (js_kA t))), (1, .int (nI (0)))]) F dX3_filledSketches_1 (by decide) [1, 0] rfl ?_
  refine js_aload_n (pc := 2) 0 F rfl dX3_filledSketches_2 ?_
  refine jg_A_sketches (pc := 3) F in_X3_filledSketches_3 ht (lk_X3_filledSketches_fieldLink_RX3_17_JoinedSketches_State_sketches_LJoinedSketches_Sketch) dX3_filledSketches_3 ?_
  refine js_astore_n (pc := 6) (lv2 := [(0, .ref (js_ad y (js_kA t))), (1, .int (nI (0))), (2, .ref (js_ad y (js_kB t)))]) F dX3_filledSketches_6 (by decide) [1, 2, 0] rfl ?_
  refine js_aload_n (pc := 7) 2 F rfl dX3_filledSketches_7 ?_
  refine js_alen (pc := 8) (t0 := 3) F (by unfold js_kB; omega) (js_ct_B ht) rfl dX3_filledSketches_8 ?_
  refine js_istore_n (pc := 9) (lv2 := [(0, .ref (js_ad y (js_kA t))), (1, .int (nI (0))), (2, .ref (js_ad y (js_kB t))), (3, .int (nI (6)))]) F dX3_filledSketches_9 (by decide) [1, 2, 3, 0] rfl ?_
  refine js_iconst (pc := 10) (v := nI (0)) F (by decide) dX3_filledSketches_10 ?_
  refine js_istore (pc := 11) (lv2 := [(0, .ref (js_ad y (js_kA t))), (1, .int (nI (0))), (2, .ref (js_ad y (js_kB t))), (3, .int (nI (6))), (4, .int (nI (0)))]) F dX3_filledSketches_11 (by decide) [1, 2, 3, 4, 0] rfl ?_
  have L13 : ∀ (fu13 : Nat) (i : Nat) (a : Nat) (hi : i ≤ 6) (ha : a = jm_sum (fun i => if 0 < jm_fil (s0.2 i).2.1 (2 ^ (s0.2 i).1) then 1 else 0) i) (hfu13 : 6 - i < fu13), js_W X y 6 (js_Qi X y (fun r G' => r = nI (jm_sum (fun i => if 0 < jm_fil (s0.2 i).2.1 (2 ^ (s0.2 i).1) then 1 else 0) 6) ∧ G = G')) G 13 [(0, .ref (js_ad y (js_kA t))), (1, .int (nI (a))), (2, .ref (js_ad y (js_kB t))), (3, .int (nI (6))), (4, .int (nI (i)))] [] := by
    intro fu13
    induction fu13 with
    | zero => intro i a hi ha hfu13; exact absurd hfu13 (Nat.not_lt_zero _)
    | succ fu13 ih13 =>
      intro i a hi ha hfu13
      refine js_iload (pc := 13) 4 F rfl dX3_filledSketches_13 ?_
      refine js_iload_n (pc := 15) 3 F rfl dX3_filledSketches_15 ?_
      refine js_icmp_geN (pc := 16) (a := i) (b := 6) (tgt := 42) F (by omega) (by decide) dX3_filledSketches_16 (by decide) (fun h16 => ?_) (fun h16 => ?_)
      · skip
        refine js_iload_n (pc := 42) 1 F rfl dX3_filledSketches_42 ?_
        refine js_iret (pc := 43) F hr (rfl) ?_ dX3_filledSketches_43
        exact ⟨by rw [ha, show i = 6 by omega], rfl⟩
      · skip
        have hfl := jm_fil_le (s0.2 i).2.1 (2 ^ (s0.2 i).1); have hp := jm_p6 (hT3 i (by omega)).2.1
        refine js_aload_n (pc := 19) 2 F rfl dX3_filledSketches_19 ?_
        refine js_iload (pc := 20) 4 F rfl dX3_filledSketches_20 ?_
        refine js_aldq (pc := 22) (j := i) (t0 := 3) F (by unfold js_kB; omega) (js_ct_B ht) rfl rfl (by omega) (by decide) dX3_filledSketches_22 ?_
        refine js_astore (pc := 23) (lv2 := [(0, .ref (js_ad y (js_kA t))), (1, .int (nI (a))), (2, .ref (js_ad y (js_kB t))), (3, .int (nI (6))), (4, .int (nI (i))), (5, .ref (js_ad y (js_kS (6 * (t) + (i)))))]) F dX3_filledSketches_23 (by decide) [1, 2, 3, 4, 5, 0] rfl ?_
        refine js_aload (pc := 25) 5 F rfl dX3_filledSketches_25 ?_
        refine js_calli (pc := 27) F (c_X2_filledBuckets _ hy (by omega) (G := G) (B := (s0.2 i).1) ((hT3 i (by omega)).2.2.1) ((hT3 i (by omega)).2.1) (rk := (s0.2 i).2.1) ((hT3 i (by omega)).2.2.2.1) (fun b hb => Nat.le_trans ((hT3 i (by omega)).2.2.2.2.1 b hb) (by have := (hT3 i (by omega)).1; omega))) mf_X2_filledBuckets gX3_filledSketches_X2_filledBuckets rfl (by decide) (by unfold js_kS; omega) (js_ct_S (by omega)) rfl rfl rfl (Nat.le_of_ble_eq_true rfl) dX3_filledSketches_27 ?_
        rintro _ _ ⟨rfl, rfl⟩
        refine js_if_leN (pc := 30) (a := jm_fil (s0.2 i).2.1 (2 ^ ((s0.2 i).1))) (tgt := 36) F (by omega) dX3_filledSketches_30 (by decide) (fun h30 => ?_) (fun h30 => ?_)
        · skip
          refine js_iinc (pc := 36) (v := nI (i + 1)) (lv2 := [(0, .ref (js_ad y (js_kA t))), (1, .int (nI (a))), (2, .ref (js_ad y (js_kB t))), (3, .int (nI (6))), (4, .int (nI (i + 1))), (5, .ref (js_ad y (js_kS (6 * (t) + (i)))))]) F dX3_filledSketches_36 4 rfl (nI_add _ _) (by decide) [1, 2, 3, 4, 0, 5] rfl ?_
          refine js_goto (pc := 39) (tgt := 13) F dX3_filledSketches_39 (by decide) ?_
          refine js_sub (lv2 := [(0, .ref (js_ad y (js_kA t))), (1, .int (nI (a))), (2, .ref (js_ad y (js_kB t))), (3, .int (nI (6))), (4, .int (nI (i + 1)))]) [0, 1, 2, 3, 4] rfl ?_
          exact ih13 (i + 1) a (by omega) (by simp only [jm_sum]; rw [← ha]; split <;> omega) (by omega)
        · skip
          refine js_iinc (pc := 33) (v := nI (a + 1)) (lv2 := [(0, .ref (js_ad y (js_kA t))), (1, .int (nI (a + 1))), (2, .ref (js_ad y (js_kB t))), (3, .int (nI (6))), (4, .int (nI (i))), (5, .ref (js_ad y (js_kS (6 * (t) + (i)))))]) F dX3_filledSketches_33 1 rfl (nI_add _ _) (by decide) [1, 0, 2, 3, 4, 5] rfl ?_
          refine js_iinc (pc := 36) (v := nI (i + 1)) (lv2 := [(0, .ref (js_ad y (js_kA t))), (1, .int (nI (a + 1))), (2, .ref (js_ad y (js_kB t))), (3, .int (nI (6))), (4, .int (nI (i + 1))), (5, .ref (js_ad y (js_kS (6 * (t) + (i)))))]) F dX3_filledSketches_36 4 rfl (nI_add _ _) (by decide) [1, 2, 3, 4, 0, 5] rfl ?_
          refine js_goto (pc := 39) (tgt := 13) F dX3_filledSketches_39 (by decide) ?_
          refine js_sub (lv2 := [(0, .ref (js_ad y (js_kA t))), (1, .int (nI (a + 1))), (2, .ref (js_ad y (js_kB t))), (3, .int (nI (6))), (4, .int (nI (i + 1)))]) [0, 1, 2, 3, 4] rfl ?_
          exact ih13 (i + 1) (a + 1) (by omega) (by simp only [jm_sum]; rw [← ha]; split <;> omega) (by omega)
  exact L13 (_ + 1) 0 0 (Nat.zero_le _) (rfl) (Nat.lt_succ_self _)
theorem in_X3_fullLists_2 : ∀ w ∈ wsX20, w ∈ wsX3_fullLists := by decide +kernel
theorem in_X3_fullLists_3 : ∀ w ∈ wsX30, w ∈ wsX3_fullLists := by decide +kernel
theorem lk_X3_fullLists_fieldLink_RX3_17_JoinedSketches_State_sketches_LJoinedSketches_Sketch : Cond.fieldLink RX3 17 "JoinedSketches$State" "sketches" "[LJoinedSketches$Sketch;" ∈ wsX3_fullLists := by decide +kernel
theorem mf_X3_fullLists : js_M yX3_fullLists cX3_fullLists 6 (some .int) wsX3_fullLists 0 := ⟨⟨_, rfl⟩, by decide +kernel, by decide +kernel, by decide +kernel, by decide +kernel⟩
set_option maxHeartbeats 4000000 in
set_option maxRecDepth 100000 in
theorem c_X3_fullLists (la : Launch) {y : js_L} (hy : js_Dy y) {t : Nat} (ht : t < 9) {G : js_G} {s0 : js_T} (hT : jr_T G t s0) : js_Ci la y yX3_fullLists wsX3_fullLists 1 12 [.ref (js_ad y (js_kA t))] G (fun r G' => r = nI (jm_sum (fun i => if (s0.2 i).2.2 = none then 1 else 0) 6) ∧ G = G') := by
  obtain ⟨hT1, hT2, hT3⟩ := id hT
  refine js_ofi mf_X3_fullLists (Nat.le_of_ble_eq_true rfl) hy (fun X F hr => ?_)
  replace F : js_F X y cX3_fullLists 6 RX3 wsX3_fullLists 1 12 := F
  show js_W X y 6 _ G 0 [(0, .ref (js_ad y (js_kA t)))] []
  refine js_iconst (pc := 0) (v := nI (0)) F (by decide) dX3_fullLists_0 ?_
  refine js_istore_n (pc := 1) (lv2 := [(0, .ref (js_ad y (js_kA t))), (1, .int (nI (0)))]) F dX3_fullLists_1 (by decide) [1, 0] rfl ?_
  refine js_aload_n (pc := 2) 0 F rfl dX3_fullLists_2 ?_
  refine jg_A_sketches (pc := 3) F in_X3_fullLists_3 ht (lk_X3_fullLists_fieldLink_RX3_17_JoinedSketches_State_sketches_LJoinedSketches_Sketch) dX3_fullLists_3 ?_
  refine js_astore_n (pc := 6) (lv2 := [(0, .ref (js_ad y (js_kA t))), (1, .int (nI (0))), (2, .ref (js_ad y (js_kB t)))]) F dX3_fullLists_6 (by decide) [1, 2, 0] rfl ?_
  refine js_aload_n (pc := 7) 2 F rfl dX3_fullLists_7 ?_
  refine js_alen (pc := 8) (t0 := 3) F (by unfold js_kB; omega) (js_ct_B ht) rfl dX3_fullLists_8 ?_
  refine js_istore_n (pc := 9) (lv2 := [(0, .ref (js_ad y (js_kA t))), (1, .int (nI (0))), (2, .ref (js_ad y (js_kB t))), (3, .int (nI (6)))]) F dX3_fullLists_9 (by decide) [1, 2, 3, 0] rfl ?_
  refine js_iconst (pc := 10) (v := nI (0)) F (by decide) dX3_fullLists_10 ?_
  refine js_istore (pc := 11) (lv2 := [(0, .ref (js_ad y (js_kA t))), (1, .int (nI (0))), (2, .ref (js_ad y (js_kB t))), (3, .int (nI (6))), (4, .int (nI (0)))]) F dX3_fullLists_11 (by decide) [1, 2, 3, 4, 0] rfl ?_
  have L13 : ∀ (fu13 : Nat) (i : Nat) (a : Nat) (hi : i ≤ 6) (ha : a = jm_sum (fun i => if (s0.2 i).2.2 = none then 1 else 0) i) (hfu13 : 6 - i < fu13), js_W X y 6 (js_Qi X y (fun r G' => r = nI (jm_sum (fun i => if (s0.2 i).2.2 = none then 1 else 0) 6) ∧ G = G')) G 13 [(0, .ref (js_ad y (js_kA t))), (1, .int (nI (a))), (2, .ref (js_ad y (js_kB t))), (3, .int (nI (6))), (4, .int (nI (i)))] [] := by
    intro fu13
    induction fu13 with
    | zero => intro i a hi ha hfu13; exact absurd hfu13 (Nat.not_lt_zero _)
    | succ fu13 ih13 =>
      intro i a hi ha hfu13
      refine js_iload (pc := 13) 4 F rfl dX3_fullLists_13 ?_
      refine js_iload_n (pc := 15) 3 F rfl dX3_fullLists_15 ?_
      refine js_icmp_geN (pc := 16) (a := i) (b := 6) (tgt := 42) F (by omega) (by decide) dX3_fullLists_16 (by decide) (fun h16 => ?_) (fun h16 => ?_)
      · skip
        refine js_iload_n (pc := 42) 1 F rfl dX3_fullLists_42 ?_
        refine js_iret (pc := 43) F hr (rfl) ?_ dX3_fullLists_43
        exact ⟨by rw [ha, show i = 6 by omega], rfl⟩
      · skip
        obtain ⟨f4, hf4, e0, e1, e2⟩ : ∃ f, G (js_kS (6 * t + i)) 4 = nI f ∧ f < 2 ∧ ((s0.2 i).2.2 = none → f = 1) ∧ (¬ (s0.2 i).2.2 = none → f = 0) := by
          have hL := (hT3 i (by omega)).2.2.2.2.2
          cases hq : (s0.2 i).2.2 with
          | none => rw [hq] at hL; exact ⟨1, hL.2, by decide, fun _ => rfl, fun q => absurd rfl q⟩
          | some l => rw [hq] at hL; exact ⟨0, hL.2.1, by decide, fun q => (by cases q), fun _ => rfl⟩
        refine js_aload_n (pc := 19) 2 F rfl dX3_fullLists_19 ?_
        refine js_iload (pc := 20) 4 F rfl dX3_fullLists_20 ?_
        refine js_aldq (pc := 22) (j := i) (t0 := 3) F (by unfold js_kB; omega) (js_ct_B ht) rfl rfl (by omega) (by decide) dX3_fullLists_22 ?_
        refine js_astore (pc := 23) (lv2 := [(0, .ref (js_ad y (js_kA t))), (1, .int (nI (a))), (2, .ref (js_ad y (js_kB t))), (3, .int (nI (6))), (4, .int (nI (i))), (5, .ref (js_ad y (js_kS (6 * (t) + (i)))))]) F dX3_fullLists_23 (by decide) [1, 2, 3, 4, 5, 0] rfl ?_
        refine js_aload (pc := 25) 5 F rfl dX3_fullLists_25 ?_
        refine jgN_3_37 (pc := 27) (v := nI (f4)) F in_X3_fullLists_2 (by omega) (hf4) dX3_fullLists_27 ?_
        refine js_if_eqN (pc := 30) (a := f4) (tgt := 36) F (by omega) dX3_fullLists_30 (by decide) (fun h30 => ?_) (fun h30 => ?_)
        · skip
          refine js_iinc (pc := 36) (v := nI (i + 1)) (lv2 := [(0, .ref (js_ad y (js_kA t))), (1, .int (nI (a))), (2, .ref (js_ad y (js_kB t))), (3, .int (nI (6))), (4, .int (nI (i + 1))), (5, .ref (js_ad y (js_kS (6 * (t) + (i)))))]) F dX3_fullLists_36 4 rfl (nI_add _ _) (by decide) [1, 2, 3, 4, 0, 5] rfl ?_
          refine js_goto (pc := 39) (tgt := 13) F dX3_fullLists_39 (by decide) ?_
          refine js_sub (lv2 := [(0, .ref (js_ad y (js_kA t))), (1, .int (nI (a))), (2, .ref (js_ad y (js_kB t))), (3, .int (nI (6))), (4, .int (nI (i + 1)))]) [0, 1, 2, 3, 4] rfl ?_
          exact ih13 (i + 1) a (by omega) (by simp only [jm_sum]; rw [← ha]; split <;> (rename_i q; first | omega | (have := e1 q; omega) | (have := e2 q; omega))) (by omega)
        · skip
          refine js_iinc (pc := 33) (v := nI (a + 1)) (lv2 := [(0, .ref (js_ad y (js_kA t))), (1, .int (nI (a + 1))), (2, .ref (js_ad y (js_kB t))), (3, .int (nI (6))), (4, .int (nI (i))), (5, .ref (js_ad y (js_kS (6 * (t) + (i)))))]) F dX3_fullLists_33 1 rfl (nI_add _ _) (by decide) [1, 0, 2, 3, 4, 5] rfl ?_
          refine js_iinc (pc := 36) (v := nI (i + 1)) (lv2 := [(0, .ref (js_ad y (js_kA t))), (1, .int (nI (a + 1))), (2, .ref (js_ad y (js_kB t))), (3, .int (nI (6))), (4, .int (nI (i + 1))), (5, .ref (js_ad y (js_kS (6 * (t) + (i)))))]) F dX3_fullLists_36 4 rfl (nI_add _ _) (by decide) [1, 2, 3, 4, 0, 5] rfl ?_
          refine js_goto (pc := 39) (tgt := 13) F dX3_fullLists_39 (by decide) ?_
          refine js_sub (lv2 := [(0, .ref (js_ad y (js_kA t))), (1, .int (nI (a + 1))), (2, .ref (js_ad y (js_kB t))), (3, .int (nI (6))), (4, .int (nI (i + 1)))]) [0, 1, 2, 3, 4] rfl ?_
          exact ih13 (i + 1) (a + 1) (by omega) (by simp only [jm_sum]; rw [← ha]; split <;> (rename_i q; first | omega | (have := e1 q; omega) | (have := e2 q; omega))) (by omega)
  exact L13 (_ + 1) 0 0 (Nat.zero_le _) (rfl) (Nat.lt_succ_self _)
