theorem jc_many_z {n f m : Nat} (h : n / 2 ^ (8 * m) = 0) : jc_many n f m = m := by
  cases f with
  | zero => rfl
  | succ f => unfold jc_many; rw [if_pos h]
theorem jc_many_bad {n f m : Nat} (h : ¬ n / 2 ^ (8 * m) = 0) (h2 : jc n m < 33 ∨ 126 < jc n m) : jc_many n (f + 1) m = 0 := by unfold jc_many; rw [if_neg h, if_pos h2]
theorem jc_many_go {n f m : Nat} (h : ¬ n / 2 ^ (8 * m) = 0) (h2 : ¬ (jc n m < 33 ∨ 126 < jc n m)) : jc_many n (f + 1) m = jc_many n f (m + 1) := by rw [jc_many, if_neg h, if_neg h2]
theorem jx_neg : ∀ l, l < 82 → ((nI l - nI 1 < 0) ↔ l = 0) := by decide +kernel
theorem jx_dec {l : Nat} {x : Int32} (hl : 0 < l) (hx : x = nI l - nI 1) : x + -1 = nI (l - 1) - nI 1 := by
  rw [hx, pk_sub (show 1 ≤ l by omega), Int32.sub_eq_add_neg]; rfl
theorem js_if_ltM {X : js_X} {y : js_L} {cc : ByteArray} {nL fr lo : Nat} {own : String} {Ts : List Cond} {Q : State → Prop} {G : js_G} {pc : Nat} {lv : List (Nat × Value)} {st : List Value} {l : Nat} {x : Int32} {off : Int} {tgt : Nat} (F : js_F X y cc nL own Ts fr lo) (hx : x = nI l - nI 1) (hl : l < 82) (hd : decode cc pc = .ok (.ifCond .lt off, 3)) (ht : (pc : Int) + off = (tgt : Int))
    (kt : l = 0 → js_W X y nL Q G tgt lv st) (kf : 0 < l → js_W X y nL Q G (pc + 3) lv st) : js_W X y nL Q G pc lv (.int x :: st) := js_if_lt F hd ht (fun h => kt ((jx_neg l hl).mp (hx ▸ h))) (fun h => kf (Nat.pos_of_ne_zero (fun q => h (hx ▸ (jx_neg l hl).mpr q))))
theorem lk_X4_charactersIn_constantLong_RX4_193_255 : Cond.constantLong RX4 193 (255) ∈ wsX4_charactersIn := by decide +kernel
theorem mf_X4_charactersIn : js_M yX4_charactersIn cX4_charactersIn 7 (some .int) wsX4_charactersIn 1 := ⟨⟨_, rfl⟩, by decide +kernel, by decide +kernel, by decide +kernel, by decide +kernel⟩
set_option maxHeartbeats 4000000 in
set_option maxRecDepth 100000 in
theorem c_X4_charactersIn (la : Launch) {y : js_L} (hy : js_Dy y) {G : js_G} {n : Nat} (hn : n < 2 ^ 64) : js_Ci la y yX4_charactersIn wsX4_charactersIn 1 12 [.long (lN (n))] G (fun r G' => r = nI (jc_many n 8 0) ∧ G = G') := by
  refine js_ofi mf_X4_charactersIn (Nat.le_of_ble_eq_true rfl) hy (fun X F hr => ?_)
  replace F : js_F X y cX4_charactersIn 7 RX4 wsX4_charactersIn 1 12 := F
  show js_W X y 7 _ G 0 [(0, .long (lN (n)))] []
  refine js_iconst (pc := 0) (v := nI (0)) F (by decide) dX4_charactersIn_0 ?_
  refine js_istore_n (pc := 1) (lv2 := [(0, .long (lN (n))), (2, .int (nI (0)))]) F dX4_charactersIn_1 (by decide) [1, 0] rfl ?_
  refine js_iconst (pc := 2) (v := nI (0)) F (by decide) dX4_charactersIn_2 ?_
  refine js_istore_n (pc := 3) (lv2 := [(0, .long (lN (n))), (2, .int (nI (0))), (3, .int (nI (0)))]) F dX4_charactersIn_3 (by decide) [1, 2, 0] rfl ?_
  have L4 : ∀ (fu4 : Nat) (k : Nat) (sh : Nat) (hk : k ≤ 8) (hsh : sh = 8 * k) (hm : jc_many n 8 0 = jc_many n (8 - k) k) (hfu4 : 8 - k < fu4), js_W X y 7 (js_Qi X y (fun r G' => r = nI (jc_many n 8 0) ∧ G = G')) G 4 [(0, .long (lN (n))), (2, .int (nI (k))), (3, .int (nI (sh)))] [] := by
    intro fu4
    induction fu4 with
    | zero => intro k sh hk hsh hm hfu4; exact absurd hfu4 (Nat.not_lt_zero _)
    | succ fu4 ih4 =>
      intro k sh hk hsh hm hfu4
      refine js_iload_n (pc := 4) 2 F rfl dX4_charactersIn_4 ?_
      refine js_bipush (pc := 5) (v := nI (64)) F (by decide) dX4_charactersIn_5 ?_
      refine js_icmp_geN (pc := 7) (a := sh) (b := 64) (tgt := 58) F (by omega) (by decide) dX4_charactersIn_7 (by decide) (fun h7 => ?_) (fun h7 => ?_)
      · skip
        refine js_iload_n (pc := 58) 1 F rfl dX4_charactersIn_58 ?_
        refine js_iret (pc := 59) F hr (rfl) ?_ dX4_charactersIn_59
        exact ⟨by rw [hm, show 8 - k = 0 by omega]; rfl, rfl⟩
      · skip
        refine js_lload_n (pc := 10) 0 F rfl dX4_charactersIn_10 ?_
        refine js_iload_n (pc := 11) 2 F rfl dX4_charactersIn_11 ?_
        refine js_lushr (pc := 12) F dX4_charactersIn_12 ?_
        refine js_valL (v := lN (n / 2 ^ (8 * k))) (by rw [hsh]; exact jn_lshr hn (by omega)) ?_
        refine js_lstore (pc := 13) (lv2 := [(0, .long (lN (n))), (2, .int (nI (k))), (3, .int (nI (sh))), (4, .long (lN (n / 2 ^ (8 * k))))]) F dX4_charactersIn_13 (by decide) [1, 2, 3, 0] rfl ?_
        refine js_lload (pc := 15) 3 F rfl dX4_charactersIn_15 ?_
        refine js_lconst (pc := 17) (v := lN 0) F rfl dX4_charactersIn_17 ?_
        refine js_lcmp (pc := 18) F dX4_charactersIn_18 ?_
        refine js_if_ne (pc := 19) (tgt := 24) F dX4_charactersIn_19 (by decide) (fun h19 => ?_) (fun h19 => ?_)
        · skip
          refine js_lload (pc := 24) 3 F rfl dX4_charactersIn_24 ?_
          refine js_ldc2 (pc := 26) (v := lN (255)) F (lk_X4_charactersIn_constantLong_RX4_193_255) dX4_charactersIn_26 ?_
          refine js_land (pc := 29) F dX4_charactersIn_29 ?_
          refine js_l2i (pc := 30) F dX4_charactersIn_30 ?_
          refine js_val (v := nI (jc n k)) (jn_land _) ?_
          refine js_istore (pc := 31) (lv2 := [(0, .long (lN (n))), (2, .int (nI (k))), (3, .int (nI (sh))), (4, .long (lN (n / 2 ^ (8 * k)))), (6, .int (nI (jc n k)))]) F dX4_charactersIn_31 (by decide) [1, 2, 3, 4, 0] rfl ?_
          have hjc : jc n k < 256 := Nat.mod_lt _ (by decide)
          refine js_iload (pc := 33) 4 F rfl dX4_charactersIn_33 ?_
          refine js_bipush (pc := 35) (v := nI (33)) F (by decide) dX4_charactersIn_35 ?_
          refine js_icmp_ltN (pc := 37) (a := jc n k) (b := 33) (tgt := 47) F (by omega) (by decide) dX4_charactersIn_37 (by decide) (fun h37 => ?_) (fun h37 => ?_)
          · skip
            refine js_iconst (pc := 47) (v := nI (0)) F (by decide) dX4_charactersIn_47 ?_
            refine js_iret (pc := 48) F hr (rfl) ?_ dX4_charactersIn_48
            exact ⟨by rw [hm, show 8 - k = (8 - (k + 1)) + 1 by omega, jc_many_bad (fun z => h19 ((jn_l0 (Nat.lt_of_le_of_lt (Nat.div_le_self _ _) hn)).mpr z)) (by omega)], rfl⟩
          · skip
            refine js_iload (pc := 40) 4 F rfl dX4_charactersIn_40 ?_
            refine js_bipush (pc := 42) (v := nI (126)) F (by decide) dX4_charactersIn_42 ?_
            refine js_icmp_leN (pc := 44) (a := jc n k) (b := 126) (tgt := 49) F (by omega) (by decide) dX4_charactersIn_44 (by decide) (fun h44 => ?_) (fun h44 => ?_)
            · skip
              refine js_iinc (pc := 49) (v := nI (k + 1)) (lv2 := [(0, .long (lN (n))), (2, .int (nI (k + 1))), (3, .int (nI (sh))), (4, .long (lN (n / 2 ^ (8 * k)))), (6, .int (nI (jc n k)))]) F dX4_charactersIn_49 1 rfl (nI_add _ _) (by decide) [1, 0, 2, 3, 4] rfl ?_
              refine js_iinc (pc := 52) (v := nI (sh + 8)) (lv2 := [(0, .long (lN (n))), (2, .int (nI (k + 1))), (3, .int (nI (sh + 8))), (4, .long (lN (n / 2 ^ (8 * k)))), (6, .int (nI (jc n k)))]) F dX4_charactersIn_52 2 rfl (nI_add _ _) (by decide) [1, 2, 0, 3, 4] rfl ?_
              refine js_goto (pc := 55) (tgt := 4) F dX4_charactersIn_55 (by decide) ?_
              refine js_sub (lv2 := [(0, .long (lN (n))), (2, .int (nI (k + 1))), (3, .int (nI (sh + 8)))]) [0, 1, 2] rfl ?_
              exact ih4 (k + 1) (sh + 8) (by omega) (by omega) (by rw [hm, show 8 - k = (8 - (k + 1)) + 1 by omega, jc_many_go (fun z => h19 ((jn_l0 (Nat.lt_of_le_of_lt (Nat.div_le_self _ _) hn)).mpr z)) (by omega)]) (by omega)
            · skip
              refine js_iconst (pc := 47) (v := nI (0)) F (by decide) dX4_charactersIn_47 ?_
              refine js_iret (pc := 48) F hr (rfl) ?_ dX4_charactersIn_48
              exact ⟨by rw [hm, show 8 - k = (8 - (k + 1)) + 1 by omega, jc_many_bad (fun z => h19 ((jn_l0 (Nat.lt_of_le_of_lt (Nat.div_le_self _ _) hn)).mpr z)) (by omega)], rfl⟩
        · skip
          refine js_iload_n (pc := 22) 1 F rfl dX4_charactersIn_22 ?_
          refine js_iret (pc := 23) F hr (rfl) ?_ dX4_charactersIn_23
          exact ⟨by rw [hm, jc_many_z ((jn_l0 (Nat.lt_of_le_of_lt (Nat.div_le_self _ _) hn)).mp h19)], rfl⟩
  exact L4 (_ + 1) 0 0 (by decide) (rfl) (rfl) (Nat.lt_succ_self _)
theorem in_X4_put_1 : ∀ w ∈ wsX10, w ∈ wsX4_put := by decide +kernel
theorem in_X4_put_4 : ∀ w ∈ wsX40, w ∈ wsX4_put := by decide +kernel
theorem lk_X4_put_constantLong_RX4_193_255 : Cond.constantLong RX4 193 (255) ∈ wsX4_put := by decide +kernel
theorem lk_X4_put_fieldLink_RX4_34_JoinedSketches_pad_LJoinedSketches_Pad : Cond.fieldLink RX4 34 "JoinedSketches" "pad" "LJoinedSketches$Pad;" ∈ wsX4_put := by decide +kernel
theorem mf_X4_put : js_M yX4_put cX4_put 5 (some .int) wsX4_put 1 := ⟨⟨_, rfl⟩, by decide +kernel, by decide +kernel, by decide +kernel, by decide +kernel⟩
set_option maxHeartbeats 4000000 in
set_option maxRecDepth 100000 in
theorem c_X4_put (la : Launch) {y : js_L} (hy : js_Dy y) {G : js_G} {c : js_C} (hC : jr_C G c) {n : Nat} (hn : n < 2 ^ 64) : js_Ci la y yX4_put wsX4_put 2 38 [.ref (js_ad y (190)), .long (lN (n))] G (fun r G' => jP (ms_put c n) r G G') := by
  have hpl := hC.2.2.2.2.1
  have hml := jc_many_le n 8 0
  refine js_ofi mf_X4_put (Nat.le_of_ble_eq_true rfl) hy (fun X F hr => ?_)
  replace F : js_F X y cX4_put 5 RX4 wsX4_put 2 38 := F
  show js_W X y 5 _ G 0 [(0, .ref (js_ad y (190))), (1, .long (lN (n)))] []
  refine js_lload_n (pc := 0) 1 F rfl dX4_put_0 ?_
  refine js_callsi (pc := 1) F (c_X4_charactersIn _ hy (n := n) hn) mf_X4_charactersIn gX4_put_X4_charactersIn (by decide) rfl rfl (Nat.le_of_ble_eq_true rfl) dX4_put_1 ?_
  rintro _ _ ⟨rfl, rfl⟩
  refine js_istore_n (pc := 4) (lv2 := [(0, .ref (js_ad y (190))), (1, .long (lN (n))), (3, .int (nI (jc_many n 8 0)))]) F dX4_put_4 (by decide) [1, 2, 0] rfl ?_
  refine js_iload_n (pc := 5) 2 F rfl dX4_put_5 ?_
  refine js_if_neN (pc := 6) (a := jc_many n 8 0) (tgt := 12) F (by omega) dX4_put_6 (by decide) (fun h6 => ?_) (fun h6 => ?_)
  · skip
    refine js_aload_n (pc := 12) 0 F rfl dX4_put_12 ?_
    refine jg_X_pad (pc := 13) F in_X4_put_4 (lk_X4_put_fieldLink_RX4_34_JoinedSketches_pad_LJoinedSketches_Pad) dX4_put_13 ?_
    refine jgN_4_168 (pc := 16) (v := nI (c.2.2.2.length)) F in_X4_put_1 (hC.2.2.2.1) dX4_put_16 ?_
    refine js_iload_n (pc := 19) 2 F rfl dX4_put_19 ?_
    refine js_iaddN (pc := 20) (a := c.2.2.2.length) (b := jc_many n 8 0) F dX4_put_20 ?_
    refine js_bipush (pc := 21) (v := nI (80)) F (by decide) dX4_put_21 ?_
    refine js_icmp_leN (pc := 23) (a := c.2.2.2.length + (jc_many n 8 0)) (b := 80) (tgt := 29) F (by omega) (by decide) dX4_put_23 (by decide) (fun h23 => ?_) (fun h23 => ?_)
    · skip
      refine js_iload_n (pc := 29) 2 F rfl dX4_put_29 ?_
      refine js_iconst (pc := 30) (v := nI (1)) F (by decide) dX4_put_30 ?_
      refine js_isubN (pc := 31) (a := jc_many n 8 0) (b := 1) F (by omega) dX4_put_31 ?_
      refine js_istore (pc := 32) (lv2 := [(0, .ref (js_ad y (190))), (1, .long (lN (n))), (3, .int (nI (jc_many n 8 0))), (4, .int (nI ((jc_many n 8 0) - 1)))]) F dX4_put_32 (by decide) [1, 2, 3, 0] rfl ?_
      have L34 : ∀ (fu34 : Nat) (l : Nat) (x : Int32) (q : List Nat) (G1 : js_G) (hl : l ≤ jc_many n 8 0) (hx : x = nI l - nI 1) (hq : q ++ jc_by n l = c.2.2.2 ++ jc_by n (jc_many n 8 0)) (hql : q.length + l = c.2.2.2.length + jc_many n 8 0) (hP1 : jr_P G1 q) (hf : js_fpp G G1) (hfu34 : l < fu34), js_W X y 5 (js_Qi X y (fun r G' => jP (ms_put c n) r G G')) G1 34 [(0, .ref (js_ad y (190))), (1, .long (lN (n))), (3, .int (nI (jc_many n 8 0))), (4, .int (x))] [] := by
        intro fu34
        induction fu34 with
        | zero => intro l x q G1 hl hx hq hql hP1 hf hfu34; exact absurd hfu34 (Nat.not_lt_zero _)
        | succ fu34 ih34 =>
          intro l x q G1 hl hx hq hql hP1 hf hfu34
          refine js_iload (pc := 34) 3 F rfl dX4_put_34 ?_
          refine js_if_ltM (pc := 36) (l := l) (tgt := 65) F hx (by omega) dX4_put_36 (by decide) (fun h36 => ?_) (fun h36 => ?_)
          · skip
            refine js_aload_n (pc := 65) 0 F rfl dX4_put_65 ?_
            refine jg_X_pad (pc := 66) F in_X4_put_4 (lk_X4_put_fieldLink_RX4_34_JoinedSketches_pad_LJoinedSketches_Pad) dX4_put_66 ?_
            refine jgN_4_168 (pc := 69) (v := nI (q.length)) F in_X4_put_1 (hP1.1) dX4_put_69 ?_
            refine js_iret (pc := 72) F hr (rfl) ?_ dX4_put_72
            show jP (ms_put c n) _ _ _
            subst h36
            have hq2 : q = c.2.2.2 ++ jc_by n (jc_many n 8 0) := by rw [← hq]; exact (List.append_nil q).symm
            rw [show ms_put c n = (nI (c.2.2.2.length + jc_many n 8 0), (c.1, c.2.1, c.2.2.1, q)) from by unfold ms_put; rw [if_neg h6, if_neg (by omega), ← hq2]]
            exact ⟨by rw [← hql]; rfl, hC.pp hf hP1, js_frX.pp hf⟩
          · skip
            refine js_aload_n (pc := 39) 0 F rfl dX4_put_39 ?_
            refine jg_X_pad (pc := 40) F in_X4_put_4 (lk_X4_put_fieldLink_RX4_34_JoinedSketches_pad_LJoinedSketches_Pad) dX4_put_40 ?_
            refine js_lload_n (pc := 43) 1 F rfl dX4_put_43 ?_
            refine js_bipush (pc := 44) (v := nI (8)) F (by decide) dX4_put_44 ?_
            refine js_iload (pc := 46) 3 F rfl dX4_put_46 ?_
            refine js_val (v := nI (l - 1)) (by rw [hx]; exact pk_sub (by omega)) ?_
            refine js_imulN (pc := 48) (a := 8) (b := l - 1) F dX4_put_48 ?_
            refine js_lushr (pc := 49) F dX4_put_49 ?_
            refine js_valL (v := lN (n / 2 ^ (8 * (l - 1)))) (jn_lshr hn (by omega)) ?_
            refine js_ldc2 (pc := 50) (v := lN (255)) F (lk_X4_put_constantLong_RX4_193_255) dX4_put_50 ?_
            refine js_land (pc := 53) F dX4_put_53 ?_
            refine js_l2i (pc := 54) F dX4_put_54 ?_
            refine js_val (v := nI (jc n (l - 1))) (jn_land _) ?_
            have hch := jc_many_ok (n := n) 8 0 (l - 1) (Nat.zero_le _) (by omega)
            refine js_i2c (pc := 55) F dX4_put_55 ?_
            refine js_val (v := nI (jc n (l - 1))) (jn_i2c (by omega)) ?_
            refine js_callv (pc := 56) F (c_X1_append _ hy (G := G1) (p := q) hP1 (q := jc n (l - 1)) hch.2 (by omega)) mf_X1_append gX4_put_X1_append rfl (by decide) (by decide) (js_ct_P) rfl rfl rfl (Nat.le_of_ble_eq_true rfl) dX4_put_56 ?_
            rintro G2 hG2
            refine js_iinc (pc := 59) (v := x + -1) (lv2 := [(0, .ref (js_ad y (190))), (1, .long (lN (n))), (3, .int (nI (jc_many n 8 0))), (4, .int (x + -1))]) F dX4_put_59 3 rfl (rfl) (by decide) [1, 2, 3, 0] rfl ?_
            refine js_goto (pc := 62) (tgt := 34) F dX4_put_62 (by decide) ?_
            exact ih34 (l - 1) (x + -1) (q ++ [jc n (l - 1)]) G2 (by omega) (jx_dec h36 hx) (by rw [List.append_assoc]; show q ++ jc_by n ((l - 1) + 1) = _; rw [show l - 1 + 1 = l by omega]; exact hq) (by simp; omega) (by rw [← hG2]; exact hP1.push (by omega) hch) (hf.tr (by rw [← hG2]; exact (js_fpp.st (Or.inr (Or.inl rfl))).tr (js_fpp.st (Or.inl rfl)))) (by omega)
      exact L34 (_ + 1) (jc_many n 8 0) (nI ((jc_many n 8 0) - 1)) c.2.2.2 G (Nat.le_refl _) ((pk_sub (by omega)).symm) (rfl) (rfl) (hC.2.2.2) (js_fpp.rf) (Nat.lt_succ_self _)
    · skip
      refine js_bipush (pc := 26) (v := (-4)) F (by decide) dX4_put_26 ?_
      refine js_iret (pc := 28) F hr (rfl) ?_ dX4_put_28
      show jP (ms_put c n) _ _ _
      rw [show ms_put c n = (-4, c) from by unfold ms_put; rw [if_neg h6, if_pos (by omega)]]
      exact ⟨rfl, hC, js_frX.rf⟩
  · skip
    refine js_bipush (pc := 9) (v := (-2)) F (by decide) dX4_put_9 ?_
    refine js_iret (pc := 11) F hr (rfl) ?_ dX4_put_11
    show jP (ms_put c n) _ _ _
    rw [show ms_put c n = (-2, c) from if_pos h6]
    exact ⟨rfl, hC, js_frX.rf⟩
theorem in_X4_wipe_1 : ∀ w ∈ wsX10, w ∈ wsX4_wipe := by decide +kernel
theorem in_X4_wipe_4 : ∀ w ∈ wsX40, w ∈ wsX4_wipe := by decide +kernel
theorem lk_X4_wipe_fieldLink_RX4_34_JoinedSketches_pad_LJoinedSketches_Pad : Cond.fieldLink RX4 34 "JoinedSketches" "pad" "LJoinedSketches$Pad;" ∈ wsX4_wipe := by decide +kernel
theorem mf_X4_wipe : js_M yX4_wipe cX4_wipe 2 (some .int) wsX4_wipe 0 := ⟨⟨_, rfl⟩, by decide +kernel, by decide +kernel, by decide +kernel, by decide +kernel⟩
set_option maxHeartbeats 4000000 in
set_option maxRecDepth 100000 in
theorem c_X4_wipe (la : Launch) {y : js_L} (hy : js_Dy y) {G : js_G} {c : js_C} (hC : jr_C G c) : js_Ci la y yX4_wipe wsX4_wipe 2 32 [.ref (js_ad y (190))] G (fun r G' => jP (ms_wipe c) r G G') := by
  refine js_ofi mf_X4_wipe (Nat.le_of_ble_eq_true rfl) hy (fun X F hr => ?_)
  replace F : js_F X y cX4_wipe 2 RX4 wsX4_wipe 2 32 := F
  show js_W X y 2 _ G 0 [(0, .ref (js_ad y (190)))] []
  refine js_aload_n (pc := 0) 0 F rfl dX4_wipe_0 ?_
  refine jg_X_pad (pc := 1) F in_X4_wipe_4 (lk_X4_wipe_fieldLink_RX4_34_JoinedSketches_pad_LJoinedSketches_Pad) dX4_wipe_1 ?_
  refine jgN_4_168 (pc := 4) (v := nI (c.2.2.2.length)) F in_X4_wipe_1 (hC.2.2.2.1) dX4_wipe_4 ?_
  refine js_istore_n (pc := 7) (lv2 := [(0, .ref (js_ad y (190))), (1, .int (nI (c.2.2.2.length)))]) F dX4_wipe_7 (by decide) [1, 0] rfl ?_
  refine js_aload_n (pc := 8) 0 F rfl dX4_wipe_8 ?_
  refine jg_X_pad (pc := 9) F in_X4_wipe_4 (lk_X4_wipe_fieldLink_RX4_34_JoinedSketches_pad_LJoinedSketches_Pad) dX4_wipe_9 ?_
  refine js_callv (pc := 12) F (c_X1_clear _ hy (G := G)) mf_X1_clear gX4_wipe_X1_clear rfl (by decide) (by decide) (js_ct_P) rfl rfl rfl (Nat.le_of_ble_eq_true rfl) dX4_wipe_12 ?_
  rintro _ rfl
  refine js_iload_n (pc := 15) 1 F rfl dX4_wipe_15 ?_
  refine js_iret (pc := 16) F hr (rfl) ?_ dX4_wipe_16
  exact ⟨rfl, hC.pp (js_fpp.st (Or.inl rfl)) (jr_P.nil (by rw [js_st_s]; simp [upd])), js_frX.st (by decide)⟩
theorem in_X4_fault_4 : ∀ w ∈ wsX40, w ∈ wsX4_fault := by decide +kernel
theorem lk_X4_fault_fieldLink_RX4_34_JoinedSketches_pad_LJoinedSketches_Pad : Cond.fieldLink RX4 34 "JoinedSketches" "pad" "LJoinedSketches$Pad;" ∈ wsX4_fault := by decide +kernel
theorem mf_X4_fault : js_M yX4_fault cX4_fault 1 (some .int) wsX4_fault 0 := ⟨⟨_, rfl⟩, by decide +kernel, by decide +kernel, by decide +kernel, by decide +kernel⟩
set_option maxHeartbeats 4000000 in
set_option maxRecDepth 100000 in
theorem c_X4_fault (la : Launch) {y : js_L} (hy : js_Dy y) {G : js_G} {c : js_C} (hC : jr_C G c) : js_Ci la y yX4_fault wsX4_fault 7 138 [.ref (js_ad y (190))] G (fun r G' => jP (jp_fa c.2.2.2, c) r G G') := by
  refine js_ofi mf_X4_fault (Nat.le_of_ble_eq_true rfl) hy (fun X F hr => ?_)
  replace F : js_F X y cX4_fault 1 RX4 wsX4_fault 7 138 := F
  show js_W X y 1 _ G 0 [(0, .ref (js_ad y (190)))] []
  refine js_aload_n (pc := 0) 0 F rfl dX4_fault_0 ?_
  refine jg_X_pad (pc := 1) F in_X4_fault_4 (lk_X4_fault_fieldLink_RX4_34_JoinedSketches_pad_LJoinedSketches_Pad) dX4_fault_1 ?_
  refine js_calli (pc := 4) F (c_X1_faultPlace _ hy (G := G) (p := c.2.2.2) hC.2.2.2) mf_X1_faultPlace gX4_fault_X1_faultPlace rfl (by decide) (by decide) (js_ct_P) rfl rfl rfl (Nat.le_of_ble_eq_true rfl) dX4_fault_4 ?_
  rintro _ G0 ⟨rfl, f0⟩
  refine js_iret (pc := 7) F hr (rfl) ?_ dX4_fault_7
  exact ⟨rfl, hC.pp f0.pp (f0.P hC.2.2.2), js_frX.pp f0.pp⟩
theorem in_X4_carryThingsOut_1 : ∀ w ∈ wsX10, w ∈ wsX4_carryThingsOut := by decide +kernel
theorem in_X4_carryThingsOut_4 : ∀ w ∈ wsX40, w ∈ wsX4_carryThingsOut := by decide +kernel
theorem lk_X4_carryThingsOut_fieldLink_RX4_34_JoinedSketches_pad_LJoinedSketches_Pad : Cond.fieldLink RX4 34 "JoinedSketches" "pad" "LJoinedSketches$Pad;" ∈ wsX4_carryThingsOut := by decide +kernel
theorem mf_X4_carryThingsOut : js_M yX4_carryThingsOut cX4_carryThingsOut 3 (some .boolean) wsX4_carryThingsOut 1 := ⟨⟨_, rfl⟩, by decide +kernel, by decide +kernel, by decide +kernel, by decide +kernel⟩
set_option maxHeartbeats 4000000 in
set_option maxRecDepth 100000 in
theorem c_X4_carryThingsOut (la : Launch) {y : js_L} (hy : js_Dy y) {G : js_G} {s : js_T} (hT : jr_T G 0 s) {i : Nat} (hi : i < 6) {ns : List Nat} (hN : jr_N G ns) (hl : ns.length ≤ 80) (hns : ∀ t, t ∈ ns → t < 100000) : js_Ci la y yX4_carryThingsOut wsX4_carryThingsOut 5 101 [.ref (js_ad y (190)), .ref (js_ad y (js_kS i))] G (fun r G' => r = nI 1 ∧ jr_T G' 0 (jm_sk s i (jo_tks s.1 (s.2 i) ns)) ∧ js_fn G G') := by
  refine js_ofi mf_X4_carryThingsOut (Nat.le_of_ble_eq_true rfl) hy (fun X F hr => ?_)
  replace F : js_F X y cX4_carryThingsOut 3 RX4 wsX4_carryThingsOut 5 101 := F
  show js_W X y 3 _ G 0 [(0, .ref (js_ad y (190))), (1, .ref (js_ad y (js_kS i)))] []
  refine js_iconst (pc := 0) (v := nI (0)) F (by decide) dX4_carryThingsOut_0 ?_
  refine js_istore_n (pc := 1) (lv2 := [(0, .ref (js_ad y (190))), (1, .ref (js_ad y (js_kS i))), (2, .int (nI (0)))]) F dX4_carryThingsOut_1 (by decide) [1, 2, 0] rfl ?_
  have L2 : ∀ (fu2 : Nat) (k : Nat) (G1 : js_G) (hk : k ≤ ns.length) (hT1 : jr_T G1 0 (jm_sk s i (jo_tks s.1 (s.2 i) (ns.take k)))) (hf : js_fn G G1) (hfu2 : ns.length - k < fu2), js_W X y 3 (js_Qi X y (fun r G' => r = nI 1 ∧ jr_T G' 0 (jm_sk s i (jo_tks s.1 (s.2 i) ns)) ∧ js_fn G G')) G1 2 [(0, .ref (js_ad y (190))), (1, .ref (js_ad y (js_kS i))), (2, .int (nI (k)))] [] := by
    intro fu2
    induction fu2 with
    | zero => intro k G1 hk hT1 hf hfu2; exact absurd hfu2 (Nat.not_lt_zero _)
    | succ fu2 ih2 =>
      intro k G1 hk hT1 hf hfu2
      refine js_iload_n (pc := 2) 2 F rfl dX4_carryThingsOut_2 ?_
      refine js_aload_n (pc := 3) 0 F rfl dX4_carryThingsOut_3 ?_
      refine jg_X_pad (pc := 4) F in_X4_carryThingsOut_4 (lk_X4_carryThingsOut_fieldLink_RX4_34_JoinedSketches_pad_LJoinedSketches_Pad) dX4_carryThingsOut_4 ?_
      refine jgN_4_256 (pc := 7) (v := nI (ns.length)) F in_X4_carryThingsOut_1 ((hN.fn hf).1) dX4_carryThingsOut_7 ?_
      refine js_icmp_geN (pc := 10) (a := k) (b := ns.length) (tgt := 34) F (by omega) (by omega) dX4_carryThingsOut_10 (by decide) (fun h10 => ?_) (fun h10 => ?_)
      · skip
        refine js_iconst (pc := 34) (v := nI (1)) F (by decide) dX4_carryThingsOut_34 ?_
        refine js_iret (pc := 35) F hr (rfl) ?_ dX4_carryThingsOut_35
        have e : ns.take k = ns := List.take_of_length_le (by omega)
        rw [e] at hT1
        exact ⟨rfl, hT1, hf⟩
      · skip
        refine js_aload_n (pc := 13) 0 F rfl dX4_carryThingsOut_13 ?_
        refine js_aload_n (pc := 14) 1 F rfl dX4_carryThingsOut_14 ?_
        refine js_aload_n (pc := 15) 0 F rfl dX4_carryThingsOut_15 ?_
        refine jg_X_pad (pc := 16) F in_X4_carryThingsOut_4 (lk_X4_carryThingsOut_fieldLink_RX4_34_JoinedSketches_pad_LJoinedSketches_Pad) dX4_carryThingsOut_16 ?_
        refine js_iload_n (pc := 19) 2 F rfl dX4_carryThingsOut_19 ?_
        refine js_calli (pc := 20) F (c_X1_numberAt _ hy (G := G1) (ns := ns) (hN.fn hf) hl (k := k) (by omega)) mf_X1_numberAt gX4_carryThingsOut_X1_numberAt rfl (by decide) (by decide) (js_ct_P) rfl rfl rfl (Nat.le_of_ble_eq_true rfl) dX4_carryThingsOut_20 ?_
        rintro _ _ ⟨rfl, rfl⟩
        refine js_iconst (pc := 23) (v := nI (1)) F (by decide) dX4_carryThingsOut_23 ?_
        have hS1 : jr_K G1 i (jo_tks s.1 (s.2 i) (ns.take k)) := by have := hT1.K0 hi; rwa [jm_sk_at] at this
        have hts := hns _ (jm_getD_mem (k := k) (l := ns) (by omega))
        refine js_calli (pc := 24) F (c_X4_takeThings _ hy (j := i) (by omega) (G := G1) (s := s.1) hT1.1 hS1 (a := ns.getD k 0) (n := 1) (by omega)) mf_X4_takeThings gX4_carryThingsOut_X4_takeThings rfl (by decide) (by decide) (js_ct_X) rfl rfl rfl (Nat.le_of_ble_eq_true rfl) dX4_carryThingsOut_24 ?_
        rintro r2 G2 ⟨q0, p1, p2⟩
        clear q0
        revert r2
        intro r2
        refine js_pop (pc := 27) rfl F dX4_carryThingsOut_27 ?_
        refine js_iinc (pc := 28) (v := nI (k + 1)) (lv2 := [(0, .ref (js_ad y (190))), (1, .ref (js_ad y (js_kS i))), (2, .int (nI (k + 1)))]) F dX4_carryThingsOut_28 2 rfl (nI_add _ _) (by decide) [1, 2, 0] rfl ?_
        refine js_goto (pc := 31) (tgt := 2) F dX4_carryThingsOut_31 (by decide) ?_
        exact ih2 (k + 1) G2 (by omega) (by rw [jo_tks_take (by omega), ← jm_sk_sk (S := jo_tks s.1 (s.2 i) (ns.take k))]; exact hT1.fn0 hi p2 p1) (hf.tr (js_fn.of p2 hi)) (by omega)
  exact L2 (_ + 1) 0 G (Nat.zero_le _) (by show jr_T G 0 (jm_sk s i (s.2 i)); rw [jm_sk_self]; exact hT) (js_fn.rf) (Nat.lt_succ_self _)
theorem in_X4_carryJoinOut_4 : ∀ w ∈ wsX40, w ∈ wsX4_carryJoinOut := by decide +kernel
theorem lk_X4_carryJoinOut_fieldLink_RX4_10_JoinedSketches_now_LJoinedSketches_State : Cond.fieldLink RX4 10 "JoinedSketches" "now" "LJoinedSketches$State;" ∈ wsX4_carryJoinOut := by decide +kernel
theorem lk_X4_carryJoinOut_fieldLink_RX4_34_JoinedSketches_pad_LJoinedSketches_Pad : Cond.fieldLink RX4 34 "JoinedSketches" "pad" "LJoinedSketches$Pad;" ∈ wsX4_carryJoinOut := by decide +kernel
theorem mf_X4_carryJoinOut : js_M yX4_carryJoinOut cX4_carryJoinOut 3 (some .boolean) wsX4_carryJoinOut 1 := ⟨⟨_, rfl⟩, by decide +kernel, by decide +kernel, by decide +kernel, by decide +kernel⟩
set_option maxHeartbeats 4000000 in
set_option maxRecDepth 100000 in
theorem c_X4_carryJoinOut (la : Launch) {y : js_L} (hy : js_Dy y) {G : js_G} {s : js_T} (hT : jr_T G 0 s) {i : Nat} (hi : i < 6) {ns : List Nat} (hN : jr_N G ns) (hl : ns.length ≤ 80) (hl0 : 0 < ns.length) {i2 : Nat} (h0 : ns.getD 0 0 = i2) (hi2 : i2 < 6) : js_Ci la y yX4_carryJoinOut wsX4_carryJoinOut 4 77 [.ref (js_ad y (190)), .ref (js_ad y (js_kS i))] G (fun r G' => jo_post (if i ≠ i2 ∧ (s.2 i).1 = (s.2 i2).1 then some (jm_sk s i (jm_joK (s.2 i) (s.2 i2))) else none) r G G') := by
  have hS := hT.K0 hi
  have hS2 := hT.K0 hi2
  refine js_ofi mf_X4_carryJoinOut (Nat.le_of_ble_eq_true rfl) hy (fun X F hr => ?_)
  replace F : js_F X y cX4_carryJoinOut 3 RX4 wsX4_carryJoinOut 4 77 := F
  show js_W X y 3 _ G 0 [(0, .ref (js_ad y (190))), (1, .ref (js_ad y (js_kS i)))] []
  refine js_aload_n (pc := 0) 0 F rfl dX4_carryJoinOut_0 ?_
  refine jg_X_now (pc := 1) F in_X4_carryJoinOut_4 (lk_X4_carryJoinOut_fieldLink_RX4_10_JoinedSketches_now_LJoinedSketches_State) dX4_carryJoinOut_1 ?_
  refine js_aload_n (pc := 4) 0 F rfl dX4_carryJoinOut_4 ?_
  refine jg_X_pad (pc := 5) F in_X4_carryJoinOut_4 (lk_X4_carryJoinOut_fieldLink_RX4_34_JoinedSketches_pad_LJoinedSketches_Pad) dX4_carryJoinOut_5 ?_
  refine js_iconst (pc := 8) (v := nI (0)) F (by decide) dX4_carryJoinOut_8 ?_
  refine js_calli (pc := 9) F (c_X1_numberAt _ hy (G := G) (ns := ns) hN hl (k := 0) (by omega)) mf_X1_numberAt gX4_carryJoinOut_X1_numberAt rfl (by decide) (by decide) (js_ct_P) rfl rfl rfl (Nat.le_of_ble_eq_true rfl) dX4_carryJoinOut_9 ?_
  rintro _ _ ⟨rfl, rfl⟩
  rw [h0]
  refine js_callq (pc := 12) F (c_sk_ok _ hy (G := G) (i := i2) hi2) mf_X3_sketchAt gX4_carryJoinOut_X3_sketchAt rfl (by decide) (by unfold js_kA; omega) (js_ct_A (by decide)) rfl rfl rfl (Nat.le_of_ble_eq_true rfl) dX4_carryJoinOut_12 ?_
  rintro _ _ ⟨rfl, rfl⟩
  show js_W X y 3 (js_Qi X y (fun r G' => jo_post (if i ≠ i2 ∧ (s.2 i).1 = (s.2 i2).1 then some (jm_sk s i (jm_joK (s.2 i) (s.2 i2))) else none) r G G')) G (12 + 3) [(0, .ref (js_ad y (190))), (1, .ref (js_ad y (js_kS i)))] [.ref (js_ad y (js_kS i2))]
  refine js_astore_n (pc := 15) (lv2 := [(0, .ref (js_ad y (190))), (1, .ref (js_ad y (js_kS i))), (2, .ref (js_ad y (js_kS i2)))]) F dX4_carryJoinOut_15 (by decide) [1, 2, 0] rfl ?_
  refine js_aload_n (pc := 16) 2 F rfl dX4_carryJoinOut_16 ?_
  refine js_ifnull (pc := 17) F dX4_carryJoinOut_17 ?_
  refine js_aload_n (pc := 20) 1 F rfl dX4_carryJoinOut_20 ?_
  refine js_aload_n (pc := 21) 2 F rfl dX4_carryJoinOut_21 ?_
  refine js_callsi (pc := 22) F (c_X4_areToJoin _ hy (j := i) (by omega) (j2 := i2) (by omega) (G := G) hS.2.2.1 hS.2.1 hS2.2.2.1 hS2.2.1) mf_X4_areToJoin gX4_carryJoinOut_X4_areToJoin (by decide) rfl rfl (Nat.le_of_ble_eq_true rfl) dX4_carryJoinOut_22 ?_
  rintro _ _ ⟨rfl, rfl⟩
  refine js_if_neB (pc := 25) (tgt := 30) F dX4_carryJoinOut_25 (by decide) (fun h25 => ?_) (fun h25 => ?_)
  · skip
    refine js_aload_n (pc := 30) 1 F rfl dX4_carryJoinOut_30 ?_
    refine js_aload_n (pc := 31) 2 F rfl dX4_carryJoinOut_31 ?_
    refine js_callv (pc := 32) F (c_X2_takeAll _ hy (j := i) (by omega) (j2 := i2) (by omega) (Ne.symm h25.1) (hS) (by rw [h25.2]; exact hS2)) mf_X2_takeAll gX4_carryJoinOut_X2_takeAll rfl (by decide) (by unfold js_kS; omega) (js_ct_S (by omega)) rfl rfl rfl (Nat.le_of_ble_eq_true rfl) dX4_carryJoinOut_32 ?_
    rintro G2 ⟨p1, p2⟩
    refine js_iconst (pc := 35) (v := nI (1)) F (by decide) dX4_carryJoinOut_35 ?_
    refine js_iret (pc := 36) F hr (rfl) ?_ dX4_carryJoinOut_36
    exact Or.inr ⟨_, if_pos h25, rfl, hT.fn0 hi p2 p1, js_fn.of p2 hi⟩
  · skip
    refine js_iconst (pc := 28) (v := nI (0)) F (by decide) dX4_carryJoinOut_28 ?_
    refine js_iret (pc := 29) F hr (rfl) ?_ dX4_carryJoinOut_29
    exact Or.inl ⟨if_neg h25, rfl, rfl⟩
theorem in_X4_carryRangeOut_4 : ∀ w ∈ wsX40, w ∈ wsX4_carryRangeOut := by decide +kernel
theorem lk_X4_carryRangeOut_fieldLink_RX4_34_JoinedSketches_pad_LJoinedSketches_Pad : Cond.fieldLink RX4 34 "JoinedSketches" "pad" "LJoinedSketches$Pad;" ∈ wsX4_carryRangeOut := by decide +kernel
theorem mf_X4_carryRangeOut : js_M yX4_carryRangeOut cX4_carryRangeOut 4 (some .boolean) wsX4_carryRangeOut 1 := ⟨⟨_, rfl⟩, by decide +kernel, by decide +kernel, by decide +kernel, by decide +kernel⟩
set_option maxHeartbeats 4000000 in
set_option maxRecDepth 100000 in
theorem c_X4_carryRangeOut (la : Launch) {y : js_L} (hy : js_Dy y) {G : js_G} {s : js_T} (hT : jr_T G 0 s) {i : Nat} (hi : i < 6) {ns : List Nat} (hN : jr_N G ns) (hl : ns.length = 2) {a m : Nat} (h0 : ns.getD 0 0 = a) (h1 : ns.getD 1 0 = m) (ha : a < 100000) (hm : m < 100000) : js_Ci la y yX4_carryRangeOut wsX4_carryRangeOut 5 101 [.ref (js_ad y (190)), .ref (js_ad y (js_kS i))] G (fun r G' => jo_post (if jm_rng (nI a) (nI m) then some (jm_sk s i (jm_tkK s.1 (s.2 i) a m)) else none) r G G') := by
  have hS := hT.K0 hi
  refine js_ofi mf_X4_carryRangeOut (Nat.le_of_ble_eq_true rfl) hy (fun X F hr => ?_)
  replace F : js_F X y cX4_carryRangeOut 4 RX4 wsX4_carryRangeOut 5 101 := F
  show js_W X y 4 _ G 0 [(0, .ref (js_ad y (190))), (1, .ref (js_ad y (js_kS i)))] []
  refine js_aload_n (pc := 0) 0 F rfl dX4_carryRangeOut_0 ?_
  refine jg_X_pad (pc := 1) F in_X4_carryRangeOut_4 (lk_X4_carryRangeOut_fieldLink_RX4_34_JoinedSketches_pad_LJoinedSketches_Pad) dX4_carryRangeOut_1 ?_
  refine js_iconst (pc := 4) (v := nI (0)) F (by decide) dX4_carryRangeOut_4 ?_
  refine js_calli (pc := 5) F (c_X1_numberAt _ hy (G := G) (ns := ns) hN (by omega) (k := 0) (by omega)) mf_X1_numberAt gX4_carryRangeOut_X1_numberAt rfl (by decide) (by decide) (js_ct_P) rfl rfl rfl (Nat.le_of_ble_eq_true rfl) dX4_carryRangeOut_5 ?_
  rintro _ _ ⟨rfl, rfl⟩
  rw [h0]
  refine js_istore_n (pc := 8) (lv2 := [(0, .ref (js_ad y (190))), (1, .ref (js_ad y (js_kS i))), (2, .int (nI (a)))]) F dX4_carryRangeOut_8 (by decide) [1, 2, 0] rfl ?_
  refine js_aload_n (pc := 9) 0 F rfl dX4_carryRangeOut_9 ?_
  refine jg_X_pad (pc := 10) F in_X4_carryRangeOut_4 (lk_X4_carryRangeOut_fieldLink_RX4_34_JoinedSketches_pad_LJoinedSketches_Pad) dX4_carryRangeOut_10 ?_
  refine js_iconst (pc := 13) (v := nI (1)) F (by decide) dX4_carryRangeOut_13 ?_
  refine js_calli (pc := 14) F (c_X1_numberAt _ hy (G := G) (ns := ns) hN (by omega) (k := 1) (by omega)) mf_X1_numberAt gX4_carryRangeOut_X1_numberAt rfl (by decide) (by decide) (js_ct_P) rfl rfl rfl (Nat.le_of_ble_eq_true rfl) dX4_carryRangeOut_14 ?_
  rintro _ _ ⟨rfl, rfl⟩
  rw [h1]
  refine js_istore_n (pc := 17) (lv2 := [(0, .ref (js_ad y (190))), (1, .ref (js_ad y (js_kS i))), (2, .int (nI (a))), (3, .int (nI (m)))]) F dX4_carryRangeOut_17 (by decide) [1, 2, 3, 0] rfl ?_
  refine js_iload_n (pc := 18) 2 F rfl dX4_carryRangeOut_18 ?_
  refine js_iload_n (pc := 19) 3 F rfl dX4_carryRangeOut_19 ?_
  refine js_callsi (pc := 20) F (c_X4_isRange _ hy (x := nI (a)) (m := nI (m))) mf_X4_isRange gX4_carryRangeOut_X4_isRange (by decide) rfl rfl (Nat.le_of_ble_eq_true rfl) dX4_carryRangeOut_20 ?_
  rintro _ _ ⟨rfl, rfl⟩
  refine js_if_neB (pc := 23) (tgt := 28) F dX4_carryRangeOut_23 (by decide) (fun h23 => ?_) (fun h23 => ?_)
  · skip
    refine js_aload_n (pc := 28) 0 F rfl dX4_carryRangeOut_28 ?_
    refine js_aload_n (pc := 29) 1 F rfl dX4_carryRangeOut_29 ?_
    refine js_iload_n (pc := 30) 2 F rfl dX4_carryRangeOut_30 ?_
    refine js_iload_n (pc := 31) 3 F rfl dX4_carryRangeOut_31 ?_
    have hrg := jm_rng_nat ha hm h23
    refine js_calli (pc := 32) F (c_X4_takeThings _ hy (j := i) (by omega) (G := G) (s := s.1) hT.1 hS (a := a) (n := m) hrg.2.2) mf_X4_takeThings gX4_carryRangeOut_X4_takeThings rfl (by decide) (by decide) (js_ct_X) rfl rfl rfl (Nat.le_of_ble_eq_true rfl) dX4_carryRangeOut_32 ?_
    rintro r2 G2 ⟨q0, p1, p2⟩
    refine js_pop (pc := 35) rfl F dX4_carryRangeOut_35 ?_
    refine js_iconst (pc := 36) (v := nI (1)) F (by decide) dX4_carryRangeOut_36 ?_
    refine js_iret (pc := 37) F hr (rfl) ?_ dX4_carryRangeOut_37
    exact Or.inr ⟨_, if_pos h23, rfl, hT.fn0 hi p2 p1, js_fn.of p2 hi⟩
  · skip
    refine js_iconst (pc := 26) (v := nI (0)) F (by decide) dX4_carryRangeOut_26 ?_
    refine js_iret (pc := 27) F hr (rfl) ?_ dX4_carryRangeOut_27
    exact Or.inl ⟨if_neg h23, rfl, rfl⟩
theorem mf_X4_carryFoldOut : js_M yX4_carryFoldOut cX4_carryFoldOut 1 (some .boolean) wsX4_carryFoldOut 1 := ⟨⟨_, rfl⟩, by decide +kernel, by decide +kernel, by decide +kernel, by decide +kernel⟩
set_option maxHeartbeats 4000000 in
set_option maxRecDepth 100000 in
theorem c_X4_carryFoldOut (la : Launch) {y : js_L} (hy : js_Dy y) {G : js_G} {s : js_T} (hT : jr_T G 0 s) {i : Nat} (hi : i < 6) : js_Ci la y yX4_carryFoldOut wsX4_carryFoldOut 4 82 [.ref (js_ad y (js_kS i))] G (fun r G' => jo_post (if 2 < (s.2 i).1 then some (jm_sk s i (jm_foK (s.2 i))) else none) r G G') := by
  have hS := hT.K0 hi
  refine js_ofi mf_X4_carryFoldOut (Nat.le_of_ble_eq_true rfl) hy (fun X F hr => ?_)
  replace F : js_F X y cX4_carryFoldOut 1 RX4 wsX4_carryFoldOut 4 82 := F
  show js_W X y 1 _ G 0 [(0, .ref (js_ad y (js_kS i)))] []
  refine js_aload_n (pc := 0) 0 F rfl dX4_carryFoldOut_0 ?_
  refine js_callsi (pc := 1) F (c_X4_isToFold _ hy (by omega) (G := G) (B := (s.2 i).1) (hS.2.2.1) (hS.2.1)) mf_X4_isToFold gX4_carryFoldOut_X4_isToFold (by decide) rfl rfl (Nat.le_of_ble_eq_true rfl) dX4_carryFoldOut_1 ?_
  rintro _ _ ⟨rfl, rfl⟩
  refine js_if_neB (pc := 4) (tgt := 9) F dX4_carryFoldOut_4 (by decide) (fun h4 => ?_) (fun h4 => ?_)
  · skip
    refine js_aload_n (pc := 9) 0 F rfl dX4_carryFoldOut_9 ?_
    refine js_callv (pc := 10) F (c_X2_halve _ hy (j := i) (by omega) (G := G) hS h4) mf_X2_halve gX4_carryFoldOut_X2_halve rfl (by decide) (by unfold js_kS; omega) (js_ct_S (by omega)) rfl rfl rfl (Nat.le_of_ble_eq_true rfl) dX4_carryFoldOut_10 ?_
    rintro G2 ⟨p1, p2⟩
    refine js_iconst (pc := 13) (v := nI (1)) F (by decide) dX4_carryFoldOut_13 ?_
    refine js_iret (pc := 14) F hr (rfl) ?_ dX4_carryFoldOut_14
    exact Or.inr ⟨_, if_pos h4, rfl, hT.fn0 hi p2 p1, js_fn.of p2 hi⟩
  · skip
    refine js_iconst (pc := 7) (v := nI (0)) F (by decide) dX4_carryFoldOut_7 ?_
    refine js_iret (pc := 8) F hr (rfl) ?_ dX4_carryFoldOut_8
    exact Or.inl ⟨if_neg h4, rfl, rfl⟩
theorem in_X4_carryOrderOut_1 : ∀ w ∈ wsX10, w ∈ wsX4_carryOrderOut := by decide +kernel
theorem in_X4_carryOrderOut_2 : ∀ w ∈ wsX20, w ∈ wsX4_carryOrderOut := by decide +kernel
theorem in_X4_carryOrderOut_4 : ∀ w ∈ wsX40, w ∈ wsX4_carryOrderOut := by decide +kernel
theorem lk_X4_carryOrderOut_fieldLink_RX4_10_JoinedSketches_now_LJoinedSketches_State : Cond.fieldLink RX4 10 "JoinedSketches" "now" "LJoinedSketches$State;" ∈ wsX4_carryOrderOut := by decide +kernel
theorem lk_X4_carryOrderOut_fieldLink_RX4_34_JoinedSketches_pad_LJoinedSketches_Pad : Cond.fieldLink RX4 34 "JoinedSketches" "pad" "LJoinedSketches$Pad;" ∈ wsX4_carryOrderOut := by decide +kernel
theorem mf_X4_carryOrderOut : js_M yX4_carryOrderOut cX4_carryOrderOut 2 (some .boolean) wsX4_carryOrderOut 0 := ⟨⟨_, rfl⟩, by decide +kernel, by decide +kernel, by decide +kernel, by decide +kernel⟩
set_option maxHeartbeats 4000000 in
set_option maxRecDepth 100000 in
theorem c_X4_carryOrderOut (la : Launch) {y : js_L} (hy : js_Dy y) {G : js_G} {s : js_T} (hT : jr_T G 0 s) {i : Nat} (hi : i < 6) {ns : List Nat} (hN : jr_N G ns) {verb : Nat} (hok : jo_ok verb ns) (h3 : G 187 3 = nI i) (h4 : G 187 4 = nI verb) (hv : verb ≤ 126) : js_Ci la y yX4_carryOrderOut wsX4_carryOrderOut 6 124 [.ref (js_ad y (190))] G (fun r G' => jo_post (jo_one verb i ns s) r G G') := by
  have hS := hT.K0 hi
  obtain ⟨k1, k2, k3, k4⟩ := hok
  refine js_ofi mf_X4_carryOrderOut (Nat.le_of_ble_eq_true rfl) hy (fun X F hr => ?_)
  replace F : js_F X y cX4_carryOrderOut 2 RX4 wsX4_carryOrderOut 6 124 := F
  show js_W X y 2 _ G 0 [(0, .ref (js_ad y (190)))] []
  refine js_aload_n (pc := 0) 0 F rfl dX4_carryOrderOut_0 ?_
  refine jg_X_now (pc := 1) F in_X4_carryOrderOut_4 (lk_X4_carryOrderOut_fieldLink_RX4_10_JoinedSketches_now_LJoinedSketches_State) dX4_carryOrderOut_1 ?_
  refine js_aload_n (pc := 4) 0 F rfl dX4_carryOrderOut_4 ?_
  refine jg_X_pad (pc := 5) F in_X4_carryOrderOut_4 (lk_X4_carryOrderOut_fieldLink_RX4_34_JoinedSketches_pad_LJoinedSketches_Pad) dX4_carryOrderOut_5 ?_
  refine jgN_4_238 (pc := 8) (v := nI (i)) F in_X4_carryOrderOut_1 (h3) dX4_carryOrderOut_8 ?_
  refine js_callq (pc := 11) F (c_sk_ok _ hy (G := G) (i := i) hi) mf_X3_sketchAt gX4_carryOrderOut_X3_sketchAt rfl (by decide) (by unfold js_kA; omega) (js_ct_A (by decide)) rfl rfl rfl (Nat.le_of_ble_eq_true rfl) dX4_carryOrderOut_11 ?_
  rintro _ _ ⟨rfl, rfl⟩
  show js_W X y 2 (js_Qi X y (fun r G' => jo_post (jo_one verb i ns s) r G G')) G (11 + 3) [(0, .ref (js_ad y (190)))] [.ref (js_ad y (js_kS i))]
  refine js_astore_n (pc := 14) (lv2 := [(0, .ref (js_ad y (190))), (1, .ref (js_ad y (js_kS i)))]) F dX4_carryOrderOut_14 (by decide) [1, 0] rfl ?_
  refine js_aload_n (pc := 15) 1 F rfl dX4_carryOrderOut_15 ?_
  refine js_ifnonnull (pc := 16) (tgt := 21) F dX4_carryOrderOut_16 (by decide) ?_
  refine js_aload_n (pc := 21) 0 F rfl dX4_carryOrderOut_21 ?_
  refine jg_X_pad (pc := 22) F in_X4_carryOrderOut_4 (lk_X4_carryOrderOut_fieldLink_RX4_34_JoinedSketches_pad_LJoinedSketches_Pad) dX4_carryOrderOut_22 ?_
  refine jgN_4_241 (pc := 25) (v := nI (verb)) F in_X4_carryOrderOut_1 (h4) dX4_carryOrderOut_25 ?_
  rcases (show verb = 58 ∨ verb = 38 ∨ verb = 42 ∨ verb = 47 ∨ (verb ≠ 58 ∧ verb ≠ 38 ∧ verb ≠ 42 ∧ verb ≠ 47) by omega) with v28 | v28 | v28 | v28 | v28
  · skip
    refine js_lookup (pc := 28) (off := 44) (tgt := 72) F dX4_carryOrderOut_28 (by decide) (by rw [v28]; decide) (by decide) ?_
    refine js_aload_n (pc := 72) 0 F rfl dX4_carryOrderOut_72 ?_
    refine js_aload_n (pc := 73) 1 F rfl dX4_carryOrderOut_73 ?_
    refine js_calli (pc := 74) F (c_X4_carryThingsOut _ hy (G := G) hT hi hN k1 k2) mf_X4_carryThingsOut gX4_carryOrderOut_X4_carryThingsOut rfl (by decide) (by decide) (js_ct_X) rfl rfl rfl (Nat.le_of_ble_eq_true rfl) dX4_carryOrderOut_74 ?_
    rintro _ G2 ⟨rfl, p1, p2⟩
    refine js_iret (pc := 77) F hr (by first | rfl | (rcases q2 with ⟨_, rfl, _⟩ | ⟨_, _, rfl, _⟩ <;> rfl)) ?_ dX4_carryOrderOut_77
    exact Or.inr ⟨_, if_pos v28, rfl, p1, p2⟩
  · skip
    refine js_lookup (pc := 28) (off := 50) (tgt := 78) F dX4_carryOrderOut_28 (by decide) (by rw [v28]; decide) (by decide) ?_
    refine js_aload_n (pc := 78) 0 F rfl dX4_carryOrderOut_78 ?_
    refine js_aload_n (pc := 79) 1 F rfl dX4_carryOrderOut_79 ?_
    refine js_calli (pc := 80) F (c_X4_carryJoinOut _ hy (G := G) hT hi hN k1 (by have := (k3 v28).1; omega) rfl (k3 v28).2) mf_X4_carryJoinOut gX4_carryOrderOut_X4_carryJoinOut rfl (by decide) (by decide) (js_ct_X) rfl rfl rfl (Nat.le_of_ble_eq_true rfl) dX4_carryOrderOut_80 ?_
    rintro r2 G2 q2
    refine js_iret (pc := 83) F hr (by first | rfl | (rcases q2 with ⟨_, rfl, _⟩ | ⟨_, _, rfl, _⟩ <;> rfl)) ?_ dX4_carryOrderOut_83
    rw [show jo_one verb i ns s = _ from by unfold jo_one; rw [if_neg (by omega), if_pos v28]]
    exact q2
  · skip
    refine js_lookup (pc := 28) (off := 56) (tgt := 84) F dX4_carryOrderOut_28 (by decide) (by rw [v28]; decide) (by decide) ?_
    refine js_aload_n (pc := 84) 0 F rfl dX4_carryOrderOut_84 ?_
    refine js_aload_n (pc := 85) 1 F rfl dX4_carryOrderOut_85 ?_
    refine js_calli (pc := 86) F (c_X4_carryRangeOut _ hy (G := G) hT hi hN (k4 v28) rfl rfl (k2 _ (jm_getD_mem (by have := k4 v28; omega))) (k2 _ (jm_getD_mem (by have := k4 v28; omega)))) mf_X4_carryRangeOut gX4_carryOrderOut_X4_carryRangeOut rfl (by decide) (by decide) (js_ct_X) rfl rfl rfl (Nat.le_of_ble_eq_true rfl) dX4_carryOrderOut_86 ?_
    rintro r2 G2 q2
    refine js_iret (pc := 89) F hr (by first | rfl | (rcases q2 with ⟨_, rfl, _⟩ | ⟨_, _, rfl, _⟩ <;> rfl)) ?_ dX4_carryOrderOut_89
    rw [show jo_one verb i ns s = _ from by unfold jo_one; rw [if_neg (by omega), if_neg (by omega), if_pos v28]]
    exact q2
  · skip
    refine js_lookup (pc := 28) (off := 62) (tgt := 90) F dX4_carryOrderOut_28 (by decide) (by rw [v28]; decide) (by decide) ?_
    refine js_aload_n (pc := 90) 1 F rfl dX4_carryOrderOut_90 ?_
    refine js_callsi (pc := 91) F (c_X4_carryFoldOut _ hy (G := G) hT hi ) mf_X4_carryFoldOut gX4_carryOrderOut_X4_carryFoldOut (by decide) rfl rfl (Nat.le_of_ble_eq_true rfl) dX4_carryOrderOut_91 ?_
    rintro r2 G2 q2
    refine js_iret (pc := 94) F hr (by first | rfl | (rcases q2 with ⟨_, rfl, _⟩ | ⟨_, _, rfl, _⟩ <;> rfl)) ?_ dX4_carryOrderOut_94
    rw [show jo_one verb i ns s = _ from by unfold jo_one; rw [if_neg (by omega), if_neg (by omega), if_neg (by omega), if_pos v28]]
    exact q2
  · skip
    refine js_lookup (pc := 28) (off := 67) (tgt := 95) F dX4_carryOrderOut_28 (by decide) (show Op.lookupswitch.offset [(38, 50), (42, 56), (47, 62), (58, 44)] 67 (nI (verb)).toInt = 67 by rw [nI_toInt (by omega)]; simp only [Op.lookupswitch.offset]; repeat rw [if_neg (by omega)]) (by decide) ?_
    refine js_aload_n (pc := 95) 1 F rfl dX4_carryOrderOut_95 ?_
    refine js_aload_n (pc := 96) 1 F rfl dX4_carryOrderOut_96 ?_
    refine jgN_4_62 (pc := 97) (v := nI ((s.2 i).1)) F in_X4_carryOrderOut_2 (by omega) (hS.2.2.1) dX4_carryOrderOut_97 ?_
    refine js_callv (pc := 100) F (c_X2_startAgain _ hy (j := i) (by omega) (G := G) (B := (s.2 i).1) hS.1 hS.2.1) mf_X2_startAgain gX4_carryOrderOut_X2_startAgain rfl (by decide) (by unfold js_kS; omega) (js_ct_S (by omega)) rfl rfl rfl (Nat.le_of_ble_eq_true rfl) dX4_carryOrderOut_100 ?_
    rintro G2 ⟨p1, p2⟩
    refine js_iconst (pc := 103) (v := nI (1)) F (by decide) dX4_carryOrderOut_103 ?_
    refine js_iret (pc := 104) F hr (by first | rfl | (rcases q2 with ⟨_, rfl, _⟩ | ⟨_, _, rfl, _⟩ <;> rfl)) ?_ dX4_carryOrderOut_104
    exact Or.inr ⟨_, by unfold jo_one; rw [if_neg v28.1, if_neg v28.2.1, if_neg v28.2.2.1, if_neg v28.2.2.2], rfl, hT.fn0 hi p2 p1, js_fn.of p2 hi⟩
theorem in_X4_carryOut_4 : ∀ w ∈ wsX40, w ∈ wsX4_carryOut := by decide +kernel
theorem lk_X4_carryOut_fieldLink_RX4_10_JoinedSketches_now_LJoinedSketches_State : Cond.fieldLink RX4 10 "JoinedSketches" "now" "LJoinedSketches$State;" ∈ wsX4_carryOut := by decide +kernel
theorem lk_X4_carryOut_fieldLink_RX4_19_JoinedSketches_history_LJoinedSketches_History : Cond.fieldLink RX4 19 "JoinedSketches" "history" "LJoinedSketches$History;" ∈ wsX4_carryOut := by decide +kernel
theorem lk_X4_carryOut_fieldLink_RX4_34_JoinedSketches_pad_LJoinedSketches_Pad : Cond.fieldLink RX4 34 "JoinedSketches" "pad" "LJoinedSketches$Pad;" ∈ wsX4_carryOut := by decide +kernel
theorem mf_X4_carryOut : js_M yX4_carryOut cX4_carryOut 2 (some .int) wsX4_carryOut 0 := ⟨⟨_, rfl⟩, by decide +kernel, by decide +kernel, by decide +kernel, by decide +kernel⟩
set_option maxHeartbeats 4000000 in
set_option maxRecDepth 100000 in
theorem c_X4_carryOut (la : Launch) {y : js_L} (hy : js_Dy y) {G : js_G} {c : js_C} (hC : jr_C G c) : js_Ci la y yX4_carryOut wsX4_carryOut 7 145 [.ref (js_ad y (190))] G (fun r G' => jP (ms_carryOut c) r G G') := by
  have hpl := hC.2.2.2.2.1
  refine js_ofi mf_X4_carryOut (Nat.le_of_ble_eq_true rfl) hy (fun X F hr => ?_)
  replace F : js_F X y cX4_carryOut 2 RX4 wsX4_carryOut 7 145 := F
  show js_W X y 2 _ G 0 [(0, .ref (js_ad y (190)))] []
  refine js_aload_n (pc := 0) 0 F rfl dX4_carryOut_0 ?_
  refine jg_X_pad (pc := 1) F in_X4_carryOut_4 (lk_X4_carryOut_fieldLink_RX4_34_JoinedSketches_pad_LJoinedSketches_Pad) dX4_carryOut_1 ?_
  refine js_calli (pc := 4) F (c_X1_faultPlace _ hy (G := G) (p := c.2.2.2) hC.2.2.2) mf_X1_faultPlace gX4_carryOut_X1_faultPlace rfl (by decide) (by decide) (js_ct_P) rfl rfl rfl (Nat.le_of_ble_eq_true rfl) dX4_carryOut_4 ?_
  rintro _ G0 ⟨rfl, f0⟩
  refine js_bipush (pc := 7) (v := (-6)) F (by decide) dX4_carryOut_7 ?_
  refine js_icmp_eq (pc := 9) (tgt := 15) F dX4_carryOut_9 (by decide) (fun h9 => ?_) (fun h9 => ?_)
  · skip
    have hfl := (jp_fa_none hpl).mp h9
    have hC0 : jr_C G0 c := hC.pp f0.pp (f0.P hC.2.2.2)
    refine js_aload_n (pc := 15) 0 F rfl dX4_carryOut_15 ?_
    refine jg_X_history (pc := 16) F in_X4_carryOut_4 (lk_X4_carryOut_fieldLink_RX4_19_JoinedSketches_history_LJoinedSketches_History) dX4_carryOut_16 ?_
    refine js_aload_n (pc := 19) 0 F rfl dX4_carryOut_19 ?_
    refine jg_X_now (pc := 20) F in_X4_carryOut_4 (lk_X4_carryOut_fieldLink_RX4_10_JoinedSketches_now_LJoinedSketches_State) dX4_carryOut_20 ?_
    refine js_callv (pc := 23) F (c_X0_record _ hy (G := G0) (h := c.2.1) hC0.2.1 hC0.1) mf_X0_record gX4_carryOut_X0_record rfl (by decide) (by decide) (js_ct_H) rfl rfl rfl (Nat.le_of_ble_eq_true rfl) dX4_carryOut_23 ?_
    rintro G1 ⟨q1, q2⟩
    have hC1 := hC0.rec q1 q2
    have hX : js_frX G G1 := (js_frX.pp f0.pp).tr (js_frX.ofH q2)
    refine js_iconst (pc := 26) (v := nI (0)) F (by decide) dX4_carryOut_26 ?_
    refine js_istore_n (pc := 27) (lv2 := [(0, .ref (js_ad y (190))), (1, .int (nI (0)))]) F dX4_carryOut_27 (by decide) [1, 0] rfl ?_
    refine js_aload_n (pc := 28) 0 F rfl dX4_carryOut_28 ?_
    refine jg_X_pad (pc := 29) F in_X4_carryOut_4 (lk_X4_carryOut_fieldLink_RX4_34_JoinedSketches_pad_LJoinedSketches_Pad) dX4_carryOut_29 ?_
    refine js_callv (pc := 32) F (c_X1_goToStart _ hy (G := G1)) mf_X1_goToStart gX4_carryOut_X1_goToStart rfl (by decide) (by decide) (js_ct_P) rfl rfl rfl (Nat.le_of_ble_eq_true rfl) dX4_carryOut_32 ?_
    rintro _ rfl
    have L35 : ∀ (fu35 : Nat) (k : Nat) (b : Nat) (s : js_T) (G2 : js_G) (hk : k ≤ 80) (hb8 : b ≤ c.2.2.2.length) (hm : jo_run c.2.2.2 80 0 c.1 0 = jo_run c.2.2.2 (80 - k) b s k) (hT2 : jr_T G2 0 s) (hP2 : jr_P G2 c.2.2.2) (hb : G2 187 2 = nI b) (hf : js_fo G1 G2) (hfu35 : 80 - k < fu35), js_W X y 2 (js_Qi X y (fun r G' => jP (ms_carryOut c) r G G')) G2 35 [(0, .ref (js_ad y (190))), (1, .int (nI (k)))] [] := by
      intro fu35
      induction fu35 with
      | zero => intro k b s G2 hk hb8 hm hT2 hP2 hb hf hfu35; exact absurd hfu35 (Nat.not_lt_zero _)
      | succ fu35 ih35 =>
        intro k b s G2 hk hb8 hm hT2 hP2 hb hf hfu35
        refine js_iload_n (pc := 35) 1 F rfl dX4_carryOut_35 ?_
        refine js_bipush (pc := 36) (v := nI (80)) F (by decide) dX4_carryOut_36 ?_
        refine js_icmp_geN (pc := 38) (a := k) (b := 80) (tgt := 76) F (by omega) (by decide) dX4_carryOut_38 (by decide) (fun h38 => ?_) (fun h38 => ?_)
        · skip
          refine js_aload_n (pc := 76) 0 F rfl dX4_carryOut_76 ?_
          refine jg_X_pad (pc := 77) F in_X4_carryOut_4 (lk_X4_carryOut_fieldLink_RX4_34_JoinedSketches_pad_LJoinedSketches_Pad) dX4_carryOut_77 ?_
          refine js_callv (pc := 80) F (c_X1_clear _ hy (G := G2)) mf_X1_clear gX4_carryOut_X1_clear rfl (by decide) (by decide) (js_ct_P) rfl rfl rfl (Nat.le_of_ble_eq_true rfl) dX4_carryOut_80 ?_
          rintro _ rfl
          refine js_iload_n (pc := 83) 1 F rfl dX4_carryOut_83 ?_
          refine js_iret (pc := 84) F hr (rfl) ?_ dX4_carryOut_84
          exact jo_end (s0 := c.1) (h := c.2.1) (v := c.2.2.1) (p := c.2.2.2) hfl hX hC1 (hf) (hT2) (by rw [hm, show 80 - k = 0 by omega]; rfl)
        · skip
          refine js_aload_n (pc := 41) 0 F rfl dX4_carryOut_41 ?_
          refine jg_X_pad (pc := 42) F in_X4_carryOut_4 (lk_X4_carryOut_fieldLink_RX4_34_JoinedSketches_pad_LJoinedSketches_Pad) dX4_carryOut_42 ?_
          refine js_calli (pc := 45) F (c_X1_readOrder _ hy (G := G2) (p := c.2.2.2) (hP2) (a := b) (hb) (by omega)) mf_X1_readOrder gX4_carryOut_X1_readOrder rfl (by decide) (by decide) (js_ct_P) rfl rfl rfl (Nat.le_of_ble_eq_true rfl) dX4_carryOut_45 ?_
          rintro _ G45 ⟨rfl, e45, n45, f45⟩
          have P45 := f45.P (hP2)
          obtain ⟨l45a, l45b, l45c⟩ := jp_ord_le (p := c.2.2.2) (a := b) (by omega)
          refine js_if_eqB (pc := 48) (tgt := 76) F dX4_carryOut_48 (by decide) (fun h48 => ?_) (fun h48 => ?_)
          · skip
            refine js_aload_n (pc := 76) 0 F rfl dX4_carryOut_76 ?_
            refine jg_X_pad (pc := 77) F in_X4_carryOut_4 (lk_X4_carryOut_fieldLink_RX4_34_JoinedSketches_pad_LJoinedSketches_Pad) dX4_carryOut_77 ?_
            refine js_callv (pc := 80) F (c_X1_clear _ hy (G := G45)) mf_X1_clear gX4_carryOut_X1_clear rfl (by decide) (by decide) (js_ct_P) rfl rfl rfl (Nat.le_of_ble_eq_true rfl) dX4_carryOut_80 ?_
            rintro _ rfl
            refine js_iload_n (pc := 83) 1 F rfl dX4_carryOut_83 ?_
            refine js_iret (pc := 84) F hr (rfl) ?_ dX4_carryOut_84
            first | exact jo_end (s0 := c.1) (h := c.2.1) (v := c.2.2.1) (p := c.2.2.2) hfl hX hC1 (hf.tr (js_fo.pp f45.pp)) (f45.T hT2) (by rw [hm, show 80 - k = (80 - (k + 1)) + 1 by omega, jo_run_no h48])
                  | exact jo_end (s0 := c.1) (h := c.2.1) (v := c.2.2.1) (p := c.2.2.2) hfl hX hC1 (hf.tr (js_fo.pp f45.pp)) (f45.T hT2) (by rw [hm, show 80 - k = (80 - (k + 1)) + 1 by omega, jo_run_none h48 o52])
          · skip
            refine js_aload_n (pc := 51) 0 F rfl dX4_carryOut_51 ?_
            have hs45 := jp_ord_s h48
            have N45 := n45 h48
            refine js_calli (pc := 52) F (c_X4_carryOrderOut _ hy (G := G45) (s := s) (f45.T hT2) (i := jq c.2.2.2 b - 48) (by have := hs45.2; omega) N45.1 (jp_ord_ok h48) N45.2.1 N45.2.2 (P45.q _)) mf_X4_carryOrderOut gX4_carryOut_X4_carryOrderOut rfl (by decide) (by decide) (js_ct_X) rfl rfl rfl (Nat.le_of_ble_eq_true rfl) dX4_carryOut_52 ?_
            rintro _ G52 (⟨o52, rfl, rfl⟩ | ⟨s52, o52, rfl, t52, f52⟩)
            · skip
              refine js_if_eqN (pc := 55) (a := 0) (tgt := 76) F (by decide) dX4_carryOut_55 (by decide) (fun _ => ?_) (fun h55 => by exfalso; revert h55; decide)
              refine js_aload_n (pc := 76) 0 F rfl dX4_carryOut_76 ?_
              refine jg_X_pad (pc := 77) F in_X4_carryOut_4 (lk_X4_carryOut_fieldLink_RX4_34_JoinedSketches_pad_LJoinedSketches_Pad) dX4_carryOut_77 ?_
              refine js_callv (pc := 80) F (c_X1_clear _ hy (G := G45)) mf_X1_clear gX4_carryOut_X1_clear rfl (by decide) (by decide) (js_ct_P) rfl rfl rfl (Nat.le_of_ble_eq_true rfl) dX4_carryOut_80 ?_
              rintro _ rfl
              refine js_iload_n (pc := 83) 1 F rfl dX4_carryOut_83 ?_
              refine js_iret (pc := 84) F hr (rfl) ?_ dX4_carryOut_84
              first | exact jo_end (s0 := c.1) (h := c.2.1) (v := c.2.2.1) (p := c.2.2.2) hfl hX hC1 (hf.tr (js_fo.pp f45.pp)) (f45.T hT2) (by rw [hm, show 80 - k = (80 - (k + 1)) + 1 by omega, jo_run_no h48])
                    | exact jo_end (s0 := c.1) (h := c.2.1) (v := c.2.2.1) (p := c.2.2.2) hfl hX hC1 (hf.tr (js_fo.pp f45.pp)) (f45.T hT2) (by rw [hm, show 80 - k = (80 - (k + 1)) + 1 by omega, jo_run_none h48 o52])
            · skip
              have P52 := P45.fn f52
              have e52 : G52 187 2 = nI ((jp_ord c.2.2.2 b).2.1) := by rw [f52 187 (by decide) (by decide)]; exact e45
              refine js_if_eqN (pc := 55) (a := 1) (tgt := 76) F (by decide) dX4_carryOut_55 (by decide) (fun h55 => by exfalso; revert h55; decide) (fun _ => ?_)
              refine js_iinc (pc := 58) (v := nI (k + 1)) (lv2 := [(0, .ref (js_ad y (190))), (1, .int (nI (k + 1)))]) F dX4_carryOut_58 1 rfl (nI_add _ _) (by decide) [1, 0] rfl ?_
              refine js_aload_n (pc := 61) 0 F rfl dX4_carryOut_61 ?_
              refine jg_X_pad (pc := 62) F in_X4_carryOut_4 (lk_X4_carryOut_fieldLink_RX4_34_JoinedSketches_pad_LJoinedSketches_Pad) dX4_carryOut_62 ?_
              refine js_bipush (pc := 65) (v := nI (59)) F (by decide) dX4_carryOut_65 ?_
              refine js_calli (pc := 67) F (c_X1_accept _ hy (G := G52) (p := c.2.2.2) (P52) (a := (jp_ord c.2.2.2 b).2.1) (e52) (by omega) (w := 59) (by decide)) mf_X1_accept gX4_carryOut_X1_accept rfl (by decide) (by decide) (js_ct_P) rfl rfl rfl (Nat.le_of_ble_eq_true rfl) dX4_carryOut_67 ?_
              rintro _ _ (⟨a67, rfl, rfl⟩ | ⟨a67, rfl, rfl⟩)
              · skip
                refine js_if_neN (pc := 70) (a := 1) (tgt := 35) F (by decide) dX4_carryOut_70 (by decide) (fun _ => ?_) (fun h70 => by exfalso; revert h70; decide)
                exact ih35 (k + 1) ((jp_ord c.2.2.2 b).2.1 + 1) s52 (js_st G52 (187) (2) (nI (((jp_ord c.2.2.2 b).2.1) + 1))) (by omega) (jq_lt (by omega)) (by rw [hm, show 80 - k = (80 - (k + 1)) + 1 by omega, jo_run_go h48 o52 a67]) (t52.pp (js_fpp.st (Or.inl rfl)) (by decide)) ((js_fp.st (by decide)).P P52) (by rw [js_st_s]; simp [upd]) (((hf.tr (js_fo.pp f45.pp)).tr (js_fo.n f52)).tr (js_fo.pp (js_fpp.st (Or.inl rfl)))) (by omega)
              · skip
                refine js_if_neN (pc := 70) (a := 0) (tgt := 35) F (by decide) dX4_carryOut_70 (by decide) (fun h70 => by exfalso; revert h70; decide) (fun _ => ?_)
                refine js_goto (pc := 73) (tgt := 76) F dX4_carryOut_73 (by decide) ?_
                refine js_aload_n (pc := 76) 0 F rfl dX4_carryOut_76 ?_
                refine jg_X_pad (pc := 77) F in_X4_carryOut_4 (lk_X4_carryOut_fieldLink_RX4_34_JoinedSketches_pad_LJoinedSketches_Pad) dX4_carryOut_77 ?_
                refine js_callv (pc := 80) F (c_X1_clear _ hy (G := G52)) mf_X1_clear gX4_carryOut_X1_clear rfl (by decide) (by decide) (js_ct_P) rfl rfl rfl (Nat.le_of_ble_eq_true rfl) dX4_carryOut_80 ?_
                rintro _ rfl
                refine js_iload_n (pc := 83) 1 F rfl dX4_carryOut_83 ?_
                refine js_iret (pc := 84) F hr (rfl) ?_ dX4_carryOut_84
                exact jo_end (s0 := c.1) (h := c.2.1) (v := c.2.2.1) (p := c.2.2.2) hfl hX hC1 ((hf.tr (js_fo.pp f45.pp)).tr (js_fo.n f52)) (t52) (by rw [hm, show 80 - k = (80 - (k + 1)) + 1 by omega, jo_run_end h48 o52 a67])
    exact L35 (_ + 1) 0 0 c.1 (js_st G1 (187) (2) (nI (0))) (by decide) (Nat.zero_le _) (rfl) (hC1.1.pp (js_fpp.st (Or.inl rfl)) (by decide)) ((js_fp.st (by decide)).P hC1.2.2.2) (by rw [js_st_s]; simp [upd]) (js_fo.pp (js_fpp.st (Or.inl rfl))) (Nat.lt_succ_self _)
  · skip
    refine js_bipush (pc := 12) (v := (-3)) F (by decide) dX4_carryOut_12 ?_
    refine js_iret (pc := 14) F hr (rfl) ?_ dX4_carryOut_14
    show jP (ms_carryOut c) _ _ _
    rw [show ms_carryOut c = (-3, c) from if_pos (fun z => h9 ((jp_fa_none hpl).mpr z))]
    exact ⟨rfl, hC.pp f0.pp (f0.P hC.2.2.2), js_frX.pp f0.pp⟩
