/-! the reference's constructor: the store is whole behind it -/
theorem in_X5_init_5 : ∀ w ∈ wsX50, w ∈ wsX5_init := by decide +kernel
theorem lk_X5_init_obj1 : Cond.methodLink RX5 1 objectInit ∈ wsX5_init := by decide +kernel
theorem lk_X5_init_obj2 : Cond.instanceMethod objectInit ∈ wsX5_init := by decide +kernel
theorem lk_X5_init_obj3 : Cond.code objectInit ⟨#[0xb1]⟩ 1 none ∈ wsX5_init := by decide +kernel
theorem lk_X5_init_arrayClass_int : Cond.arrayClass .int ∈ wsX5_init := by decide +kernel
theorem lk_X5_init_state : Cond.fieldLink RX5 7 "JoinedSketchesModel" "state" "[I" ∈ wsX5_init := by decide +kernel
theorem lk_X5_init_history : Cond.fieldLink RX5 13 "JoinedSketchesModel" "history" "[I" ∈ wsX5_init := by decide +kernel
theorem lk_X5_init_slots : Cond.fieldLink RX5 16 "JoinedSketchesModel" "slots" "[I" ∈ wsX5_init := by decide +kernel
theorem lk_X5_init_isSaved : Cond.fieldLink RX5 19 "JoinedSketchesModel" "isSaved" "[I" ∈ wsX5_init := by decide +kernel
theorem lk_X5_init_pad : Cond.fieldLink RX5 22 "JoinedSketchesModel" "pad" "[I" ∈ wsX5_init := by decide +kernel
theorem lk_X5_init_ranks : Cond.fieldLink RX5 25 "JoinedSketchesModel" "ranks" "[I" ∈ wsX5_init := by decide +kernel
theorem lk_X5_init_numbers : Cond.fieldLink RX5 28 "JoinedSketchesModel" "numbers" "[I" ∈ wsX5_init := by decide +kernel
set_option maxHeartbeats 4000000 in
set_option maxRecDepth 100000 in
theorem c_X5_init_tail {X : js_X} {y : js_L} (hy : js_Dy y) (F : js_F X y cX5_init 2 RX5 wsX5_init 2 35) (hr : (js_Xt X).sig.returnType = none) : js_W X y 2 (js_Qv X y (fun G' => jr_C G' jc0 ∧ mr_C G' jc0)) js_G0 62 [(0, .ref (js_ad y (191)))] [] := by
  refine js_aload_n (pc := 62) 0 F rfl dX5_init_62 ?_
  refine jg_M_state (pc := 63) F in_X5_init_5 lk_X5_init_state dX5_init_63 ?_
  refine js_iconst (pc := 66) (v := nI 0) F (by decide) dX5_init_66 ?_
  refine js_sipush (pc := 67) (v := nI 12345) F (by decide) dX5_init_67 ?_
  refine js_iast (pc := 70) (n := 637) (k := 192) (j := 0) F (by decide) (fun _ => js_ct_Ms) rfl (by decide) (by decide) dX5_init_70 ?_
  refine js_iconst (pc := 71) (v := nI 0) F (by decide) dX5_init_71 ?_
  refine js_istore_n (pc := 72) (lv2 := [(0, .ref (js_ad y (191))), (1, .int (nI (0)))]) F dX5_init_72 (by decide) [1, 0] rfl ?_
  have LP : ∀ (fu k : Nat) (G1 : js_G) (hk : k ≤ 6) (ho : ∀ a, a ≠ 192 → G1 a = js_G0 a) (h0 : G1 192 0 = nI 12345) (h1 : ∀ i, i < k → G1 192 ((1 + 106 * i) + 0) = nI 4) (h2 : ∀ i, i < 6 → ∀ j, 1 ≤ j → j < 106 → G1 192 ((1 + 106 * i) + j) = nI 0) (hfu : 6 - k < fu), js_W X y 2 (js_Qv X y (fun G' => jr_C G' jc0 ∧ mr_C G' jc0)) G1 73 [(0, .ref (js_ad y (191))), (1, .int (nI (k)))] [] := by
    intro fu
    induction fu with
    | zero => intro k G1 hk ho h0 h1 h2 hfu; exact absurd hfu (Nat.not_lt_zero _)
    | succ fu ih =>
      intro k G1 hk ho h0 h1 h2 hfu
      refine js_iload_n (pc := 73) 1 F rfl dX5_init_73 ?_
      refine js_bipush (pc := 74) (v := nI (6)) F (by decide) dX5_init_74 ?_
      refine js_icmp_geN (pc := 76) (a := k) (b := 6) (tgt := 92) F (by omega) (by decide) dX5_init_76 (by decide) (fun h6 => ?_) (fun h6 => ?_)
      · refine js_vret (pc := 92) F hr ⟨jr_G0.frM (fun a ha => ho a (by omega)), ⟨h0, by decide, fun i hi => ?_⟩, ⟨?_, by decide, fun k s h => by cases h⟩, fun i hi => ⟨?_, fun s h => by cases h⟩, ?_, by decide, fun k hk => by cases hk⟩ dX5_init_92
        · show mr_S G1 192 (0 + (1 + 106 * i)) 4 (fun _ => 0) (some [])
          rw [Nat.zero_add]
          exact mr_S_e (by decide) (by decide) (h1 i (by omega)) (h2 i hi)
        · rw [ho 191 (by decide)]; rfl
        · rw [ho 195 (by decide)]; rfl
        · rw [ho 191 (by decide)]; rfl
      · refine js_aload_n (pc := 79) 0 F rfl dX5_init_79 ?_
        refine js_iload_n (pc := 80) 1 F rfl dX5_init_80 ?_
        refine js_iconst (pc := 81) (v := nI (0)) F (by decide) dX5_init_81 ?_
        refine js_iconst (pc := 82) (v := nI (4)) F (by decide) dX5_init_82 ?_
        refine js_callv (pc := 83) F (c_X5_setPart _ hy (G := G1) (s := k) (p := 0) (v := nI (4)) (by omega)) mf_X5_setPart gX5_init_X5_setPart rfl (by decide) (by decide) (js_ct_M) rfl rfl rfl (Nat.le_of_ble_eq_true rfl) dX5_init_83 ?_
        rintro _ rfl
        refine js_iinc (pc := 86) (v := nI (k + 1)) (lv2 := [(0, .ref (js_ad y (191))), (1, .int (nI (k + 1)))]) F dX5_init_86 1 rfl (nI_add _ _) (by decide) [1, 0] rfl ?_
        refine js_goto (pc := 89) (tgt := 73) F dX5_init_89 (by decide) ?_
        refine ih (k + 1) (js_st G1 192 ((1 + 106 * k) + 0) (nI 4)) (by omega) (fun a ha => (js_st_n ha).trans (ho a ha)) (by rw [js_st_s]; exact (if_neg (by omega)).trans h0) (fun i hi => ?_) (fun i hi j h3 h4 => by rw [js_st_s]; exact (if_neg (by omega)).trans (h2 i hi j h3 h4)) (by omega)
        rw [js_st_s]
        unfold upd
        by_cases q : i = k
        · rw [if_pos (by omega)]
        · rw [if_neg (by omega)]; exact h1 i (by omega)
  exact LP 7 0 _ (by decide) (fun a ha => js_st_n ha) (by rw [js_st_s]; rfl) (fun i hi => absurd hi (Nat.not_lt_zero _)) (fun i hi j h3 h4 => by rw [js_st_s]; exact (if_neg (by omega)).trans rfl) (by decide)
abbrev kZ (y : js_L) (a : Nat → Nat) (u : (Nat → Nat) × js_G) : Prop := (∀ i, i < 192 → u.1 i = a i) ∧ js_Dy (y5 y u.1) ∧ jr_C u.2 jc0 ∧ mr_C u.2 jc0
theorem kW_mono {X : js_X} {y : js_L} {nL : Nat} {Q Q2 : State → Prop} {G : js_G} {pc : Nat} {lv : List (Nat × Value)} {st : List Value} (h : ∀ t, Q t → Q2 t) (k : js_W X y nL Q G pc lv st) : js_W X y nL Q2 G pc lv st := fun H locs ls hP hS hl T hT St => by
  obtain ⟨t, a1, b1⟩ := k H locs ls hP hS hl T hT St
  exact ⟨t, a1, h t b1⟩
set_option maxHeartbeats 4000000 in
set_option maxRecDepth 100000 in
theorem c_X5_init (la : Launch) {y : js_L} {a : Nat → Nat} : Met la yX5_init wsX5_init ({ frames := 2, cells := 7, slots := 5959, locals := 35 }) (va_Pc [.ref (a 191)] (fun U => kU y 192 a (mQ y a 0) U ∧ js_NW U)) (va_Qv (kZ y a) (fun u t => js_PB (y5 y u.1) u.2 t) (js_A y)) 7 5959 (js_A y) := by
  refine Met.ofW (cc := cX5_init) (maxL := 2) (ret := none) (by decide) rfl ?_
  intro p e s m as below meth c s₁ B hml hv
  obtain ⟨rfl, ⟨hP, hD, hK, hNK⟩, hNW⟩ := hv
  have hts := atoms_spec (ws := wsX5_init) B.pre
  have hown : s.vm.findClass RX5 = some m.cls := findClass_of_methodNamed B.named
  have hl := lv_entry ([.ref (a 191)]) (n := 2) (Nat.le_of_ble_eq_true rfl)
  have hi : meth.name = "<init>" := (name_of_methodNamed B.named B.method).1.trans rfl
  have hz : y.1 ≤ s.heap.size := Nat.le_of_lt (Nat.lt_of_le_of_lt (hD.2 191 _ (aw_at (by decide))) (hP 191 _ (aw_at (by decide))).lt)
  have hr := B.returns
  have key : ∀ X : js_X, kF X y cX5_init 2 RX5 wsX5_init 2 35 7 5959 → js_NW (js_Xs X) → (js_Xt X).sig.returnType = none → (js_Xt X).name = "<init>" → kW X y 2 (MQ (js_Xb X) (va_Qv (kZ y a) (fun u t => js_PB (y5 y u.1) u.2 t) (js_A y)) (js_Xa X) (js_Xs X) 7 5959 (js_A y)) 0 0 192 a (mQ y a 0) 0 [(0, .ref (a 191))] [] := by
    intro X F hNW hr hi
    refine k_aload_n (pc := 0) 0 F rfl dX5_init_0 ?_
    refine k_obj (pc := 1) F lk_X5_init_obj1 lk_X5_init_obj2 lk_X5_init_obj3 (by decide) (by decide) dX5_init_1 ?_
    refine k_aload_n (pc := 4) 0 F rfl dX5_init_4 ?_
    refine k_sipush (pc := 5) (v := nI 637) F (by decide) dX5_init_5 ?_
    refine k_newa (pc := 8) (at0 := .int) (ty := .int) (cA0 := js_cI y) (N := 637) F lk_X5_init_arrayClass_int rfl (k_cls_int F) rfl (by decide) (by decide) (by decide) (by omega) (by omega) dX5_init_8 (fun q => ?_)
    obtain ⟨b0, hcb0⟩ : ∃ z, z = au a 192 q := ⟨_, rfl⟩
    have hgb0 : ∀ i, i < 192 → b0 i = a i := fun i hi => by rw [hcb0]; exact (au_n (by omega)).trans (rfl)
    have heb0 : q = b0 192 := by rw [hcb0]; exact au_s.symm
    refine k_eq (E2 := mQ y b0 0) rfl rfl (fun i hi => by rw [hcb0]; exact mQ_new rfl i) ?_
    rw [← hcb0]
    refine k_putF (pc := 10) (T := TX5) (f := 0) (b := 191) (ci := 5) (fs := mF b0 0) (ty := .array .int) F tyX5 tyX5_ok nmX5 in_X5_init_5 (by decide) (hgb0 191 (by decide)).symm mQ_191 rfl (by decide) lk_X5_init_state rfl rfl hi rfl (by decide +kernel) rfl rfl (Nat.le_of_ble_eq_true rfl) dX5_init_10 ?_
    refine k_eq (E2 := mQ y b0 1) rfl rfl (fun i hi => mQ_put (by rw [heb0]; rfl)) ?_
    refine k_aload_n (pc := 13) 0 F rfl dX5_init_13 ?_
    refine k_sipush (pc := 14) (v := nI 3822) F (by decide) dX5_init_14 ?_
    refine k_newa (pc := 17) (at0 := .int) (ty := .int) (cA0 := js_cI y) (N := 3822) F lk_X5_init_arrayClass_int rfl (k_cls_int F) rfl (by decide) (by decide) (by decide) (by omega) (by omega) dX5_init_17 (fun q => ?_)
    obtain ⟨b1, hcb1⟩ : ∃ z, z = au b0 193 q := ⟨_, rfl⟩
    have hgb1 : ∀ i, i < 192 → b1 i = a i := fun i hi => by rw [hcb1]; exact (au_n (by omega)).trans (hgb0 i hi)
    have heb1 : q = b1 193 := by rw [hcb1]; exact au_s.symm
    refine k_eq (E2 := mQ y b1 1) rfl rfl (fun i hi => by rw [hcb1]; exact mQ_new rfl i) ?_
    rw [← hcb1]
    refine k_putF (pc := 19) (T := TX5) (f := 1) (b := 191) (ci := 5) (fs := mF b1 1) (ty := .array .int) F tyX5 tyX5_ok nmX5 in_X5_init_5 (by decide) (hgb1 191 (by decide)).symm mQ_191 rfl (by decide) lk_X5_init_history rfl rfl hi rfl (by decide +kernel) rfl rfl (Nat.le_of_ble_eq_true rfl) dX5_init_19 ?_
    refine k_eq (E2 := mQ y b1 2) rfl rfl (fun i hi => mQ_put (by rw [heb1]; rfl)) ?_
    refine k_aload_n (pc := 22) 0 F rfl dX5_init_22 ?_
    refine k_sipush (pc := 23) (v := nI 1274) F (by decide) dX5_init_23 ?_
    refine k_newa (pc := 26) (at0 := .int) (ty := .int) (cA0 := js_cI y) (N := 1274) F lk_X5_init_arrayClass_int rfl (k_cls_int F) rfl (by decide) (by decide) (by decide) (by omega) (by omega) dX5_init_26 (fun q => ?_)
    obtain ⟨b2, hcb2⟩ : ∃ z, z = au b1 194 q := ⟨_, rfl⟩
    have hgb2 : ∀ i, i < 192 → b2 i = a i := fun i hi => by rw [hcb2]; exact (au_n (by omega)).trans (hgb1 i hi)
    have heb2 : q = b2 194 := by rw [hcb2]; exact au_s.symm
    refine k_eq (E2 := mQ y b2 2) rfl rfl (fun i hi => by rw [hcb2]; exact mQ_new rfl i) ?_
    rw [← hcb2]
    refine k_putF (pc := 28) (T := TX5) (f := 3) (b := 191) (ci := 5) (fs := mF b2 2) (ty := .array .int) F tyX5 tyX5_ok nmX5 in_X5_init_5 (by decide) (hgb2 191 (by decide)).symm mQ_191 rfl (by decide) lk_X5_init_slots rfl rfl hi rfl (by decide +kernel) rfl rfl (Nat.le_of_ble_eq_true rfl) dX5_init_28 ?_
    refine k_eq (E2 := mQ y b2 3) rfl rfl (fun i hi => mQ_put (by rw [heb2]; rfl)) ?_
    refine k_aload_n (pc := 31) 0 F rfl dX5_init_31 ?_
    refine k_iconst (pc := 32) (v := nI 2) F (by decide) dX5_init_32 ?_
    refine k_newa (pc := 33) (at0 := .int) (ty := .int) (cA0 := js_cI y) (N := 2) F lk_X5_init_arrayClass_int rfl (k_cls_int F) rfl (by decide) (by decide) (by decide) (by omega) (by omega) dX5_init_33 (fun q => ?_)
    obtain ⟨b3, hcb3⟩ : ∃ z, z = au b2 195 q := ⟨_, rfl⟩
    have hgb3 : ∀ i, i < 192 → b3 i = a i := fun i hi => by rw [hcb3]; exact (au_n (by omega)).trans (hgb2 i hi)
    have heb3 : q = b3 195 := by rw [hcb3]; exact au_s.symm
    refine k_eq (E2 := mQ y b3 3) rfl rfl (fun i hi => by rw [hcb3]; exact mQ_new rfl i) ?_
    rw [← hcb3]
    refine k_putF (pc := 35) (T := TX5) (f := 4) (b := 191) (ci := 5) (fs := mF b3 3) (ty := .array .int) F tyX5 tyX5_ok nmX5 in_X5_init_5 (by decide) (hgb3 191 (by decide)).symm mQ_191 rfl (by decide) lk_X5_init_isSaved rfl rfl hi rfl (by decide +kernel) rfl rfl (Nat.le_of_ble_eq_true rfl) dX5_init_35 ?_
    refine k_eq (E2 := mQ y b3 4) rfl rfl (fun i hi => mQ_put (by rw [heb3]; rfl)) ?_
    refine k_aload_n (pc := 38) 0 F rfl dX5_init_38 ?_
    refine k_bipush (pc := 39) (v := nI 80) F (by decide) dX5_init_39 ?_
    refine k_newa (pc := 41) (at0 := .int) (ty := .int) (cA0 := js_cI y) (N := 80) F lk_X5_init_arrayClass_int rfl (k_cls_int F) rfl (by decide) (by decide) (by decide) (by omega) (by omega) dX5_init_41 (fun q => ?_)
    obtain ⟨b4, hcb4⟩ : ∃ z, z = au b3 196 q := ⟨_, rfl⟩
    have hgb4 : ∀ i, i < 192 → b4 i = a i := fun i hi => by rw [hcb4]; exact (au_n (by omega)).trans (hgb3 i hi)
    have heb4 : q = b4 196 := by rw [hcb4]; exact au_s.symm
    refine k_eq (E2 := mQ y b4 4) rfl rfl (fun i hi => by rw [hcb4]; exact mQ_new rfl i) ?_
    rw [← hcb4]
    refine k_putF (pc := 43) (T := TX5) (f := 5) (b := 191) (ci := 5) (fs := mF b4 4) (ty := .array .int) F tyX5 tyX5_ok nmX5 in_X5_init_5 (by decide) (hgb4 191 (by decide)).symm mQ_191 rfl (by decide) lk_X5_init_pad rfl rfl hi rfl (by decide +kernel) rfl rfl (Nat.le_of_ble_eq_true rfl) dX5_init_43 ?_
    refine k_eq (E2 := mQ y b4 5) rfl rfl (fun i hi => mQ_put (by rw [heb4]; rfl)) ?_
    refine k_aload_n (pc := 46) 0 F rfl dX5_init_46 ?_
    refine k_bipush (pc := 47) (v := nI 64) F (by decide) dX5_init_47 ?_
    refine k_newa (pc := 49) (at0 := .int) (ty := .int) (cA0 := js_cI y) (N := 64) F lk_X5_init_arrayClass_int rfl (k_cls_int F) rfl (by decide) (by decide) (by decide) (by omega) (by omega) dX5_init_49 (fun q => ?_)
    obtain ⟨b5, hcb5⟩ : ∃ z, z = au b4 197 q := ⟨_, rfl⟩
    have hgb5 : ∀ i, i < 192 → b5 i = a i := fun i hi => by rw [hcb5]; exact (au_n (by omega)).trans (hgb4 i hi)
    have heb5 : q = b5 197 := by rw [hcb5]; exact au_s.symm
    refine k_eq (E2 := mQ y b5 5) rfl rfl (fun i hi => by rw [hcb5]; exact mQ_new rfl i) ?_
    rw [← hcb5]
    refine k_putF (pc := 51) (T := TX5) (f := 7) (b := 191) (ci := 5) (fs := mF b5 5) (ty := .array .int) F tyX5 tyX5_ok nmX5 in_X5_init_5 (by decide) (hgb5 191 (by decide)).symm mQ_191 rfl (by decide) lk_X5_init_ranks rfl rfl hi rfl (by decide +kernel) rfl rfl (Nat.le_of_ble_eq_true rfl) dX5_init_51 ?_
    refine k_eq (E2 := mQ y b5 6) rfl rfl (fun i hi => mQ_put (by rw [heb5]; rfl)) ?_
    refine k_aload_n (pc := 54) 0 F rfl dX5_init_54 ?_
    refine k_bipush (pc := 55) (v := nI 80) F (by decide) dX5_init_55 ?_
    refine k_newa (pc := 57) (at0 := .int) (ty := .int) (cA0 := js_cI y) (N := 80) F lk_X5_init_arrayClass_int rfl (k_cls_int F) rfl (by decide) (by decide) (by decide) (by omega) (by omega) dX5_init_57 (fun q => ?_)
    obtain ⟨b6, hcb6⟩ : ∃ z, z = au b5 198 q := ⟨_, rfl⟩
    have hgb6 : ∀ i, i < 192 → b6 i = a i := fun i hi => by rw [hcb6]; exact (au_n (by omega)).trans (hgb5 i hi)
    have heb6 : q = b6 198 := by rw [hcb6]; exact au_s.symm
    refine k_eq (E2 := mQ y b6 6) rfl rfl (fun i hi => by rw [hcb6]; exact mQ_new rfl i) ?_
    rw [← hcb6]
    refine k_putF (pc := 59) (T := TX5) (f := 11) (b := 191) (ci := 5) (fs := mF b6 6) (ty := .array .int) F tyX5 tyX5_ok nmX5 in_X5_init_5 (by decide) (hgb6 191 (by decide)).symm mQ_191 rfl (by decide) lk_X5_init_numbers rfl rfl hi rfl (by decide +kernel) rfl rfl (Nat.le_of_ble_eq_true rfl) dX5_init_59 ?_
    refine k_eq (E2 := mQ y b6 7) rfl rfl (fun i hi => mQ_put (by rw [heb6]; rfl)) ?_
    refine k_switch (fun hy => ?_)
    have F2 : js_F (js_Xw X 7 5959) (y5 y b6) cX5_init 2 RX5 wsX5_init 2 35 := ⟨F.1, F.2.1, F.2.2.1, hy, hNW, F.2.2.2.2.1, F.2.2.2.2.2.1⟩
    have hT := c_X5_init_tail hy F2 hr
    rw [show js_ad (y5 y b6) 191 = a 191 from hgb6 191 (by decide)] at hT
    exact kW_mono (fun t ht => by
      obtain ⟨oc, h1, h2, ⟨⟨G', h3, h4, h5⟩, h6⟩, h7⟩ := ht
      exact ⟨oc, h1, h2, ⟨⟨(b6, G'), h3, ⟨hgb6, hy, h4⟩, h5⟩, h6⟩, h7⟩) hT
  rw [lg_entry_eq]
  exact key (p, la, e, (headSpec wsX5_init ({ frames := 2, cells := 7, slots := 5959, locals := 35 } : Room)).room, s, m, ([.ref (a 191)] : List Value).toArray, below, meth, c, 0, 0) ⟨⟨B.exec, B.bytes, hml, hown, hts⟩, B.notSynchronized, hK, hNK, ⟨Nat.le_refl _, Nat.le_refl _⟩, ⟨Nat.le_refl _, Nat.le_refl _⟩, hz⟩ hNW B.returns hi s.heap [] _ hP hD va_S.rf hl
