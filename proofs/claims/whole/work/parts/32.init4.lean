theorem hiE_c {y : js_L} {a a2 : Nat → Nat} {b k : Nat} (hk : k < 122) (h : ∀ i, i < b + 122 → a i = a2 i) : hiE y a b k = hiE y a2 b k := by
  have e : (fun j => if j < 6 then some (a (b + 2 + 20 * j)) else none) = (fun j => if j < 6 then some (a2 (b + 2 + 20 * j)) else none) := by
    funext j
    split
    · rw [h _ (by omega)]
    · rfl
  unfold hiE
  rw [h _ (by omega), e]
  by_cases q : k < 2
  · rcases (show k = 0 ∨ k = 1 by omega) with rfl | rfl <;> rfl
  · rw [if_neg (by omega), if_neg (by omega), if_neg (by omega), if_neg (by omega)]
    exact stE_c (by omega) (fun i hi => h i (by omega))
theorem paE_c {y : js_L} {a a2 : Nat → Nat} {b k : Nat} (h : ∀ i, i < b + 3 → a i = a2 i) : paE y a b k = paE y a2 b k := by unfold paE; rw [h _ (by omega), h _ (by omega)]
/-- the object's fields, the first t of them set -/
def xF (a : Nat → Nat) (t : Nat) : List Value := [if 1 ≤ t then .ref (a 1) else .null, if 2 ≤ t then .ref (a 21) else .null, if 3 ≤ t then .ref (a 143) else .null, if 4 ≤ t then .ref (a 184) else .null, if 5 ≤ t then .ref (a 185) else .null, if 6 ≤ t then .ref (a 188) else .null]
def xS (a : Nat → Nat) (k j : Nat) : Option Nat := if j < k then some (a (144 + 20 * j)) else none
def xP (y : js_L) (a : Nat → Nat) (t k i : Nat) : va_E := if i = 0 then .inr (4, xF a t) else if i < 21 then stE y a 1 (i - 1) else if i < 143 then hiE y a 21 (i - 21) else if i = 143 then .inl (js_cT y, 2, .inr (.inr (.inr (.inr (xS a k))))) else if i < 184 then stE y a (144 + 20 * ((i - 144) / 20)) ((i - 144) % 20) else if i = 184 then .inl (js_cZ y, 2, .inl (fun _ => nI 0)) else if i < 188 then paE y a 185 (i - 185) else skE y a 188 (i - 188)
theorem xP_0 {y : js_L} {a : Nat → Nat} {t k : Nat} : xP y a t k 0 = .inr (4, xF a t) := rfl
theorem xP_1 {y : js_L} {a : Nat → Nat} {t k i : Nat} (h : 1 ≤ i) (h2 : i < 21) : xP y a t k i = stE y a 1 (i - 1) := by unfold xP; rw [if_neg (by omega), if_pos (by omega)]
theorem xP_2 {y : js_L} {a : Nat → Nat} {t k i : Nat} (h : 21 ≤ i) (h2 : i < 143) : xP y a t k i = hiE y a 21 (i - 21) := by unfold xP; rw [if_neg (by omega), if_neg (by omega), if_pos (by omega)]
theorem xP_3 {y : js_L} {a : Nat → Nat} {t k : Nat} : xP y a t k 143 = .inl (js_cT y, 2, .inr (.inr (.inr (.inr (xS a k))))) := rfl
theorem xP_4 {y : js_L} {a : Nat → Nat} {t k i : Nat} (h : 144 ≤ i) (h2 : i < 184) : xP y a t k i = stE y a (144 + 20 * ((i - 144) / 20)) ((i - 144) % 20) := by unfold xP; rw [if_neg (by omega), if_neg (by omega), if_neg (by omega), if_neg (by omega), if_pos (by omega)]
theorem xP_5 {y : js_L} {a : Nat → Nat} {t k : Nat} : xP y a t k 184 = .inl (js_cZ y, 2, .inl (fun _ => nI 0)) := rfl
theorem xP_6 {y : js_L} {a : Nat → Nat} {t k i : Nat} (h : 185 ≤ i) (h2 : i < 188) : xP y a t k i = paE y a 185 (i - 185) := by unfold xP; rw [if_neg (by omega), if_neg (by omega), if_neg (by omega), if_neg (by omega), if_neg (by omega), if_neg (by omega), if_pos (by omega)]
theorem xP_7 {y : js_L} {a : Nat → Nat} {t k i : Nat} (h : 188 ≤ i) : xP y a t k i = skE y a 188 (i - 188) := by unfold xP; rw [if_neg (by omega), if_neg (by omega), if_neg (by omega), if_neg (by omega), if_neg (by omega), if_neg (by omega), if_neg (by omega)]
theorem xP_c {y : js_L} {a a2 : Nat → Nat} {t k i m : Nat} (h : ∀ j, j < m → a j = a2 j) (hi : i < m) (ht : (1 ≤ t → 1 < m) ∧ (2 ≤ t → 21 < m) ∧ (3 ≤ t → 143 < m) ∧ (4 ≤ t → 184 < m) ∧ (5 ≤ t → 185 < m) ∧ (6 ≤ t → 188 < m)) (hk : k = 0 ∨ 144 + 20 * k ≤ m) (hm : (m ≤ 1 ∨ 21 ≤ m) ∧ (m ≤ 21 ∨ 143 ≤ m) ∧ (m ≤ 144 ∨ 164 ≤ m) ∧ (m ≤ 164 ∨ 184 ≤ m) ∧ (m ≤ 185 ∨ 188 ≤ m) ∧ (m ≤ 188 ∨ 191 ≤ m)) (h191 : i < 191) : xP y a t k i = xP y a2 t k i := by
  rcases (show i = 0 ∨ (1 ≤ i ∧ i < 21) ∨ (21 ≤ i ∧ i < 143) ∨ i = 143 ∨ (144 ≤ i ∧ i < 184) ∨ i = 184 ∨ (185 ≤ i ∧ i < 188) ∨ 188 ≤ i by omega) with q | q | q | q | q | q | q | q
  · subst q
    rw [xP_0, xP_0]
    obtain ⟨h1, h2, h3, h4, h5, h6⟩ := ht
    have g : ∀ (c : Nat) (z : Nat), (c ≤ t → z < m) → (if c ≤ t then Value.ref (a z) else .null) = (if c ≤ t then Value.ref (a2 z) else .null) := by
      intro c z hz
      split
      · rename_i w; rw [h z (hz w)]
      · rfl
    unfold xF
    rw [g 1 1 h1, g 2 21 h2, g 3 143 h3, g 4 184 h4, g 5 185 h5, g 6 188 h6]
  · rw [xP_1 q.1 q.2, xP_1 q.1 q.2]; exact stE_c (by omega) (fun j hj => h j (by omega))
  · rw [xP_2 q.1 q.2, xP_2 q.1 q.2]; exact hiE_c (by omega) (fun j hj => h j (by omega))
  · subst q
    rw [xP_3, xP_3]
    have e : xS a k = xS a2 k := by
      funext j
      unfold xS
      split
      · rw [h _ (by omega)]
      · rfl
    rw [e]
  · rw [xP_4 q.1 q.2, xP_4 q.1 q.2]; exact stE_c (by omega) (fun j hj => h j (by omega))
  · subst q; rfl
  · rw [xP_6 q.1 q.2, xP_6 q.1 q.2]; exact paE_c (fun j hj => h j (by omega))
  · rw [xP_7 q, xP_7 q]; exact skE_c (fun j hj => h j (by omega))
theorem xP_put {y : js_L} {a : Nat → Nat} {t k i : Nat} {fs : List Value} (h : fs = xF a (t + 1)) : eu (xP y a t k) 0 (.inr (4, fs)) i = xP y a (t + 1) k i := by
  by_cases q : i = 0
  · subst q; rw [eu_s, h]; rfl
  · rw [eu_n q]; unfold xP; rw [if_neg q, if_neg q]
theorem xP_arr {y : js_L} {a : Nat → Nat} {t k i : Nat} {f : Nat → Option Nat} (h : f = xS a (k + 1)) : eu (xP y a t k) 143 (.inl (js_cT y, 2, .inr (.inr (.inr (.inr f))))) i = xP y a t (k + 1) i := by
  by_cases q : i = 143
  · subst q; rw [eu_s, h]; rfl
  · rw [eu_n q]
    unfold xP
    by_cases z : i = 143
    · exact absurd z q
    · simp only [if_neg z]
theorem lk_X4_init_methodLink_RX4_1_objectInit : Cond.methodLink RX4 1 objectInit ∈ wsX4_init := by decide +kernel
theorem lk_X4_init_instanceMethod_objectInit : Cond.instanceMethod objectInit ∈ wsX4_init := by decide +kernel
theorem lk_X4_init_code_objectInit_0xb1_1_none : Cond.code objectInit ⟨#[0xb1]⟩ 1 none ∈ wsX4_init := by decide +kernel
theorem in_X4_init_3 : ∀ w ∈ wsX30, w ∈ wsX4_init := by decide +kernel
theorem lk_X4_init_classLink_RX4_7_RX3 : Cond.classLink RX4 7 RX3 ∈ wsX4_init := by decide +kernel
theorem lk_X4_init_instantiable_RX3_2 : Cond.instantiable RX3 2 ∈ wsX4_init := by decide +kernel
theorem lk_X4_init_initialized_RX3 : Cond.initialized RX3 ∈ wsX4_init := by decide +kernel
theorem lk_X4_init_methodLink_RX4_9_yX3_init : Cond.methodLink RX4 9 yX3_init ∈ wsX4_init := by decide +kernel
theorem lk_X4_init_instanceMethod_yX3_init : Cond.instanceMethod yX3_init ∈ wsX4_init := by decide +kernel
theorem in_X4_init_4 : ∀ w ∈ wsX40, w ∈ wsX4_init := by decide +kernel
theorem lk_X4_init_fieldLink_RX4_10_JoinedSketches_now_LJoinedSketches_State : Cond.fieldLink RX4 10 "JoinedSketches" "now" "LJoinedSketches$State;" ∈ wsX4_init := by decide +kernel
theorem in_X4_init_0 : ∀ w ∈ wsX00, w ∈ wsX4_init := by decide +kernel
theorem lk_X4_init_classLink_RX4_16_RX0 : Cond.classLink RX4 16 RX0 ∈ wsX4_init := by decide +kernel
theorem lk_X4_init_instantiable_RX0_3 : Cond.instantiable RX0 3 ∈ wsX4_init := by decide +kernel
theorem lk_X4_init_initialized_RX0 : Cond.initialized RX0 ∈ wsX4_init := by decide +kernel
theorem lk_X4_init_methodLink_RX4_18_yX0_init : Cond.methodLink RX4 18 yX0_init ∈ wsX4_init := by decide +kernel
theorem lk_X4_init_instanceMethod_yX0_init : Cond.instanceMethod yX0_init ∈ wsX4_init := by decide +kernel
theorem lk_X4_init_fieldLink_RX4_19_JoinedSketches_history_LJoinedSketches_History : Cond.fieldLink RX4 19 "JoinedSketches" "history" "LJoinedSketches$History;" ∈ wsX4_init := by decide +kernel
theorem lk_X4_init_fieldLink_RX4_23_JoinedSketches_slots_LJoinedSketches_State : Cond.fieldLink RX4 23 "JoinedSketches" "slots" "[LJoinedSketches$State;" ∈ wsX4_init := by decide +kernel
theorem lk_X4_init_arrayClass_boolean : Cond.arrayClass .boolean ∈ wsX4_init := by decide +kernel
theorem lk_X4_init_fieldLink_RX4_27_JoinedSketches_saved_Z : Cond.fieldLink RX4 27 "JoinedSketches" "saved" "[Z" ∈ wsX4_init := by decide +kernel
theorem in_X4_init_1 : ∀ w ∈ wsX10, w ∈ wsX4_init := by decide +kernel
theorem lk_X4_init_classLink_RX4_31_RX1 : Cond.classLink RX4 31 RX1 ∈ wsX4_init := by decide +kernel
theorem lk_X4_init_instantiable_RX1_7 : Cond.instantiable RX1 7 ∈ wsX4_init := by decide +kernel
theorem lk_X4_init_initialized_RX1 : Cond.initialized RX1 ∈ wsX4_init := by decide +kernel
theorem lk_X4_init_instanceMethod_yX1_init : Cond.instanceMethod yX1_init ∈ wsX4_init := by decide +kernel
theorem lk_X4_init_fieldLink_RX4_34_JoinedSketches_pad_LJoinedSketches_Pad : Cond.fieldLink RX4 34 "JoinedSketches" "pad" "LJoinedSketches$Pad;" ∈ wsX4_init := by decide +kernel
theorem in_X4_init_2 : ∀ w ∈ wsX20, w ∈ wsX4_init := by decide +kernel
theorem lk_X4_init_classLink_RX4_38_RX2 : Cond.classLink RX4 38 RX2 ∈ wsX4_init := by decide +kernel
theorem lk_X4_init_instantiable_RX2_5 : Cond.instantiable RX2 5 ∈ wsX4_init := by decide +kernel
theorem lk_X4_init_initialized_RX2 : Cond.initialized RX2 ∈ wsX4_init := by decide +kernel
theorem lk_X4_init_instanceMethod_yX2_init : Cond.instanceMethod yX2_init ∈ wsX4_init := by decide +kernel
theorem lk_X4_init_fieldLink_RX4_41_JoinedSketches_trial_LJoinedSketches_Sketch : Cond.fieldLink RX4 41 "JoinedSketches" "trial" "LJoinedSketches$Sketch;" ∈ wsX4_init := by decide +kernel
set_option maxHeartbeats 4000000 in
set_option maxRecDepth 100000 in
theorem c_X4_init (la : Launch) {y : js_L} {a : Nat → Nat} {E : Nat → va_E} (he : E 0 = .inr (4, [.null, .null, .null, .null, .null, .null])) : kC la y yX4_init wsX4_init 4 74 190 6247 [.ref (a 0)] 1 a E 191 (fun a2 i => xP y a2 6 2 i) := by
  refine k_of ⟨_, rfl⟩ (by decide) rfl (by decide) (Nat.lt_succ_self 0) (fun X F hr hi => ?_)
  replace F : kF X y cX4_init 2 RX4 wsX4_init 4 74 190 6247 := F
  refine k_eq (E2 := xP y a 0 0) rfl rfl (fun i hi => by rw [show i = 0 by omega, he]; rfl) ?_
  refine k_aload_n (pc := 0) 0 F rfl dX4_init_0 ?_
  refine k_obj (pc := 1) F (lk_X4_init_methodLink_RX4_1_objectInit) (lk_X4_init_instanceMethod_objectInit) (lk_X4_init_code_objectInit_0xb1_1_none) (by decide) (by decide) dX4_init_1 ?_
  refine k_aload_n (pc := 4) 0 F rfl dX4_init_4 ?_
  refine k_new (pc := 5) (C := RX3) (T := TX3) (N := 2) (ci := 3) (fs := [.int (nI 0), .null]) F in_X4_init_3 tyX3 tyX3_ok (lk_X4_init_classLink_RX4_7_RX3) (lk_X4_init_instantiable_RX3_2) (lk_X4_init_initialized_RX3) rfl (k_def3) (by omega) (by omega) dX4_init_5 (fun q5 => ?_)
  refine k_dup (pc := 8) rfl F dX4_init_8 ?_
  refine k_init (pc := 9) (b := 1) F (au_s.symm) (c_X3_init _ (y := y) (b := 1) eu_s) ⟨_, rfl⟩ gX4_init_X3_init (lk_X4_init_initialized_RX3) (lk_X4_init_instanceMethod_yX3_init) rfl (by decide) ⟨by decide, by decide⟩ (Nat.le_of_ble_eq_true rfl) (by omega) (by omega) lk_X4_init_methodLink_RX4_9_yX3_init dX4_init_9 (fun c1 hc1 => ?_)
  have h0c1 : c1 0 = a 0 := (hc1 0 (by decide)).trans (au_n (by decide))
  have ec1 : c1 1 = q5 := (hc1 1 (by decide)).trans au_s
  refine k_eq (E2 := xP y c1 0 0) rfl rfl (fun i hi => ?_) ?_
  · by_cases z : i < 1
    · show (if i < 1 then _ else _) = _
      rw [if_pos z, eu_n (by omega)]
      exact xP_c (m := 1) (fun j hj => ((hc1 j (by omega)).trans (au_n (by omega))).symm) z (by omega) (by omega) (by omega) (by omega)
    · show (if i < 1 then _ else _) = _
      rw [if_neg z, xP_1 (by omega) (by omega)]
  refine k_putF (pc := 12) (T := TX4) (f := 0) (b := 0) (ci := 4) (fs := xF c1 0) (ty := .object "JoinedSketches$State") F tyX4 tyX4_ok nmX4 in_X4_init_4 (by omega) h0c1.symm xP_0 rfl (by decide) lk_X4_init_fieldLink_RX4_10_JoinedSketches_now_LJoinedSketches_State rfl rfl hi rfl (by decide +kernel) rfl rfl (Nat.le_of_ble_eq_true rfl) dX4_init_12 ?_
  refine k_eq (E2 := xP y c1 1 0) rfl rfl (fun i hi => xP_put (by rw [← show c1 1 = q5 from ec1]; rfl)) ?_
  refine k_aload_n (pc := 15) 0 F rfl dX4_init_15 ?_
  refine k_new (pc := 16) (C := RX0) (T := TX0) (N := 3) (ci := 0) (fs := [.null, .int (nI 0), .int (nI 0)]) F in_X4_init_0 tyX0 tyX0_ok (lk_X4_init_classLink_RX4_16_RX0) (lk_X4_init_instantiable_RX0_3) (lk_X4_init_initialized_RX0) rfl (k_def0) (by omega) (by omega) dX4_init_16 (fun q16 => ?_)
  refine k_dup (pc := 19) rfl F dX4_init_19 ?_
  refine k_init (pc := 20) (b := 21) F (au_s.symm) (c_X0_init _ (y := y) (b := 21) eu_s) ⟨_, rfl⟩ gX4_init_X0_init (lk_X4_init_initialized_RX0) (lk_X4_init_instanceMethod_yX0_init) rfl (by decide) ⟨by decide, by decide⟩ (Nat.le_of_ble_eq_true rfl) (by omega) (by omega) lk_X4_init_methodLink_RX4_18_yX0_init dX4_init_20 (fun c2 hc2 => ?_)
  have h0c2 : c2 0 = a 0 := ((hc2 0 (by decide)).trans (au_n (by decide))).trans h0c1
  have ec2 : c2 21 = q16 := (hc2 21 (by decide)).trans au_s
  refine k_eq (E2 := xP y c2 1 0) rfl rfl (fun i hi => ?_) ?_
  · by_cases z : i < 21
    · show (if i < 21 then _ else _) = _
      rw [if_pos z, eu_n (by omega)]
      exact xP_c (m := 21) (fun j hj => ((hc2 j (by omega)).trans (au_n (by omega))).symm) z (by omega) (by omega) (by omega) (by omega)
    · show (if i < 21 then _ else _) = _
      rw [if_neg z, xP_2 (by omega) (by omega)]
  refine k_putF (pc := 23) (T := TX4) (f := 1) (b := 0) (ci := 4) (fs := xF c2 1) (ty := .object "JoinedSketches$History") F tyX4 tyX4_ok nmX4 in_X4_init_4 (by omega) h0c2.symm xP_0 rfl (by decide) lk_X4_init_fieldLink_RX4_19_JoinedSketches_history_LJoinedSketches_History rfl rfl hi rfl (by decide +kernel) rfl rfl (Nat.le_of_ble_eq_true rfl) dX4_init_23 ?_
  refine k_eq (E2 := xP y c2 2 0) rfl rfl (fun i hi => xP_put (by rw [← show c2 21 = q16 from ec2]; rfl)) ?_
  refine k_aload_n (pc := 26) 0 F rfl dX4_init_26 ?_
  refine k_iconst (pc := 27) (v := nI 2) F (by decide) dX4_init_27 ?_
  refine k_newq (pc := 28) (C := RX3) (cA0 := js_cT y) (N := 2) F (lk_X4_init_classLink_RX4_7_RX3) (F.2.2.2.1.2.2) (k_cls_st F) (by decide) (by decide) (by decide) (by omega) (by omega) dX4_init_28 (fun q28 => ?_)
  obtain ⟨c3, hc3⟩ : ∃ c3, c3 = au c2 143 q28 := ⟨_, rfl⟩
  rw [← hc3]
  have h0c3 : c3 0 = a 0 := by rw [hc3]; exact (au_n (by decide)).trans h0c2
  have ec3 : c3 143 = q28 := by rw [hc3]; exact au_s
  refine k_eq (E2 := xP y c3 2 0) rfl rfl (fun i hi => ?_) ?_
  · by_cases z : i = 143
    · subst z; rw [eu_s]; rfl
    · rw [eu_n z]; exact xP_c (m := 143) (fun j hj => by rw [hc3]; exact (au_n (by omega)).symm) (by omega) (by omega) (by omega) (by omega) (by omega)
  refine k_putF (pc := 31) (T := TX4) (f := 2) (b := 0) (ci := 4) (fs := xF c3 2) (ty := .array (.object "JoinedSketches$State")) F tyX4 tyX4_ok nmX4 in_X4_init_4 (by omega) h0c3.symm xP_0 rfl (by decide) lk_X4_init_fieldLink_RX4_23_JoinedSketches_slots_LJoinedSketches_State rfl rfl hi rfl (by decide +kernel) rfl rfl (Nat.le_of_ble_eq_true rfl) dX4_init_31 ?_
  refine k_eq (E2 := xP y c3 3 0) rfl rfl (fun i hi => xP_put (by rw [← show c3 143 = q28 from ec3]; rfl)) ?_
  refine k_iconst (pc := 34) (v := nI 0) F (by decide) dX4_init_34 ?_
  refine k_istore_n (pc := 35) (lv2 := [(0, .ref (a 0)), (1, .int (nI 0))]) F dX4_init_35 (by decide) [1, 0] rfl ?_
  have LP : ∀ (fu k : Nat) (a1 : Nat → Nat) (hk : k ≤ 2) (ha : a1 0 = a 0) (hfu : 2 - k < fu), kW X y 2 (kQ X y 190 6247 1 a 191 (fun a2 i => xP y a2 6 2 i)) (143 + 20 * k) (4645 + 662 * k) (144 + 20 * k) a1 (xP y a1 3 k) 36 [(0, .ref (a 0)), (1, .int (nI k))] [] := by
    intro fu
    induction fu with
    | zero => intro k a1 hk ha hfu; exact absurd hfu (Nat.not_lt_zero _)
    | succ fu ih =>
      intro k a1 hk ha hfu
      refine k_iload_n (pc := 36) 1 F rfl dX4_init_36 ?_
      refine k_iconst (pc := 37) (v := nI 2) F (by decide) dX4_init_37 ?_
      refine k_icmp_geN (pc := 38) (a := k) (b := 2) (tgt := 60) F (by omega) (by decide) dX4_init_38 (by decide) (fun h6 => ?_) (fun h6 => ?_)
      · have e : k = 2 := by omega
        subst e
        refine k_aload_n (pc := 60) 0 F rfl dX4_init_60 ?_
        refine k_iconst (pc := 61) (v := nI 2) F (by decide) dX4_init_61 ?_
        refine k_newa (pc := 62) (at0 := .boolean) (ty := .boolean) (cA0 := js_cZ y) (N := 2) F (lk_X4_init_arrayClass_boolean) rfl (k_cls_boolean F) rfl (by decide) (by decide) (by decide) (by omega) (by omega) dX4_init_62 (fun q62 => ?_)
        obtain ⟨c5, hc5⟩ : ∃ c5, c5 = au a1 184 q62 := ⟨_, rfl⟩
        rw [← hc5]
        have h0c5 : c5 0 = a 0 := by rw [hc5]; exact (au_n (by decide)).trans ha
        have ec5 : c5 184 = q62 := by rw [hc5]; exact au_s
        refine k_eq (E2 := xP y c5 3 2) rfl rfl (fun i hi => ?_) ?_
        · by_cases z : i = 184
          · subst z; rw [eu_s]; rfl
          · rw [eu_n z]; exact xP_c (m := 184) (fun j hj => by rw [hc5]; exact (au_n (by omega)).symm) (by omega) (by omega) (by omega) (by omega) (by omega)
        refine k_putF (pc := 64) (T := TX4) (f := 3) (b := 0) (ci := 4) (fs := xF c5 3) (ty := .array .boolean) F tyX4 tyX4_ok nmX4 in_X4_init_4 (by omega) h0c5.symm xP_0 rfl (by decide) lk_X4_init_fieldLink_RX4_27_JoinedSketches_saved_Z rfl rfl hi rfl (by decide +kernel) rfl rfl (Nat.le_of_ble_eq_true rfl) dX4_init_64 ?_
        refine k_eq (E2 := xP y c5 4 2) rfl rfl (fun i hi => xP_put (by rw [← show c5 184 = q62 from ec5]; rfl)) ?_
        refine k_aload_n (pc := 67) 0 F rfl dX4_init_67 ?_
        refine k_new (pc := 68) (C := RX1) (T := TX1) (N := 7) (ci := 1) (fs := [.null, .int (nI 0), .int (nI 0), .int (nI 0), .int (nI 0), .null, .int (nI 0)]) F in_X4_init_1 tyX1 tyX1_ok (lk_X4_init_classLink_RX4_31_RX1) (lk_X4_init_instantiable_RX1_7) (lk_X4_init_initialized_RX1) rfl (k_def1) (by omega) (by omega) dX4_init_68 (fun q68 => ?_)
        refine k_dup (pc := 71) rfl F dX4_init_71 ?_
        refine k_initN (pc := 72) (b := 185) F (au_s.symm) (c_X1_init _ (y := y) (b := 185) eu_s) ⟨_, rfl⟩ gX4_init_X1_init_n33 (lk_X4_init_initialized_RX1) (lk_X4_init_instanceMethod_yX1_init) rfl (by decide) ⟨by decide, by decide⟩ (Nat.le_of_ble_eq_true rfl) (by omega) (by omega) F.2.2.2.1.1.2.1 dX4_init_72 (fun c6 hc6 => ?_)
        have h0c6 : c6 0 = a 0 := ((hc6 0 (by decide)).trans (au_n (by decide))).trans h0c5
        have ec6 : c6 185 = q68 := (hc6 185 (by decide)).trans au_s
        refine k_eq (E2 := xP y c6 4 2) rfl rfl (fun i hi => ?_) ?_
        · by_cases z : i < 185
          · show (if i < 185 then _ else _) = _
            rw [if_pos z, eu_n (by omega)]
            exact xP_c (m := 185) (fun j hj => ((hc6 j (by omega)).trans (au_n (by omega))).symm) z (by omega) (by omega) (by omega) (by omega)
          · show (if i < 185 then _ else _) = _
            rw [if_neg z, xP_6 (by omega) (by omega)]
        refine k_putF (pc := 75) (T := TX4) (f := 4) (b := 0) (ci := 4) (fs := xF c6 4) (ty := .object "JoinedSketches$Pad") F tyX4 tyX4_ok nmX4 in_X4_init_4 (by omega) h0c6.symm xP_0 rfl (by decide) lk_X4_init_fieldLink_RX4_34_JoinedSketches_pad_LJoinedSketches_Pad rfl rfl hi rfl (by decide +kernel) rfl rfl (Nat.le_of_ble_eq_true rfl) dX4_init_75 ?_
        refine k_eq (E2 := xP y c6 5 2) rfl rfl (fun i hi => xP_put (by rw [← show c6 185 = q68 from ec6]; rfl)) ?_
        refine k_aload_n (pc := 78) 0 F rfl dX4_init_78 ?_
        refine k_new (pc := 79) (C := RX2) (T := TX2) (N := 5) (ci := 2) (fs := [.int (nI 0), .null, .null, .int (nI 0), .int (nI 0)]) F in_X4_init_2 tyX2 tyX2_ok (lk_X4_init_classLink_RX4_38_RX2) (lk_X4_init_instantiable_RX2_5) (lk_X4_init_initialized_RX2) rfl (k_def2) (by omega) (by omega) dX4_init_79 (fun q79 => ?_)
        refine k_dup (pc := 82) rfl F dX4_init_82 ?_
        refine k_initN (pc := 83) (b := 188) F (au_s.symm) (c_X2_init _ (y := y) (b := 188) eu_s) ⟨_, rfl⟩ gX4_init_X2_init_n40 (lk_X4_init_initialized_RX2) (lk_X4_init_instanceMethod_yX2_init) rfl (by decide) ⟨by decide, by decide⟩ (Nat.le_of_ble_eq_true rfl) (by omega) (by omega) F.2.2.2.1.1.2.2 dX4_init_83 (fun c7 hc7 => ?_)
        have h0c7 : c7 0 = a 0 := ((hc7 0 (by decide)).trans (au_n (by decide))).trans h0c6
        have ec7 : c7 188 = q79 := (hc7 188 (by decide)).trans au_s
        refine k_eq (E2 := xP y c7 5 2) rfl rfl (fun i hi => ?_) ?_
        · by_cases z : i < 188
          · show (if i < 188 then _ else _) = _
            rw [if_pos z, eu_n (by omega)]
            exact xP_c (m := 188) (fun j hj => ((hc7 j (by omega)).trans (au_n (by omega))).symm) z (by omega) (by omega) (by omega) (by omega)
          · show (if i < 188 then _ else _) = _
            rw [if_neg z, xP_7 (by omega)]
        refine k_putF (pc := 86) (T := TX4) (f := 5) (b := 0) (ci := 4) (fs := xF c7 5) (ty := .object "JoinedSketches$Sketch") F tyX4 tyX4_ok nmX4 in_X4_init_4 (by omega) h0c7.symm xP_0 rfl (by decide) lk_X4_init_fieldLink_RX4_41_JoinedSketches_trial_LJoinedSketches_Sketch rfl rfl hi rfl (by decide +kernel) rfl rfl (Nat.le_of_ble_eq_true rfl) dX4_init_86 ?_
        refine k_eq (E2 := xP y c7 6 2) rfl rfl (fun i hi => xP_put (by rw [← show c7 188 = q79 from ec7]; rfl)) ?_
        refine k_vret (pc := 89) F hr rfl rfl rfl (fun i hi => by rw [show i = 0 by omega]; exact h0c7) (fun i hi => rfl) dX4_init_89
      · refine k_aload_n (pc := 41) 0 F rfl dX4_init_41 ?_
        refine k_get (pc := 42) (T := TX4) (f := 2) (b := 0) (ci := 4) (fs := xF a1 3) F in_X4_init_4 (by omega) ha.symm xP_0 rfl (by decide) lk_X4_init_fieldLink_RX4_23_JoinedSketches_slots_LJoinedSketches_State rfl rfl dX4_init_42 ?_
        refine k_iload_n (pc := 45) 1 F rfl dX4_init_45 ?_
        refine k_new (pc := 46) (C := RX3) (T := TX3) (N := 2) (ci := 3) (fs := [.int (nI 0), .null]) F in_X4_init_3 tyX3 tyX3_ok (lk_X4_init_classLink_RX4_7_RX3) (lk_X4_init_instantiable_RX3_2) (lk_X4_init_initialized_RX3) rfl (k_def3) (by omega) (by omega) dX4_init_46 (fun q46 => ?_)
        refine k_dup (pc := 49) rfl F dX4_init_49 ?_
        refine k_init (pc := 50) (b := 144 + 20 * k) F (au_s.symm) (c_X3_init _ (y := y) (b := 144 + 20 * k) eu_s) ⟨_, rfl⟩ gX4_init_X3_init (lk_X4_init_initialized_RX3) (lk_X4_init_instanceMethod_yX3_init) rfl (by decide) ⟨by decide, by decide⟩ (Nat.le_of_ble_eq_true rfl) (by omega) (by omega) lk_X4_init_methodLink_RX4_9_yX3_init dX4_init_50 (fun a2 ha2 => ?_)
        have hg : ∀ i, i < 144 + 20 * k → a2 i = a1 i := fun i hi => (ha2 i (by omega)).trans (au_n (by omega))
        have hz : a2 (144 + 20 * k) = q46 := (ha2 _ (by omega)).trans au_s
        refine k_eq (E2 := xP y a2 3 k) rfl rfl (fun i hi => ?_) ?_
        · by_cases z : i < 144 + 20 * k
          · show (if i < 144 + 20 * k then _ else _) = _
            rw [if_pos z, eu_n (by omega)]
            exact xP_c (m := 144 + 20 * k) (fun j hj => (hg j hj).symm) z (by omega) (by omega) (by omega) (by omega)
          · show (if i < 144 + 20 * k then _ else _) = _
            rw [if_neg z, xP_4 (by omega) (by omega), show 144 + 20 * ((i - 144) / 20) = 144 + 20 * k by omega, show (i - 144) % 20 = i - (144 + 20 * k) by omega]
        refine k_astq (pc := 53) (b := 143) (c := 144 + 20 * k) (ci := 3) (t0 := 4) (m := 2) (j := k) (cA := js_cT y) (r := (RX3, TX3, 2)) (f := xS a2 k) (vs := [.int (nI 12345), .ref (a2 (144 + 20 * k + 1))]) F (by omega) (by omega) (hg _ (by omega)).symm hz.symm xP_3 rfl ?_ rfl rfl (by omega) (by decide) dX4_init_53 ?_
        · rw [xP_4 (by omega) (by omega), show 144 + 20 * ((144 + 20 * k - 144) / 20) = 144 + 20 * k by omega, show (144 + 20 * k - 144) % 20 = 0 by omega]; rfl
        refine k_iinc (pc := 54) (v := nI (k + 1)) (lv2 := [(0, .ref (a 0)), (1, .int (nI (k + 1)))]) F dX4_init_54 1 rfl (nI_add _ _) (by decide) [1, 0] rfl ?_
        refine k_goto (pc := 57) (tgt := 36) F dX4_init_57 (by decide) ?_
        refine k_eq (by omega) (by omega) (fun i hi => xP_arr (funext (fun j => ?_))) (ih (k + 1) a2 (by omega) ((hg 0 (by omega)).trans ha) (by omega))
        unfold va_up xS
        by_cases qj : j = k
        · subst qj; rw [if_pos rfl, if_pos (by omega)]
        · rw [if_neg qj]
          show (if j < k then some (a2 (144 + 20 * j)) else none) = _
          by_cases qj2 : j < k
          · rw [if_pos qj2, if_pos (by omega)]
          · rw [if_neg qj2, if_neg (by omega)]
  exact LP 3 0 c3 (by decide) h0c3 (by decide)
