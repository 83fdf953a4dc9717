/-! what the constructors make -/
theorem k_cls_int {X : js_X} {y : js_L} {cc : ByteArray} {nL fr lo mcx msx : Nat} {own : String} {Ts : List Cond} (F : kF X y cc nL own Ts fr lo mcx msx) : ∀ cA, va_RA (js_Xs X) cA .int → cA = js_cI y := fun cA h => Option.some.inj (h.symm.trans (F.2.2.1.2 0 _ rfl).2)
theorem k_cls_char {X : js_X} {y : js_L} {cc : ByteArray} {nL fr lo mcx msx : Nat} {own : String} {Ts : List Cond} (F : kF X y cc nL own Ts fr lo mcx msx) : ∀ cA, va_RA (js_Xs X) cA .char → cA = js_cC y := fun cA h => Option.some.inj (h.symm.trans (F.2.2.1.2 1 _ rfl).2)
theorem k_cls_boolean {X : js_X} {y : js_L} {cc : ByteArray} {nL fr lo mcx msx : Nat} {own : String} {Ts : List Cond} (F : kF X y cc nL own Ts fr lo mcx msx) : ∀ cA, va_RA (js_Xs X) cA .boolean → cA = js_cZ y := fun cA h => Option.some.inj (h.symm.trans (F.2.2.1.2 2 _ rfl).2)
theorem k_cls_sk {X : js_X} {y : js_L} {cc : ByteArray} {nL fr lo mcx msx : Nat} {own : String} {Ts : List Cond} (F : kF X y cc nL own Ts fr lo mcx msx) : ∀ cA, va_RA (js_Xs X) cA (.object RX2) → cA = js_cK y := fun cA h => by
  obtain ⟨_, _, _, _, _, h1⟩ := h
  obtain ⟨_, _, _, _, _, h2⟩ := (F.2.2.1.2 3 _ rfl).2
  exact Option.some.inj (h1.symm.trans h2)
theorem k_cls_st {X : js_X} {y : js_L} {cc : ByteArray} {nL fr lo mcx msx : Nat} {own : String} {Ts : List Cond} (F : kF X y cc nL own Ts fr lo mcx msx) : ∀ cA, va_RA (js_Xs X) cA (.object RX3) → cA = js_cT y := fun cA h => by
  obtain ⟨_, _, _, _, _, h1⟩ := h
  obtain ⟨_, _, _, _, _, h2⟩ := (F.2.2.1.2 4 _ rfl).2
  exact Option.some.inj (h1.symm.trans h2)
theorem k_def0 : ∀ j, j < 3 → defaultValue (tyX0 j) = vp_V [.null, .int (nI 0), .int (nI 0)] j := fun j hj => by
  rcases (show j = 0 ∨ j = 1 ∨ j = 2 by omega) with rfl | rfl | rfl <;> rfl
theorem k_def1 : ∀ j, j < 7 → defaultValue (tyX1 j) = vp_V [.null, .int (nI 0), .int (nI 0), .int (nI 0), .int (nI 0), .null, .int (nI 0)] j := fun j hj => by
  rcases (show j = 0 ∨ j = 1 ∨ j = 2 ∨ j = 3 ∨ j = 4 ∨ j = 5 ∨ j = 6 by omega) with rfl | rfl | rfl | rfl | rfl | rfl | rfl <;> rfl
theorem k_def2 : ∀ j, j < 5 → defaultValue (tyX2 j) = vp_V [.int (nI 0), .null, .null, .int (nI 0), .int (nI 0)] j := fun j hj => by
  rcases (show j = 0 ∨ j = 1 ∨ j = 2 ∨ j = 3 ∨ j = 4 by omega) with rfl | rfl | rfl | rfl | rfl <;> rfl
theorem k_def3 : ∀ j, j < 2 → defaultValue (tyX3 j) = vp_V [.int (nI 0), .null] j := fun j hj => by
  rcases (show j = 0 ∨ j = 1 by omega) with rfl | rfl <;> rfl
theorem k_def4 : ∀ j, j < 6 → defaultValue (tyX4 j) = vp_V [.null, .null, .null, .null, .null, .null] j := fun j hj => by
  rcases (show j = 0 ∨ j = 1 ∨ j = 2 ∨ j = 3 ∨ j = 4 ∨ j = 5 by omega) with rfl | rfl | rfl | rfl | rfl | rfl <;> rfl
theorem k_def5 : ∀ j, j < 13 → defaultValue (tyX5 j) = vp_V [.null, .null, .int (nI 0), .null, .null, .null, .int (nI 0), .null, .int (nI 0), .int (nI 0), .int (nI 0), .null, .int (nI 0)] j := fun j hj => by
  rcases (show j = 0 ∨ j = 1 ∨ j = 2 ∨ j = 3 ∨ j = 4 ∨ j = 5 ∨ j = 6 ∨ j = 7 ∨ j = 8 ∨ j = 9 ∨ j = 10 ∨ j = 11 ∨ j = 12 by omega) with rfl | rfl | rfl | rfl | rfl | rfl | rfl | rfl | rfl | rfl | rfl | rfl | rfl <;> rfl
def skE (y : js_L) (a : Nat → Nat) (b k : Nat) : va_E := if k = 0 then .inr (2, [.int (nI 4), .ref (a (b + 1)), .ref (a (b + 2)), .int (nI 0), .int (nI 0)]) else if k = 1 then .inl (js_cI y, 64, .inl (fun _ => nI 0)) else .inl (js_cI y, 40, .inl (fun _ => nI 0))
def stE (y : js_L) (a : Nat → Nat) (b k : Nat) : va_E := if k = 0 then .inr (3, [.int (nI 12345), .ref (a (b + 1))]) else if k = 1 then .inl (js_cK y, 6, .inr (.inr (.inr (.inr (fun j => if j < 6 then some (a (b + 2 + 3 * j)) else none))))) else skE y a (b + 2 + 3 * ((k - 2) / 3)) ((k - 2) % 3)
def hiE (y : js_L) (a : Nat → Nat) (b k : Nat) : va_E := if k = 0 then .inr (0, [.ref (a (b + 1)), .int (nI 0), .int (nI 0)]) else if k = 1 then .inl (js_cT y, 6, .inr (.inr (.inr (.inr (fun j => if j < 6 then some (a (b + 2 + 20 * j)) else none))))) else stE y a (b + 2 + 20 * ((k - 2) / 20)) ((k - 2) % 20)
def paE (y : js_L) (a : Nat → Nat) (b k : Nat) : va_E := if k = 0 then .inr (1, [.ref (a (b + 1)), .int (nI 0), .int (nI 0), .int (nI 0), .int (nI 33), .ref (a (b + 2)), .int (nI 0)]) else if k = 1 then .inl (js_cC y, 80, .inl (fun _ => nI 0)) else .inl (js_cI y, 80, .inl (fun _ => nI 0))
/-- entries speak of few addresses -/
theorem skE_c {y : js_L} {a a2 : Nat → Nat} {b k : Nat} (h : ∀ i, i < b + 3 → a i = a2 i) : skE y a b k = skE y a2 b k := by unfold skE; rw [h _ (by omega), h _ (by omega)]
theorem stE_c {y : js_L} {a a2 : Nat → Nat} {b k : Nat} (hk : k < 20) (h : ∀ i, i < b + 20 → a i = a2 i) : stE y a b k = stE y a2 b k := by
  have e : (fun j => if j < 6 then some (a (b + 2 + 3 * j)) else none) = (fun j => if j < 6 then some (a2 (b + 2 + 3 * j)) else none) := by
    funext j
    split
    · rw [h _ (by omega)]
    · rfl
  unfold stE
  rw [h _ (by omega), skE_c (a2 := a2) (fun i hi => h i (by omega)), e]
theorem lk_X2_init_methodLink_RX2_3_objectInit : Cond.methodLink RX2 3 objectInit ∈ wsX2_init := by decide +kernel
theorem lk_X2_init_instanceMethod_objectInit : Cond.instanceMethod objectInit ∈ wsX2_init := by decide +kernel
theorem lk_X2_init_code_objectInit_0xb1_1_none : Cond.code objectInit ⟨#[0xb1]⟩ 1 none ∈ wsX2_init := by decide +kernel
theorem in_X2_init_2 : ∀ w ∈ wsX20, w ∈ wsX2_init := by decide +kernel
theorem lk_X2_init_fieldLink_RX2_9_JoinedSketches_Sketch_bits_I : Cond.fieldLink RX2 9 "JoinedSketches$Sketch" "bits" "I" ∈ wsX2_init := by decide +kernel
theorem lk_X2_init_arrayClass_int : Cond.arrayClass .int ∈ wsX2_init := by decide +kernel
theorem lk_X2_init_fieldLink_RX2_15_JoinedSketches_Sketch_ranks_I : Cond.fieldLink RX2 15 "JoinedSketches$Sketch" "ranks" "[I" ∈ wsX2_init := by decide +kernel
theorem lk_X2_init_fieldLink_RX2_19_JoinedSketches_Sketch_things_I : Cond.fieldLink RX2 19 "JoinedSketches$Sketch" "things" "[I" ∈ wsX2_init := by decide +kernel
theorem lk_X2_init_fieldLink_RX2_22_JoinedSketches_Sketch_listLength_I : Cond.fieldLink RX2 22 "JoinedSketches$Sketch" "listLength" "I" ∈ wsX2_init := by decide +kernel
theorem lk_X2_init_fieldLink_RX2_25_JoinedSketches_Sketch_full_Z : Cond.fieldLink RX2 25 "JoinedSketches$Sketch" "full" "Z" ∈ wsX2_init := by decide +kernel
theorem lk_X1_init_methodLink_RX1_3_objectInit : Cond.methodLink RX1 3 objectInit ∈ wsX1_init := by decide +kernel
theorem lk_X1_init_instanceMethod_objectInit : Cond.instanceMethod objectInit ∈ wsX1_init := by decide +kernel
theorem lk_X1_init_code_objectInit_0xb1_1_none : Cond.code objectInit ⟨#[0xb1]⟩ 1 none ∈ wsX1_init := by decide +kernel
theorem lk_X1_init_arrayClass_char : Cond.arrayClass .char ∈ wsX1_init := by decide +kernel
theorem in_X1_init_1 : ∀ w ∈ wsX10, w ∈ wsX1_init := by decide +kernel
theorem lk_X1_init_fieldLink_RX1_9_JoinedSketches_Pad_signs_C : Cond.fieldLink RX1 9 "JoinedSketches$Pad" "signs" "[C" ∈ wsX1_init := by decide +kernel
theorem lk_X1_init_fieldLink_RX1_15_JoinedSketches_Pad_length_I : Cond.fieldLink RX1 15 "JoinedSketches$Pad" "length" "I" ∈ wsX1_init := by decide +kernel
theorem lk_X1_init_fieldLink_RX1_19_JoinedSketches_Pad_at_I : Cond.fieldLink RX1 19 "JoinedSketches$Pad" "at" "I" ∈ wsX1_init := by decide +kernel
theorem lk_X1_init_fieldLink_RX1_22_JoinedSketches_Pad_sketch_I : Cond.fieldLink RX1 22 "JoinedSketches$Pad" "sketch" "I" ∈ wsX1_init := by decide +kernel
theorem lk_X1_init_fieldLink_RX1_25_JoinedSketches_Pad_verb_I : Cond.fieldLink RX1 25 "JoinedSketches$Pad" "verb" "I" ∈ wsX1_init := by decide +kernel
theorem lk_X1_init_arrayClass_int : Cond.arrayClass .int ∈ wsX1_init := by decide +kernel
theorem lk_X1_init_fieldLink_RX1_28_JoinedSketches_Pad_numbers_I : Cond.fieldLink RX1 28 "JoinedSketches$Pad" "numbers" "[I" ∈ wsX1_init := by decide +kernel
theorem lk_X1_init_fieldLink_RX1_32_JoinedSketches_Pad_many_I : Cond.fieldLink RX1 32 "JoinedSketches$Pad" "many" "I" ∈ wsX1_init := by decide +kernel
theorem in_X3_init_3 : ∀ w ∈ wsX30, w ∈ wsX3_init := by decide +kernel
theorem lk_X3_init_fieldLink_RX3_9_JoinedSketches_State_salt_I : Cond.fieldLink RX3 9 "JoinedSketches$State" "salt" "I" ∈ wsX3_init := by decide +kernel
theorem lk_X3_init_classLink_RX3_15_RX2 : Cond.classLink RX3 15 RX2 ∈ wsX3_init := by decide +kernel
theorem lk_X3_init_fieldLink_RX3_17_JoinedSketches_State_sketches_LJoinedSketches_Sketch : Cond.fieldLink RX3 17 "JoinedSketches$State" "sketches" "[LJoinedSketches$Sketch;" ∈ wsX3_init := by decide +kernel
theorem lk_X3_init_methodLink_RX3_3_objectInit : Cond.methodLink RX3 3 objectInit ∈ wsX3_init := by decide +kernel
theorem lk_X3_init_instanceMethod_objectInit : Cond.instanceMethod objectInit ∈ wsX3_init := by decide +kernel
theorem lk_X3_init_code_objectInit_0xb1_1_none : Cond.code objectInit ⟨#[0xb1]⟩ 1 none ∈ wsX3_init := by decide +kernel
theorem in_X3_init_2 : ∀ w ∈ wsX20, w ∈ wsX3_init := by decide +kernel
theorem lk_X3_init_instantiable_RX2_5 : Cond.instantiable RX2 5 ∈ wsX3_init := by decide +kernel
theorem lk_X3_init_initialized_RX2 : Cond.initialized RX2 ∈ wsX3_init := by decide +kernel
theorem lk_X3_init_instanceMethod_yX2_init : Cond.instanceMethod yX2_init ∈ wsX3_init := by decide +kernel
theorem lk_X0_init_classLink_RX0_9_RX3 : Cond.classLink RX0 9 RX3 ∈ wsX0_init := by decide +kernel
theorem in_X0_init_0 : ∀ w ∈ wsX00, w ∈ wsX0_init := by decide +kernel
theorem lk_X0_init_fieldLink_RX0_11_JoinedSketches_History_ring_LJoinedSketches_State : Cond.fieldLink RX0 11 "JoinedSketches$History" "ring" "[LJoinedSketches$State;" ∈ wsX0_init := by decide +kernel
theorem lk_X0_init_fieldLink_RX0_17_JoinedSketches_History_oldest_I : Cond.fieldLink RX0 17 "JoinedSketches$History" "oldest" "I" ∈ wsX0_init := by decide +kernel
theorem lk_X0_init_fieldLink_RX0_21_JoinedSketches_History_size_I : Cond.fieldLink RX0 21 "JoinedSketches$History" "size" "I" ∈ wsX0_init := by decide +kernel
theorem lk_X0_init_methodLink_RX0_3_objectInit : Cond.methodLink RX0 3 objectInit ∈ wsX0_init := by decide +kernel
theorem lk_X0_init_instanceMethod_objectInit : Cond.instanceMethod objectInit ∈ wsX0_init := by decide +kernel
theorem lk_X0_init_code_objectInit_0xb1_1_none : Cond.code objectInit ⟨#[0xb1]⟩ 1 none ∈ wsX0_init := by decide +kernel
theorem in_X0_init_3 : ∀ w ∈ wsX30, w ∈ wsX0_init := by decide +kernel
theorem lk_X0_init_instantiable_RX3_2 : Cond.instantiable RX3 2 ∈ wsX0_init := by decide +kernel
theorem lk_X0_init_initialized_RX3 : Cond.initialized RX3 ∈ wsX0_init := by decide +kernel
theorem lk_X0_init_methodLink_RX0_24_yX3_init : Cond.methodLink RX0 24 yX3_init ∈ wsX0_init := by decide +kernel
theorem lk_X0_init_instanceMethod_yX3_init : Cond.instanceMethod yX3_init ∈ wsX0_init := by decide +kernel
set_option maxHeartbeats 4000000 in
set_option maxRecDepth 100000 in
theorem c_X2_init (la : Launch) {y : js_L} {a : Nat → Nat} {b : Nat} {E : Nat → va_E} (he : E b = .inr (2, [.int (nI 0), .null, .null, .int (nI 0), .int (nI 0)])) : kC la y yX2_init wsX2_init 1 12 2 104 [.ref (a b)] (b + 1) a E (b + 3) (fun a2 i => if i < b then E i else skE y a2 b (i - b)) := by
  refine k_of ⟨_, rfl⟩ (by decide) rfl (by decide) (Nat.lt_succ_self b) (fun X F hr hi => ?_)
  replace F : kF X y cX2_init 1 RX2 wsX2_init 1 12 2 104 := F
  refine k_aload_n (pc := 0) 0 F rfl dX2_init_0 ?_
  refine k_obj (pc := 1) F (lk_X2_init_methodLink_RX2_3_objectInit) (lk_X2_init_instanceMethod_objectInit) (lk_X2_init_code_objectInit_0xb1_1_none) (by decide) (by decide) dX2_init_1 ?_
  refine k_aload_n (pc := 4) 0 F rfl dX2_init_4 ?_
  refine k_iconst (pc := 5) (v := nI 4) F (by decide) dX2_init_5 ?_
  refine k_put (pc := 6) (T := TX2) (f := 0) (b := b) (ci := 2) (fs := [.int (nI 0), .null, .null, .int (nI 0), .int (nI 0)]) (ty := .int) F tyX2 tyX2_ok nmX2 in_X2_init_2 (Nat.lt_succ_self b) (rfl) (he) rfl (by decide) lk_X2_init_fieldLink_RX2_9_JoinedSketches_Sketch_bits_I rfl rfl (by decide +kernel) rfl rfl (Nat.le_of_ble_eq_true rfl) dX2_init_6 ?_
  refine k_aload_n (pc := 9) 0 F rfl dX2_init_9 ?_
  refine k_bipush (pc := 10) (v := nI 64) F (by decide) dX2_init_10 ?_
  refine k_newa (pc := 12) (at0 := .int) (ty := .int) (cA0 := js_cI y) (N := 64) F (lk_X2_init_arrayClass_int) rfl (k_cls_int F) rfl (by decide) (by decide) (by decide) (by omega) (by omega) dX2_init_12 (fun q12 => ?_)
  refine k_putF (pc := 14) (T := TX2) (f := 1) (b := b) (ci := 2) (fs := [.int (nI 4), .null, .null, .int (nI 0), .int (nI 0)]) (ty := .array .int) F tyX2 tyX2_ok nmX2 in_X2_init_2 (by omega) (by first | (simp [au]; done) | (simp [au]; first | omega | (intro z; omega))) (by first | (simp [eu]; done) | (simp [eu]; first | omega | (intro z; omega))) rfl (by decide) lk_X2_init_fieldLink_RX2_15_JoinedSketches_Sketch_ranks_I rfl rfl hi rfl (by decide +kernel) rfl rfl (Nat.le_of_ble_eq_true rfl) dX2_init_14 ?_
  refine k_aload_n (pc := 17) 0 F rfl dX2_init_17 ?_
  refine k_bipush (pc := 18) (v := nI 40) F (by decide) dX2_init_18 ?_
  refine k_newa (pc := 20) (at0 := .int) (ty := .int) (cA0 := js_cI y) (N := 40) F (lk_X2_init_arrayClass_int) rfl (k_cls_int F) rfl (by decide) (by decide) (by decide) (by omega) (by omega) dX2_init_20 (fun q20 => ?_)
  refine k_putF (pc := 22) (T := TX2) (f := 2) (b := b) (ci := 2) (fs := [.int (nI 4), .ref q12, .null, .int (nI 0), .int (nI 0)]) (ty := .array .int) F tyX2 tyX2_ok nmX2 in_X2_init_2 (by omega) (by first | (simp [au]; done) | (simp [au]; first | omega | (intro z; omega))) (by first | (simp [eu]; done) | (simp [eu]; first | omega | (intro z; omega))) rfl (by decide) lk_X2_init_fieldLink_RX2_19_JoinedSketches_Sketch_things_I rfl rfl hi rfl (by decide +kernel) rfl rfl (Nat.le_of_ble_eq_true rfl) dX2_init_22 ?_
  refine k_aload_n (pc := 25) 0 F rfl dX2_init_25 ?_
  refine k_iconst (pc := 26) (v := nI 0) F (by decide) dX2_init_26 ?_
  refine k_put (pc := 27) (T := TX2) (f := 3) (b := b) (ci := 2) (fs := [.int (nI 4), .ref q12, .ref q20, .int (nI 0), .int (nI 0)]) (ty := .int) F tyX2 tyX2_ok nmX2 in_X2_init_2 (by omega) (by first | (simp [au]; done) | (simp [au]; first | omega | (intro z; omega))) (by first | (simp [eu]; done) | (simp [eu]; first | omega | (intro z; omega))) rfl (by decide) lk_X2_init_fieldLink_RX2_22_JoinedSketches_Sketch_listLength_I rfl rfl (by decide +kernel) rfl rfl (Nat.le_of_ble_eq_true rfl) dX2_init_27 ?_
  refine k_aload_n (pc := 30) 0 F rfl dX2_init_30 ?_
  refine k_iconst (pc := 31) (v := nI 0) F (by decide) dX2_init_31 ?_
  refine k_put (pc := 32) (T := TX2) (f := 4) (b := b) (ci := 2) (fs := [.int (nI 4), .ref q12, .ref q20, .int (nI 0), .int (nI 0)]) (ty := .boolean) F tyX2 tyX2_ok nmX2 in_X2_init_2 (by omega) (by first | (simp [au]; done) | (simp [au]; first | omega | (intro z; omega))) (by first | (simp [eu]; done) | (simp [eu]; first | omega | (intro z; omega))) rfl (by decide) lk_X2_init_fieldLink_RX2_25_JoinedSketches_Sketch_full_Z rfl rfl (by decide +kernel) rfl rfl (Nat.le_of_ble_eq_true rfl) dX2_init_32 ?_
  refine k_vret (pc := 35) F hr rfl rfl rfl (fun i hi => by unfold au; rw [if_neg (by omega), if_neg (by omega)]) (fun i hi => ?_) dX2_init_35
  rcases (show i < b ∨ i = b ∨ i = b + 1 ∨ i = b + 2 by omega) with q | q | q | q
  · rw [if_pos q]; unfold eu; simp [show i ≠ b by omega, show i ≠ b + 1 by omega, show i ≠ b + 1 + 1 by omega]
  · subst q; simp [eu, skE, au] <;> (try (first | omega | (intro z; omega)))
  · subst q; simp [eu, skE, au] <;> (try (first | omega | (intro z; omega)))
  · subst q; simp [eu, skE, au] <;> (try (first | omega | (intro z; omega)))
set_option maxHeartbeats 4000000 in
set_option maxRecDepth 100000 in
theorem c_X1_init (la : Launch) {y : js_L} {a : Nat → Nat} {b : Nat} {E : Nat → va_E} (he : E b = .inr (1, [.null, .int (nI 0), .int (nI 0), .int (nI 0), .int (nI 0), .null, .int (nI 0)])) : kC la y yX1_init wsX1_init 1 12 2 160 [.ref (a b)] (b + 1) a E (b + 3) (fun a2 i => if i < b then E i else paE y a2 b (i - b)) := by
  refine k_of ⟨_, rfl⟩ (by decide) rfl (by decide) (Nat.lt_succ_self b) (fun X F hr hi => ?_)
  replace F : kF X y cX1_init 1 RX1 wsX1_init 1 12 2 160 := F
  refine k_aload_n (pc := 0) 0 F rfl dX1_init_0 ?_
  refine k_obj (pc := 1) F (lk_X1_init_methodLink_RX1_3_objectInit) (lk_X1_init_instanceMethod_objectInit) (lk_X1_init_code_objectInit_0xb1_1_none) (by decide) (by decide) dX1_init_1 ?_
  refine k_aload_n (pc := 4) 0 F rfl dX1_init_4 ?_
  refine k_bipush (pc := 5) (v := nI 80) F (by decide) dX1_init_5 ?_
  refine k_newa (pc := 7) (at0 := .char) (ty := .char) (cA0 := js_cC y) (N := 80) F (lk_X1_init_arrayClass_char) rfl (k_cls_char F) rfl (by decide) (by decide) (by decide) (by omega) (by omega) dX1_init_7 (fun q7 => ?_)
  refine k_putF (pc := 9) (T := TX1) (f := 0) (b := b) (ci := 1) (fs := [.null, .int (nI 0), .int (nI 0), .int (nI 0), .int (nI 0), .null, .int (nI 0)]) (ty := .array .char) F tyX1 tyX1_ok nmX1 in_X1_init_1 (by omega) (by first | (simp [au]; done) | (simp [au]; first | omega | (intro z; omega))) (by first | (simp [eu]; exact he) | (simp [eu]; done)) rfl (by decide) lk_X1_init_fieldLink_RX1_9_JoinedSketches_Pad_signs_C rfl rfl hi rfl (by decide +kernel) rfl rfl (Nat.le_of_ble_eq_true rfl) dX1_init_9 ?_
  refine k_aload_n (pc := 12) 0 F rfl dX1_init_12 ?_
  refine k_iconst (pc := 13) (v := nI 0) F (by decide) dX1_init_13 ?_
  refine k_put (pc := 14) (T := TX1) (f := 1) (b := b) (ci := 1) (fs := [.ref q7, .int (nI 0), .int (nI 0), .int (nI 0), .int (nI 0), .null, .int (nI 0)]) (ty := .int) F tyX1 tyX1_ok nmX1 in_X1_init_1 (by omega) (by first | (simp [au]; done) | (simp [au]; first | omega | (intro z; omega))) (by first | (simp [eu]; done) | (simp [eu]; first | omega | (intro z; omega))) rfl (by decide) lk_X1_init_fieldLink_RX1_15_JoinedSketches_Pad_length_I rfl rfl (by decide +kernel) rfl rfl (Nat.le_of_ble_eq_true rfl) dX1_init_14 ?_
  refine k_aload_n (pc := 17) 0 F rfl dX1_init_17 ?_
  refine k_iconst (pc := 18) (v := nI 0) F (by decide) dX1_init_18 ?_
  refine k_put (pc := 19) (T := TX1) (f := 2) (b := b) (ci := 1) (fs := [.ref q7, .int (nI 0), .int (nI 0), .int (nI 0), .int (nI 0), .null, .int (nI 0)]) (ty := .int) F tyX1 tyX1_ok nmX1 in_X1_init_1 (by omega) (by first | (simp [au]; done) | (simp [au]; first | omega | (intro z; omega))) (by first | (simp [eu]; done) | (simp [eu]; first | omega | (intro z; omega))) rfl (by decide) lk_X1_init_fieldLink_RX1_19_JoinedSketches_Pad_at_I rfl rfl (by decide +kernel) rfl rfl (Nat.le_of_ble_eq_true rfl) dX1_init_19 ?_
  refine k_aload_n (pc := 22) 0 F rfl dX1_init_22 ?_
  refine k_iconst (pc := 23) (v := nI 0) F (by decide) dX1_init_23 ?_
  refine k_put (pc := 24) (T := TX1) (f := 3) (b := b) (ci := 1) (fs := [.ref q7, .int (nI 0), .int (nI 0), .int (nI 0), .int (nI 0), .null, .int (nI 0)]) (ty := .int) F tyX1 tyX1_ok nmX1 in_X1_init_1 (by omega) (by first | (simp [au]; done) | (simp [au]; first | omega | (intro z; omega))) (by first | (simp [eu]; done) | (simp [eu]; first | omega | (intro z; omega))) rfl (by decide) lk_X1_init_fieldLink_RX1_22_JoinedSketches_Pad_sketch_I rfl rfl (by decide +kernel) rfl rfl (Nat.le_of_ble_eq_true rfl) dX1_init_24 ?_
  refine k_aload_n (pc := 27) 0 F rfl dX1_init_27 ?_
  refine k_bipush (pc := 28) (v := nI 33) F (by decide) dX1_init_28 ?_
  refine k_put (pc := 30) (T := TX1) (f := 4) (b := b) (ci := 1) (fs := [.ref q7, .int (nI 0), .int (nI 0), .int (nI 0), .int (nI 0), .null, .int (nI 0)]) (ty := .int) F tyX1 tyX1_ok nmX1 in_X1_init_1 (by omega) (by first | (simp [au]; done) | (simp [au]; first | omega | (intro z; omega))) (by first | (simp [eu]; done) | (simp [eu]; first | omega | (intro z; omega))) rfl (by decide) lk_X1_init_fieldLink_RX1_25_JoinedSketches_Pad_verb_I rfl rfl (by decide +kernel) rfl rfl (Nat.le_of_ble_eq_true rfl) dX1_init_30 ?_
  refine k_aload_n (pc := 33) 0 F rfl dX1_init_33 ?_
  refine k_bipush (pc := 34) (v := nI 80) F (by decide) dX1_init_34 ?_
  refine k_newa (pc := 36) (at0 := .int) (ty := .int) (cA0 := js_cI y) (N := 80) F (lk_X1_init_arrayClass_int) rfl (k_cls_int F) rfl (by decide) (by decide) (by decide) (by omega) (by omega) dX1_init_36 (fun q36 => ?_)
  refine k_putF (pc := 38) (T := TX1) (f := 5) (b := b) (ci := 1) (fs := [.ref q7, .int (nI 0), .int (nI 0), .int (nI 0), .int (nI 33), .null, .int (nI 0)]) (ty := .array .int) F tyX1 tyX1_ok nmX1 in_X1_init_1 (by omega) (by first | (simp [au]; done) | (simp [au]; first | omega | (intro z; omega))) (by first | (simp [eu]; done) | (simp [eu]; first | omega | (intro z; omega))) rfl (by decide) lk_X1_init_fieldLink_RX1_28_JoinedSketches_Pad_numbers_I rfl rfl hi rfl (by decide +kernel) rfl rfl (Nat.le_of_ble_eq_true rfl) dX1_init_38 ?_
  refine k_aload_n (pc := 41) 0 F rfl dX1_init_41 ?_
  refine k_iconst (pc := 42) (v := nI 0) F (by decide) dX1_init_42 ?_
  refine k_put (pc := 43) (T := TX1) (f := 6) (b := b) (ci := 1) (fs := [.ref q7, .int (nI 0), .int (nI 0), .int (nI 0), .int (nI 33), .ref q36, .int (nI 0)]) (ty := .int) F tyX1 tyX1_ok nmX1 in_X1_init_1 (by omega) (by first | (simp [au]; done) | (simp [au]; first | omega | (intro z; omega))) (by first | (simp [eu]; done) | (simp [eu]; first | omega | (intro z; omega))) rfl (by decide) lk_X1_init_fieldLink_RX1_32_JoinedSketches_Pad_many_I rfl rfl (by decide +kernel) rfl rfl (Nat.le_of_ble_eq_true rfl) dX1_init_43 ?_
  refine k_vret (pc := 46) F hr rfl rfl rfl (fun i hi => by unfold au; rw [if_neg (by omega), if_neg (by omega)]) (fun i hi => ?_) dX1_init_46
  rcases (show i < b ∨ i = b ∨ i = b + 1 ∨ i = b + 2 by omega) with q | q | q | q
  · rw [if_pos q]; unfold eu; simp [show i ≠ b by omega, show i ≠ b + 1 by omega, show i ≠ b + 1 + 1 by omega]
  · subst q; simp [eu, paE, au] <;> (try (first | omega | (intro z; omega)))
  · subst q; simp [eu, paE, au] <;> (try (first | omega | (intro z; omega)))
  · subst q; simp [eu, paE, au] <;> (try (first | omega | (intro z; omega)))
set_option maxHeartbeats 4000000 in
set_option maxRecDepth 100000 in
theorem c_X3_init (la : Launch) {y : js_L} {a : Nat → Nat} {b : Nat} {E : Nat → va_E} (he : E b = .inr (3, [.int (nI 0), .null])) : kC la y yX3_init wsX3_init 2 32 19 660 [.ref (a b)] (b + 1) a E (b + 20) (fun a2 i => if i < b then E i else stE y a2 b (i - b)) := by
  refine k_of ⟨_, rfl⟩ (by decide) rfl (by decide) (Nat.lt_succ_self b) (fun X F hr hi => ?_)
  replace F : kF X y cX3_init 2 RX3 wsX3_init 2 32 19 660 := F
  refine k_aload_n (pc := 0) 0 F rfl dX3_init_0 ?_
  refine k_obj (pc := 1) F (lk_X3_init_methodLink_RX3_3_objectInit) (lk_X3_init_instanceMethod_objectInit) (lk_X3_init_code_objectInit_0xb1_1_none) (by decide) (by decide) dX3_init_1 ?_
  refine k_aload_n (pc := 4) 0 F rfl dX3_init_4 ?_
  refine k_sipush (pc := 5) (v := nI 12345) F (by decide) dX3_init_5 ?_
  refine k_put (pc := 8) (T := TX3) (f := 0) (b := b) (ci := 3) (fs := [.int (nI 0), .null]) (ty := .int) F tyX3 tyX3_ok nmX3 in_X3_init_3 (Nat.lt_succ_self b) (rfl) (he) rfl (by decide) lk_X3_init_fieldLink_RX3_9_JoinedSketches_State_salt_I rfl rfl (by decide +kernel) rfl rfl (Nat.le_of_ble_eq_true rfl) dX3_init_8 ?_
  refine k_aload_n (pc := 11) 0 F rfl dX3_init_11 ?_
  refine k_bipush (pc := 12) (v := nI 6) F (by decide) dX3_init_12 ?_
  refine k_newq (pc := 14) (C := RX2) (cA0 := js_cK y) (N := 6) F (lk_X3_init_classLink_RX3_15_RX2) (F.2.2.2.1.2.1) (k_cls_sk F) (by decide) (by decide) (by decide) (by omega) (by omega) dX3_init_14 (fun q14 => ?_)
  refine k_putF (pc := 17) (T := TX3) (f := 1) (b := b) (ci := 3) (fs := [.int (nI 12345), .null]) (ty := .array (.object "JoinedSketches$Sketch")) F tyX3 tyX3_ok nmX3 in_X3_init_3 (by omega) (by first | (simp [au]; done) | (simp [au]; first | omega | (intro z; omega))) (by first | (simp [eu]; done) | (simp [eu]; first | omega | (intro z; omega))) rfl (by decide) lk_X3_init_fieldLink_RX3_17_JoinedSketches_State_sketches_LJoinedSketches_Sketch rfl rfl hi rfl (by decide +kernel) rfl rfl (Nat.le_of_ble_eq_true rfl) dX3_init_17 ?_
  refine k_iconst (pc := 20) (v := nI 0) F (by decide) dX3_init_20 ?_
  refine k_istore_n (pc := 21) (lv2 := [(0, .ref (a b)), (1, .int (nI 0))]) F dX3_init_21 (by decide) [1, 0] rfl ?_
  have LP : ∀ (fu k : Nat) (a1 : Nat → Nat) (hk : k ≤ 6) (ha : ∀ i, i < b + 1 → a1 i = a i) (hfu : 6 - k < fu), kW X y 2 (kQ X y 19 660 (b + 1) a (b + 20) (fun a2 i => if i < b then E i else stE y a2 b (i - b))) (1 + 3 * k) (6 + 109 * k) (b + 2 + 3 * k) a1 (fun i => if i < b then E i else if i = b then .inr (3, [.int (nI 12345), .ref (a1 (b + 1))]) else if i = b + 1 then .inl (js_cK y, 6, .inr (.inr (.inr (.inr (fun j => if j < k then some (a1 (b + 2 + 3 * j)) else none))))) else skE y a1 (b + 2 + 3 * ((i - b - 2) / 3)) ((i - b - 2) % 3)) 22 [(0, .ref (a b)), (1, .int (nI k))] [] := by
    intro fu
    induction fu with
    | zero => intro k a1 hk ha hfu; exact absurd hfu (Nat.not_lt_zero _)
    | succ fu ih =>
      intro k a1 hk ha hfu
      refine k_iload_n (pc := 22) 1 F rfl dX3_init_22 ?_
      refine k_bipush (pc := 23) (v := nI 6) F (by decide) dX3_init_23 ?_
      refine k_icmp_geN (pc := 25) (a := k) (b := 6) (tgt := 47) F (by omega) (by decide) dX3_init_25 (by decide) (fun h6 => ?_) (fun h6 => ?_)
      · have e : k = 6 := by omega
        subst e
        refine k_vret (pc := 47) F hr rfl rfl rfl ha (fun i hi => ?_) dX3_init_47
        try dsimp only
        by_cases q : i < b
        · rw [if_pos q, if_pos q]
        · rw [if_neg q, if_neg q]
          unfold stE
          by_cases q1 : i = b
          · rw [if_pos q1, if_pos (show i - b = 0 by omega)]
          · rw [if_neg q1, if_neg (show ¬ i - b = 0 by omega)]
            by_cases q2 : i = b + 1
            · rw [if_pos q2, if_pos (show i - b = 1 by omega)]
            · rw [if_neg q2, if_neg (show ¬ i - b = 1 by omega)]
      · refine k_aload_n (pc := 28) 0 F rfl dX3_init_28 ?_
        refine k_get (pc := 29) (T := TX3) (f := 1) (b := b) (ci := 3) (fs := [.int (nI 12345), .ref (a1 (b + 1))]) F in_X3_init_3 (by omega) (ha b (by omega)).symm (by simp) rfl (by decide) lk_X3_init_fieldLink_RX3_17_JoinedSketches_State_sketches_LJoinedSketches_Sketch rfl rfl dX3_init_29 ?_
        refine k_iload_n (pc := 32) 1 F rfl dX3_init_32 ?_
        refine k_new (pc := 33) (C := RX2) (T := TX2) (N := 5) (ci := 2) (fs := [.int (nI 0), .null, .null, .int (nI 0), .int (nI 0)]) F in_X3_init_2 tyX2 tyX2_ok (lk_X3_init_classLink_RX3_15_RX2) (lk_X3_init_instantiable_RX2_5) (lk_X3_init_initialized_RX2) rfl (k_def2) (by omega) (by omega) dX3_init_33 (fun q33 => ?_)
        refine k_dup (pc := 36) rfl F dX3_init_36 ?_
        refine k_initN (pc := 37) (b := b + 2 + 3 * k) F (au_s.symm) (c_X2_init _ (y := y) (b := b + 2 + 3 * k) eu_s) ⟨_, rfl⟩ gX3_init_X2_init_n21 (lk_X3_init_initialized_RX2) (lk_X3_init_instanceMethod_yX2_init) rfl (by decide) ⟨by decide, by decide⟩ (Nat.le_of_ble_eq_true rfl) (by omega) (by omega) F.2.2.2.1.1.1 dX3_init_37 (fun a2 ha2 => ?_)
        have hg : ∀ i, i < b + 2 + 3 * k → a2 i = a1 i := fun i hi => (ha2 i (by omega)).trans (au_n (by omega))
        have hz : a2 (b + 2 + 3 * k) = q33 := (ha2 _ (by omega)).trans au_s
        refine k_astq (pc := 40) (b := b + 1) (c := b + 2 + 3 * k) (ci := 2) (t0 := 3) (m := 6) (j := k) (cA := js_cK y) (r := (RX2, TX2, 5)) (f := fun j => if j < k then some (a1 (b + 2 + 3 * j)) else none) (vs := [.int (nI 4), .ref (a2 (b + 2 + 3 * k + 1)), .ref (a2 (b + 2 + 3 * k + 2)), .int (nI 0), .int (nI 0)]) F (by omega) (by omega) (hg _ (by omega)).symm hz.symm ?_ rfl ?_ rfl rfl (by omega) (by decide) dX3_init_40 ?_
        · rw [if_pos (by omega), eu_n (by omega)]
          show (if b + 1 < b then _ else if b + 1 = b then _ else if b + 1 = b + 1 then _ else _) = _
          rw [if_neg (by omega), if_neg (by omega), if_pos rfl]
        · rw [if_neg (by omega), Nat.sub_self]; rfl
        refine k_iinc (pc := 41) (v := nI (k + 1)) (lv2 := [(0, .ref (a b)), (1, .int (nI (k + 1)))]) F dX3_init_41 1 rfl (nI_add _ _) (by decide) [1, 0] rfl ?_
        refine k_goto (pc := 44) (tgt := 22) F dX3_init_44 (by decide) ?_
        refine k_eq (by omega) (by omega) (fun i hi => ?_) (ih (k + 1) a2 (by omega) (fun i hi => (hg i (by omega)).trans (ha i hi)) (by omega))
        try dsimp only
        by_cases q1 : i = b + 1
        · subst q1
          rw [eu_s, if_neg (by omega), if_neg (by omega), if_pos rfl]
          refine congrArg (fun f : Nat → Option Nat => (Sum.inl (js_cK y, 6, Sum.inr (Sum.inr (Sum.inr (Sum.inr f)))) : va_E)) (funext (fun j => ?_))
          unfold va_up
          by_cases qj : j = k
          · subst qj; rw [if_pos rfl, if_pos (by omega)]
          · rw [if_neg qj]
            show (if j < k then some (a1 (b + 2 + 3 * j)) else none) = _
            by_cases qj2 : j < k
            · rw [if_pos qj2, if_pos (by omega), hg _ (by omega)]
            · rw [if_neg qj2, if_neg (by omega)]
        · rw [eu_n q1]
          by_cases q2 : i < b + 2 + 3 * k
          · rw [if_pos q2, eu_n (by omega)]
            by_cases q3 : i < b
            · rw [if_pos q3, if_pos q3]
            · rw [if_neg q3, if_neg q3]
              by_cases q4 : i = b
              · rw [if_pos q4, if_pos q4, hg _ (by omega)]
              · rw [if_neg q4, if_neg q4, if_neg q1, if_neg q1]
                exact skE_c (fun z hz2 => (hg z (by omega)).symm)
          · rw [if_neg q2, if_neg (by omega), if_neg (by omega), if_neg q1]
            rw [show (i - b - 2) / 3 = k by omega, show (i - b - 2) % 3 = i - (b + 2 + 3 * k) by omega]
  refine k_eq (E2 := _) rfl rfl (fun i hi => ?_) (LP 7 0 (au a (b + 1) q14) (by decide) (fun i hi => au_n (by omega)) (by decide))
  try dsimp only
  rcases (show i < b ∨ i = b ∨ i = b + 1 by omega) with q | q | q
  · rw [if_pos q]; unfold eu; simp [show i ≠ b by omega, show i ≠ b + 1 by omega]
  · subst q; simp [eu, au]
  · subst q; simp [eu] <;> (intro z; omega)
set_option maxHeartbeats 4000000 in
set_option maxRecDepth 100000 in
theorem c_X0_init (la : Launch) {y : js_L} {a : Nat → Nat} {b : Nat} {E : Nat → va_E} (he : E b = .inr (0, [.null, .int (nI 0), .int (nI 0)])) : kC la y yX0_init wsX0_init 3 53 121 3978 [.ref (a b)] (b + 1) a E (b + 122) (fun a2 i => if i < b then E i else hiE y a2 b (i - b)) := by
  refine k_of ⟨_, rfl⟩ (by decide) rfl (by decide) (Nat.lt_succ_self b) (fun X F hr hi => ?_)
  replace F : kF X y cX0_init 2 RX0 wsX0_init 3 53 121 3978 := F
  refine k_aload_n (pc := 0) 0 F rfl dX0_init_0 ?_
  refine k_obj (pc := 1) F (lk_X0_init_methodLink_RX0_3_objectInit) (lk_X0_init_instanceMethod_objectInit) (lk_X0_init_code_objectInit_0xb1_1_none) (by decide) (by decide) dX0_init_1 ?_
  refine k_aload_n (pc := 4) 0 F rfl dX0_init_4 ?_
  refine k_bipush (pc := 5) (v := nI 6) F (by decide) dX0_init_5 ?_
  refine k_newq (pc := 7) (C := RX3) (cA0 := js_cT y) (N := 6) F (lk_X0_init_classLink_RX0_9_RX3) (F.2.2.2.1.2.2) (k_cls_st F) (by decide) (by decide) (by decide) (by omega) (by omega) dX0_init_7 (fun q7 => ?_)
  refine k_putF (pc := 10) (T := TX0) (f := 0) (b := b) (ci := 0) (fs := [.null, .int (nI 0), .int (nI 0)]) (ty := .array (.object "JoinedSketches$State")) F tyX0 tyX0_ok nmX0 in_X0_init_0 (by omega) (by first | (simp [au]; done) | (simp [au]; first | omega | (intro z; omega))) (by first | (simp [eu]; exact he) | (simp [eu]; done)) rfl (by decide) lk_X0_init_fieldLink_RX0_11_JoinedSketches_History_ring_LJoinedSketches_State rfl rfl hi rfl (by decide +kernel) rfl rfl (Nat.le_of_ble_eq_true rfl) dX0_init_10 ?_
  refine k_aload_n (pc := 13) 0 F rfl dX0_init_13 ?_
  refine k_iconst (pc := 14) (v := nI 0) F (by decide) dX0_init_14 ?_
  refine k_put (pc := 15) (T := TX0) (f := 1) (b := b) (ci := 0) (fs := [.ref q7, .int (nI 0), .int (nI 0)]) (ty := .int) F tyX0 tyX0_ok nmX0 in_X0_init_0 (by omega) (by first | (simp [au]; done) | (simp [au]; first | omega | (intro z; omega))) (by first | (simp [eu]; done) | (simp [eu]; first | omega | (intro z; omega))) rfl (by decide) lk_X0_init_fieldLink_RX0_17_JoinedSketches_History_oldest_I rfl rfl (by decide +kernel) rfl rfl (Nat.le_of_ble_eq_true rfl) dX0_init_15 ?_
  refine k_aload_n (pc := 18) 0 F rfl dX0_init_18 ?_
  refine k_iconst (pc := 19) (v := nI 0) F (by decide) dX0_init_19 ?_
  refine k_put (pc := 20) (T := TX0) (f := 2) (b := b) (ci := 0) (fs := [.ref q7, .int (nI 0), .int (nI 0)]) (ty := .int) F tyX0 tyX0_ok nmX0 in_X0_init_0 (by omega) (by first | (simp [au]; done) | (simp [au]; first | omega | (intro z; omega))) (by first | (simp [eu]; done) | (simp [eu]; first | omega | (intro z; omega))) rfl (by decide) lk_X0_init_fieldLink_RX0_21_JoinedSketches_History_size_I rfl rfl (by decide +kernel) rfl rfl (Nat.le_of_ble_eq_true rfl) dX0_init_20 ?_
  refine k_iconst (pc := 23) (v := nI 0) F (by decide) dX0_init_23 ?_
  refine k_istore_n (pc := 24) (lv2 := [(0, .ref (a b)), (1, .int (nI 0))]) F dX0_init_24 (by decide) [1, 0] rfl ?_
  have LP : ∀ (fu k : Nat) (a1 : Nat → Nat) (hk : k ≤ 6) (ha : ∀ i, i < b + 1 → a1 i = a i) (hfu : 6 - k < fu), kW X y 2 (kQ X y 121 3978 (b + 1) a (b + 122) (fun a2 i => if i < b then E i else hiE y a2 b (i - b))) (1 + 20 * k) (6 + 662 * k) (b + 2 + 20 * k) a1 (fun i => if i < b then E i else if i = b then .inr (0, [.ref (a1 (b + 1)), .int (nI 0), .int (nI 0)]) else if i = b + 1 then .inl (js_cT y, 6, .inr (.inr (.inr (.inr (fun j => if j < k then some (a1 (b + 2 + 20 * j)) else none))))) else stE y a1 (b + 2 + 20 * ((i - b - 2) / 20)) ((i - b - 2) % 20)) 25 [(0, .ref (a b)), (1, .int (nI k))] [] := by
    intro fu
    induction fu with
    | zero => intro k a1 hk ha hfu; exact absurd hfu (Nat.not_lt_zero _)
    | succ fu ih =>
      intro k a1 hk ha hfu
      refine k_iload_n (pc := 25) 1 F rfl dX0_init_25 ?_
      refine k_bipush (pc := 26) (v := nI 6) F (by decide) dX0_init_26 ?_
      refine k_icmp_geN (pc := 28) (a := k) (b := 6) (tgt := 50) F (by omega) (by decide) dX0_init_28 (by decide) (fun h6 => ?_) (fun h6 => ?_)
      · have e : k = 6 := by omega
        subst e
        refine k_vret (pc := 50) F hr rfl rfl rfl ha (fun i hi => ?_) dX0_init_50
        try dsimp only
        by_cases q : i < b
        · rw [if_pos q, if_pos q]
        · rw [if_neg q, if_neg q]
          unfold hiE
          by_cases q1 : i = b
          · rw [if_pos q1, if_pos (show i - b = 0 by omega)]
          · rw [if_neg q1, if_neg (show ¬ i - b = 0 by omega)]
            by_cases q2 : i = b + 1
            · rw [if_pos q2, if_pos (show i - b = 1 by omega)]
            · rw [if_neg q2, if_neg (show ¬ i - b = 1 by omega)]
      · refine k_aload_n (pc := 31) 0 F rfl dX0_init_31 ?_
        refine k_get (pc := 32) (T := TX0) (f := 0) (b := b) (ci := 0) (fs := [.ref (a1 (b + 1)), .int (nI 0), .int (nI 0)]) F in_X0_init_0 (by omega) (ha b (by omega)).symm (by simp) rfl (by decide) lk_X0_init_fieldLink_RX0_11_JoinedSketches_History_ring_LJoinedSketches_State rfl rfl dX0_init_32 ?_
        refine k_iload_n (pc := 35) 1 F rfl dX0_init_35 ?_
        refine k_new (pc := 36) (C := RX3) (T := TX3) (N := 2) (ci := 3) (fs := [.int (nI 0), .null]) F in_X0_init_3 tyX3 tyX3_ok (lk_X0_init_classLink_RX0_9_RX3) (lk_X0_init_instantiable_RX3_2) (lk_X0_init_initialized_RX3) rfl (k_def3) (by omega) (by omega) dX0_init_36 (fun q36 => ?_)
        refine k_dup (pc := 39) rfl F dX0_init_39 ?_
        refine k_init (pc := 40) (b := b + 2 + 20 * k) F (au_s.symm) (c_X3_init _ (y := y) (b := b + 2 + 20 * k) eu_s) ⟨_, rfl⟩ gX0_init_X3_init (lk_X0_init_initialized_RX3) (lk_X0_init_instanceMethod_yX3_init) rfl (by decide) ⟨by decide, by decide⟩ (Nat.le_of_ble_eq_true rfl) (by omega) (by omega) lk_X0_init_methodLink_RX0_24_yX3_init dX0_init_40 (fun a2 ha2 => ?_)
        have hg : ∀ i, i < b + 2 + 20 * k → a2 i = a1 i := fun i hi => (ha2 i (by omega)).trans (au_n (by omega))
        have hz : a2 (b + 2 + 20 * k) = q36 := (ha2 _ (by omega)).trans au_s
        refine k_astq (pc := 43) (b := b + 1) (c := b + 2 + 20 * k) (ci := 3) (t0 := 4) (m := 6) (j := k) (cA := js_cT y) (r := (RX3, TX3, 2)) (f := fun j => if j < k then some (a1 (b + 2 + 20 * j)) else none) (vs := [.int (nI 12345), .ref (a2 (b + 2 + 20 * k + 1))]) F (by omega) (by omega) (hg _ (by omega)).symm hz.symm ?_ rfl ?_ rfl rfl (by omega) (by decide) dX0_init_43 ?_
        · rw [if_pos (by omega), eu_n (by omega)]
          show (if b + 1 < b then _ else if b + 1 = b then _ else if b + 1 = b + 1 then _ else _) = _
          rw [if_neg (by omega), if_neg (by omega), if_pos rfl]
        · rw [if_neg (by omega), Nat.sub_self]; rfl
        refine k_iinc (pc := 44) (v := nI (k + 1)) (lv2 := [(0, .ref (a b)), (1, .int (nI (k + 1)))]) F dX0_init_44 1 rfl (nI_add _ _) (by decide) [1, 0] rfl ?_
        refine k_goto (pc := 47) (tgt := 25) F dX0_init_47 (by decide) ?_
        refine k_eq (by omega) (by omega) (fun i hi => ?_) (ih (k + 1) a2 (by omega) (fun i hi => (hg i (by omega)).trans (ha i hi)) (by omega))
        try dsimp only
        by_cases q1 : i = b + 1
        · subst q1
          rw [eu_s, if_neg (by omega), if_neg (by omega), if_pos rfl]
          refine congrArg (fun f : Nat → Option Nat => (Sum.inl (js_cT y, 6, Sum.inr (Sum.inr (Sum.inr (Sum.inr f)))) : va_E)) (funext (fun j => ?_))
          unfold va_up
          by_cases qj : j = k
          · subst qj; rw [if_pos rfl, if_pos (by omega)]
          · rw [if_neg qj]
            show (if j < k then some (a1 (b + 2 + 20 * j)) else none) = _
            by_cases qj2 : j < k
            · rw [if_pos qj2, if_pos (by omega), hg _ (by omega)]
            · rw [if_neg qj2, if_neg (by omega)]
        · rw [eu_n q1]
          by_cases q2 : i < b + 2 + 20 * k
          · rw [if_pos q2, eu_n (by omega)]
            by_cases q3 : i < b
            · rw [if_pos q3, if_pos q3]
            · rw [if_neg q3, if_neg q3]
              by_cases q4 : i = b
              · rw [if_pos q4, if_pos q4, hg _ (by omega)]
              · rw [if_neg q4, if_neg q4, if_neg q1, if_neg q1]
                exact stE_c (by omega) (fun z hz2 => (hg z (by omega)).symm)
          · rw [if_neg q2, if_neg (by omega), if_neg (by omega), if_neg q1]
            rw [show (i - b - 2) / 20 = k by omega, show (i - b - 2) % 20 = i - (b + 2 + 20 * k) by omega]
  refine k_eq (E2 := _) rfl rfl (fun i hi => ?_) (LP 7 0 (au a (b + 1) q7) (by decide) (fun i hi => au_n (by omega)) (by decide))
  try dsimp only
  rcases (show i < b ∨ i = b ∨ i = b + 1 by omega) with q | q | q
  · rw [if_pos q]; unfold eu; simp [show i ≠ b by omega, show i ≠ b + 1 by omega]
  · subst q; simp [eu, au]
  · subst q; simp [eu] <;> (intro z; omega)
