theorem in_X2_hasPlace_2 : ∀ w ∈ wsX20, w ∈ wsX2_hasPlace := by decide +kernel
theorem lk_X2_hasPlace_fieldLink_RX2_19_JoinedSketches_Sketch_things_I : Cond.fieldLink RX2 19 "JoinedSketches$Sketch" "things" "[I" ∈ wsX2_hasPlace := by decide +kernel
theorem lk_X2_hasPlace_fieldLink_RX2_22_JoinedSketches_Sketch_listLength_I : Cond.fieldLink RX2 22 "JoinedSketches$Sketch" "listLength" "I" ∈ wsX2_hasPlace := by decide +kernel
theorem mf_X2_hasPlace : js_M yX2_hasPlace cX2_hasPlace 2 (some .boolean) wsX2_hasPlace 1 := ⟨⟨_, rfl⟩, by decide +kernel, by decide +kernel, by decide +kernel, by decide +kernel⟩
set_option maxHeartbeats 4000000 in
set_option maxRecDepth 100000 in
theorem c_X2_hasPlace (la : Launch) {y : js_L} (hy : js_Dy y) {j : Nat} (hj : j < 55) {G : js_G} {n : Nat} (hl3 : G (js_kS j) 3 = nI n) (hlen : n ≤ 40) {p : Nat} (hp : p < 2 ^ 31) : js_Ci la y yX2_hasPlace wsX2_hasPlace 1 12 [.ref (js_ad y (js_kS j)), .int (nI (p))] G (fun r G' => r = nI (if p < n then 1 else 0) ∧ G = G') := by
  refine js_ofi mf_X2_hasPlace (Nat.le_of_ble_eq_true rfl) hy (fun X F hr => ?_)
  replace F : js_F X y cX2_hasPlace 2 RX2 wsX2_hasPlace 1 12 := F
  show js_W X y 2 _ G 0 [(0, .ref (js_ad y (js_kS j))), (1, .int (nI (p)))] []
  refine js_iload_n (pc := 0) 1 F rfl dX2_hasPlace_0 ?_
  refine js_if_ltN (pc := 1) (a := p) (tgt := 25) F (by omega) dX2_hasPlace_1 (by decide) (fun h1 => by exact absurd h1 (Nat.not_lt_zero _)) (fun h1 => ?_)
  refine js_iload_n (pc := 4) 1 F rfl dX2_hasPlace_4 ?_
  refine js_aload_n (pc := 5) 0 F rfl dX2_hasPlace_5 ?_
  refine jg_S_listLength (pc := 6) (v := nI (n)) F in_X2_hasPlace_2 hj (lk_X2_hasPlace_fieldLink_RX2_22_JoinedSketches_Sketch_listLength_I) (hl3) dX2_hasPlace_6 ?_
  refine js_icmp_geN (pc := 9) (a := p) (b := n) (tgt := 25) F (by omega) (by omega) dX2_hasPlace_9 (by decide) (fun h9 => ?_) (fun h9 => ?_)
  · skip
    refine js_iconst (pc := 25) (v := nI (0)) F (by decide) dX2_hasPlace_25 ?_
    refine js_iret (pc := 26) F hr (rfl) ?_ dX2_hasPlace_26
    exact ⟨by rw [if_neg (by omega)], rfl⟩
  · skip
    refine js_iload_n (pc := 12) 1 F rfl dX2_hasPlace_12 ?_
    refine js_aload_n (pc := 13) 0 F rfl dX2_hasPlace_13 ?_
    refine jg_S_things (pc := 14) F in_X2_hasPlace_2 hj (lk_X2_hasPlace_fieldLink_RX2_19_JoinedSketches_Sketch_things_I) dX2_hasPlace_14 ?_
    refine js_alen (pc := 17) (t0 := 0) F (by unfold js_kT; omega) (js_ct_T hj) rfl dX2_hasPlace_17 ?_
    refine js_icmp_geN (pc := 18) (a := p) (b := 40) (tgt := 25) F (by omega) (by decide) dX2_hasPlace_18 (by decide) (fun h18 => ?_) (fun h18 => ?_)
    · skip
      refine js_iconst (pc := 25) (v := nI (0)) F (by decide) dX2_hasPlace_25 ?_
      refine js_iret (pc := 26) F hr (rfl) ?_ dX2_hasPlace_26
      exact ⟨by rw [if_neg (by omega)], rfl⟩
    · skip
      refine js_iconst (pc := 21) (v := nI (1)) F (by decide) dX2_hasPlace_21 ?_
      refine js_goto (pc := 22) (tgt := 26) F dX2_hasPlace_22 (by decide) ?_
      refine js_iret (pc := 26) F hr (rfl) ?_ dX2_hasPlace_26
      exact ⟨by rw [if_pos (by omega)], rfl⟩
set_option maxHeartbeats 4000000 in
set_option maxRecDepth 100000 in
theorem c_X2_hasPlace_neg (la : Launch) {y : js_L} (hy : js_Dy y) {j : Nat} (hj : j < 55) {G : js_G} {x : Int32} (hx : x < 0) : js_Ci la y yX2_hasPlace wsX2_hasPlace 1 12 [.ref (js_ad y (js_kS j)), .int (x)] G (fun r G' => r = nI 0 ∧ G = G') := by
  refine js_ofi mf_X2_hasPlace (Nat.le_of_ble_eq_true rfl) hy (fun X F hr => ?_)
  replace F : js_F X y cX2_hasPlace 2 RX2 wsX2_hasPlace 1 12 := F
  show js_W X y 2 _ G 0 [(0, .ref (js_ad y (js_kS j))), (1, .int (x))] []
  refine js_iload_n (pc := 0) 1 F rfl dX2_hasPlace_0 ?_
  refine js_if_lt (pc := 1) (tgt := 25) F dX2_hasPlace_1 (by decide) (fun h1 => ?_) (fun h1 => by exact absurd hx h1)
  refine js_iconst (pc := 25) (v := nI (0)) F (by decide) dX2_hasPlace_25 ?_
  refine js_iret (pc := 26) F hr (rfl) ?_ dX2_hasPlace_26
  exact ⟨rfl, rfl⟩
theorem in_X2_thingAt_2 : ∀ w ∈ wsX20, w ∈ wsX2_thingAt := by decide +kernel
theorem lk_X2_thingAt_fieldLink_RX2_19_JoinedSketches_Sketch_things_I : Cond.fieldLink RX2 19 "JoinedSketches$Sketch" "things" "[I" ∈ wsX2_thingAt := by decide +kernel
theorem mf_X2_thingAt : js_M yX2_thingAt cX2_thingAt 2 (some .int) wsX2_thingAt 1 := ⟨⟨_, rfl⟩, by decide +kernel, by decide +kernel, by decide +kernel, by decide +kernel⟩
set_option maxHeartbeats 4000000 in
set_option maxRecDepth 100000 in
theorem c_X2_thingAt (la : Launch) {y : js_L} (hy : js_Dy y) {j : Nat} (hj : j < 55) {G : js_G} {n : Nat} (hl3 : G (js_kS j) 3 = nI n) (hlen : n ≤ 40) {p : Nat} (hp : p < n) : js_Ci la y yX2_thingAt wsX2_thingAt 2 33 [.ref (js_ad y (js_kS j)), .int (nI (p))] G (fun r G' => r = G (js_kT j) p ∧ G = G') := by
  refine js_ofi mf_X2_thingAt (Nat.le_of_ble_eq_true rfl) hy (fun X F hr => ?_)
  replace F : js_F X y cX2_thingAt 2 RX2 wsX2_thingAt 2 33 := F
  show js_W X y 2 _ G 0 [(0, .ref (js_ad y (js_kS j))), (1, .int (nI (p)))] []
  refine js_aload_n (pc := 0) 0 F rfl dX2_thingAt_0 ?_
  refine js_iload_n (pc := 1) 1 F rfl dX2_thingAt_1 ?_
  refine js_calli (pc := 2) F (c_X2_hasPlace _ hy hj (G := G) (n := n) (hl3) (by omega) (p := p) (by omega)) mf_X2_hasPlace gX2_thingAt_X2_hasPlace rfl (by decide) (by unfold js_kS; omega) (js_ct_S hj) rfl rfl rfl (Nat.le_of_ble_eq_true rfl) dX2_thingAt_2 ?_
  rintro _ _ ⟨rfl, rfl⟩
  refine js_if_eqB (pc := 5) (tgt := 17) F dX2_thingAt_5 (by decide) (fun h5 => by exact absurd hp h5) (fun h5 => ?_)
  refine js_aload_n (pc := 8) 0 F rfl dX2_thingAt_8 ?_
  refine jg_S_things (pc := 9) F in_X2_thingAt_2 hj (lk_X2_thingAt_fieldLink_RX2_19_JoinedSketches_Sketch_things_I) dX2_thingAt_9 ?_
  refine js_iload_n (pc := 12) 1 F rfl dX2_thingAt_12 ?_
  refine js_iald (pc := 13) (j := p) (v := G (js_kT j) (p)) F (by unfold js_kT; omega) (js_ct_T hj) rfl (by omega) (by decide) (rfl) dX2_thingAt_13 ?_
  refine js_goto (pc := 14) (tgt := 19) F dX2_thingAt_14 (by decide) ?_
  refine js_iret (pc := 19) F hr (rfl) ?_ dX2_thingAt_19
  exact ⟨rfl, rfl⟩
theorem in_X2_isListed_2 : ∀ w ∈ wsX20, w ∈ wsX2_isListed := by decide +kernel
theorem lk_X2_isListed_fieldLink_RX2_19_JoinedSketches_Sketch_things_I : Cond.fieldLink RX2 19 "JoinedSketches$Sketch" "things" "[I" ∈ wsX2_isListed := by decide +kernel
theorem lk_X2_isListed_fieldLink_RX2_22_JoinedSketches_Sketch_listLength_I : Cond.fieldLink RX2 22 "JoinedSketches$Sketch" "listLength" "I" ∈ wsX2_isListed := by decide +kernel
theorem mf_X2_isListed : js_M yX2_isListed cX2_isListed 3 (some .boolean) wsX2_isListed 1 := ⟨⟨_, rfl⟩, by decide +kernel, by decide +kernel, by decide +kernel, by decide +kernel⟩
set_option maxHeartbeats 4000000 in
set_option maxRecDepth 100000 in
theorem c_X2_isListed (la : Launch) {y : js_L} (hy : js_Dy y) {j : Nat} (hj : j < 55) {G : js_G} {l : List Nat} (hl3 : G (js_kS j) 3 = nI l.length) (hlen : l.length ≤ 40) (hE : ∀ t, t ∈ l → t < 100000) (hT : ∀ k, k < l.length → G (js_kT j) k = nI (l.getD k 0)) {t : Nat} (ht : t < 2 ^ 31) : js_Ci la y yX2_isListed wsX2_isListed 1 12 [.ref (js_ad y (js_kS j)), .int (nI (t))] G (fun r G' => r = nI (if t ∈ l then 1 else 0) ∧ G = G') := by
  refine js_ofi mf_X2_isListed (Nat.le_of_ble_eq_true rfl) hy (fun X F hr => ?_)
  replace F : js_F X y cX2_isListed 3 RX2 wsX2_isListed 1 12 := F
  show js_W X y 3 _ G 0 [(0, .ref (js_ad y (js_kS j))), (1, .int (nI (t)))] []
  refine js_iconst (pc := 0) (v := nI (0)) F (by decide) dX2_isListed_0 ?_
  refine js_istore_n (pc := 1) (lv2 := [(0, .ref (js_ad y (js_kS j))), (1, .int (nI (t))), (2, .int (nI (0)))]) F dX2_isListed_1 (by decide) [1, 2, 0] rfl ?_
  have L2 : ∀ (fu2 : Nat) (i : Nat) (hi : i ≤ l.length) (hn : ∀ k, k < i → l.getD k 0 ≠ t) (hfu2 : l.length - i < fu2), js_W X y 3 (js_Qi X y (fun r G' => r = nI (if t ∈ l then 1 else 0) ∧ G = G')) G 2 [(0, .ref (js_ad y (js_kS j))), (1, .int (nI (t))), (2, .int (nI (i)))] [] := by
    intro fu2
    induction fu2 with
    | zero => intro i hi hn hfu2; exact absurd hfu2 (Nat.not_lt_zero _)
    | succ fu2 ih2 =>
      intro i hi hn hfu2
      refine js_iload_n (pc := 2) 2 F rfl dX2_isListed_2 ?_
      refine js_aload_n (pc := 3) 0 F rfl dX2_isListed_3 ?_
      refine jg_S_listLength (pc := 4) (v := nI (l.length)) F in_X2_isListed_2 hj (lk_X2_isListed_fieldLink_RX2_22_JoinedSketches_Sketch_listLength_I) (hl3) dX2_isListed_4 ?_
      refine js_icmp_geN (pc := 7) (a := i) (b := l.length) (tgt := 37) F (by first | omega | (have := hE _ (jm_getD_mem (k := i) (l := l) (by omega)); omega)) (by first | omega | (have := hE _ (jm_getD_mem (k := i) (l := l) (by omega)); omega)) dX2_isListed_7 (by decide) (fun h7 => ?_) (fun h7 => ?_)
      · skip
        refine js_iconst (pc := 37) (v := nI (0)) F (by decide) dX2_isListed_37 ?_
        refine js_iret (pc := 38) F hr (rfl) ?_ dX2_isListed_38
        exact ⟨by rw [if_neg (jm_not_mem hn (by omega))], rfl⟩
      · skip
        refine js_iload_n (pc := 10) 2 F rfl dX2_isListed_10 ?_
        refine js_aload_n (pc := 11) 0 F rfl dX2_isListed_11 ?_
        refine jg_S_things (pc := 12) F in_X2_isListed_2 hj (lk_X2_isListed_fieldLink_RX2_19_JoinedSketches_Sketch_things_I) dX2_isListed_12 ?_
        refine js_alen (pc := 15) (t0 := 0) F (by unfold js_kT; omega) (js_ct_T hj) rfl dX2_isListed_15 ?_
        refine js_icmp_geN (pc := 16) (a := i) (b := 40) (tgt := 37) F (by first | omega | (have := hE _ (jm_getD_mem (k := i) (l := l) (by omega)); omega)) (by decide) dX2_isListed_16 (by decide) (fun h16 => by exfalso; omega) (fun h16 => ?_)
        refine js_aload_n (pc := 19) 0 F rfl dX2_isListed_19 ?_
        refine jg_S_things (pc := 20) F in_X2_isListed_2 hj (lk_X2_isListed_fieldLink_RX2_19_JoinedSketches_Sketch_things_I) dX2_isListed_20 ?_
        refine js_iload_n (pc := 23) 2 F rfl dX2_isListed_23 ?_
        refine js_iald (pc := 24) (j := i) (v := nI (l.getD (i) 0)) F (by unfold js_kT; omega) (js_ct_T hj) rfl (by omega) (by decide) (hT _ (by omega)) dX2_isListed_24 ?_
        refine js_iload_n (pc := 25) 1 F rfl dX2_isListed_25 ?_
        refine js_icmp_neN (pc := 26) (a := l.getD (i) 0) (b := t) (tgt := 31) F (by first | omega | (have := hE _ (jm_getD_mem (k := i) (l := l) (by omega)); omega)) (by first | omega | (have := hE _ (jm_getD_mem (k := i) (l := l) (by omega)); omega)) dX2_isListed_26 (by decide) (fun h26 => ?_) (fun h26 => ?_)
        · skip
          refine js_iinc (pc := 31) (v := nI (i + 1)) (lv2 := [(0, .ref (js_ad y (js_kS j))), (1, .int (nI (t))), (2, .int (nI (i + 1)))]) F dX2_isListed_31 2 rfl (nI_add _ _) (by decide) [1, 2, 0] rfl ?_
          refine js_goto (pc := 34) (tgt := 2) F dX2_isListed_34 (by decide) ?_
          exact ih2 (i + 1) (by omega) (fun k hk => by rcases Nat.lt_or_ge k i with q | q; exact hn k q; rw [show k = i by omega]; exact h26) (by omega)
        · skip
          refine js_iconst (pc := 29) (v := nI (1)) F (by decide) dX2_isListed_29 ?_
          refine js_iret (pc := 30) F hr (rfl) ?_ dX2_isListed_30
          exact ⟨by rw [if_pos (by rw [← h26]; exact jm_getD_mem (by omega))], rfl⟩
  exact L2 (_ + 1) 0 (Nat.zero_le _) (fun k hk => absurd hk (Nat.not_lt_zero _)) (Nat.lt_succ_self _)
theorem in_X2_raise_2 : ∀ w ∈ wsX20, w ∈ wsX2_raise := by decide +kernel
theorem lk_X2_raise_fieldLink_RX2_15_JoinedSketches_Sketch_ranks_I : Cond.fieldLink RX2 15 "JoinedSketches$Sketch" "ranks" "[I" ∈ wsX2_raise := by decide +kernel
theorem mf_X2_raise : js_M yX2_raise cX2_raise 3 (some .boolean) wsX2_raise 2 := ⟨⟨_, rfl⟩, by decide +kernel, by decide +kernel, by decide +kernel, by decide +kernel⟩
set_option maxHeartbeats 4000000 in
set_option maxRecDepth 100000 in
theorem c_X2_raise (la : Launch) {y : js_L} (hy : js_Dy y) {j : Nat} (hj : j < 55) {G : js_G} {B : Nat} (hB : G (js_kS j) 0 = nI B) (hB6 : B ≤ 6) {b r v : Nat} (hb : b < 2 ^ B) (hv : G (js_kR j) b = nI v) (hr : r < 2 ^ 31) (hv2 : v < 2 ^ 31) : js_Ci la y yX2_raise wsX2_raise 2 33 [.ref (js_ad y (js_kS j)), .int (nI (b)), .int (nI (r))] G (fun q G' => q = nI (if v < r then 1 else 0) ∧ (if v < r then js_st G (js_kR j) b (nI r) else G) = G') := by
  have hp : 2 ^ B ≤ 64 := jm_p6 hB6
  have hp1 : 1 ≤ 2 ^ B := jm_p1 B
  refine js_ofi mf_X2_raise (Nat.le_of_ble_eq_true rfl) hy (fun X F hr => ?_)
  replace F : js_F X y cX2_raise 3 RX2 wsX2_raise 2 33 := F
  show js_W X y 3 _ G 0 [(0, .ref (js_ad y (js_kS j))), (1, .int (nI (b))), (2, .int (nI (r)))] []
  refine js_aload_n (pc := 0) 0 F rfl dX2_raise_0 ?_
  refine js_iload_n (pc := 1) 1 F rfl dX2_raise_1 ?_
  refine js_calli (pc := 2) F (c_X2_hasBucket _ hy hj (G := G) (B := B) (hB) (by omega) (b := b) (by omega)) mf_X2_hasBucket gX2_raise_X2_hasBucket rfl (by decide) (by unfold js_kS; omega) (js_ct_S hj) rfl rfl rfl (Nat.le_of_ble_eq_true rfl) dX2_raise_2 ?_
  rintro _ _ ⟨rfl, rfl⟩
  refine js_if_eqB (pc := 5) (tgt := 18) F dX2_raise_5 (by decide) (fun h5 => by exact absurd hb h5) (fun h5 => ?_)
  refine js_iload_n (pc := 8) 2 F rfl dX2_raise_8 ?_
  refine js_aload_n (pc := 9) 0 F rfl dX2_raise_9 ?_
  refine jg_S_ranks (pc := 10) F in_X2_raise_2 hj (lk_X2_raise_fieldLink_RX2_15_JoinedSketches_Sketch_ranks_I) dX2_raise_10 ?_
  refine js_iload_n (pc := 13) 1 F rfl dX2_raise_13 ?_
  refine js_iald (pc := 14) (j := b) (v := nI (v)) F (by unfold js_kR; omega) (js_ct_R hj) rfl (by omega) (by decide) (hv) dX2_raise_14 ?_
  refine js_icmp_gtN (pc := 15) (a := r) (b := v) (tgt := 20) F (by omega) (by omega) dX2_raise_15 (by decide) (fun h15 => ?_) (fun h15 => ?_)
  · skip
    refine js_aload_n (pc := 20) 0 F rfl dX2_raise_20 ?_
    refine jg_S_ranks (pc := 21) F in_X2_raise_2 hj (lk_X2_raise_fieldLink_RX2_15_JoinedSketches_Sketch_ranks_I) dX2_raise_21 ?_
    refine js_iload_n (pc := 24) 1 F rfl dX2_raise_24 ?_
    refine js_iload_n (pc := 25) 2 F rfl dX2_raise_25 ?_
    refine js_iast (pc := 26) (j := b) F (by unfold js_kR; omega) (fun _ => js_ct_R hj) rfl (by omega) (by decide) dX2_raise_26 ?_
    refine js_iconst (pc := 27) (v := nI (1)) F (by decide) dX2_raise_27 ?_
    refine js_iret (pc := 28) F hr (rfl) ?_ dX2_raise_28
    exact ⟨by rw [if_pos (by omega)], by rw [if_pos (by omega)]⟩
  · skip
    refine js_iconst (pc := 18) (v := nI (0)) F (by decide) dX2_raise_18 ?_
    refine js_iret (pc := 19) F hr (rfl) ?_ dX2_raise_19
    exact ⟨by rw [if_neg (by omega)], by rw [if_neg (by omega)]⟩
theorem mf_X2_wouldChangeBy : js_M yX2_wouldChangeBy cX2_wouldChangeBy 2 (some .boolean) wsX2_wouldChangeBy 1 := ⟨⟨_, rfl⟩, by decide +kernel, by decide +kernel, by decide +kernel, by decide +kernel⟩
set_option maxHeartbeats 4000000 in
set_option maxRecDepth 100000 in
theorem c_X2_wouldChangeBy (la : Launch) {y : js_L} (hy : js_Dy y) {j : Nat} (hj : j < 55) {G : js_G} {B : Nat} (hB : G (js_kS j) 0 = nI B) (hB6 : B ≤ 6) {rk : Nat → Nat} (hR : ∀ b, b < 2 ^ B → G (js_kR j) b = nI (rk b)) (hK : ∀ b, b < 2 ^ B → rk b ≤ 16) {h : Nat} (hh : h < 65536) : js_Ci la y yX2_wouldChangeBy wsX2_wouldChangeBy 3 55 [.ref (js_ad y (js_kS j)), .int (nI (h))] G (fun r G' => r = nI (if rk (h % 2 ^ B) < jm_rank h B then 1 else 0) ∧ G = G') := by
  have hp : 2 ^ B ≤ 64 := jm_p6 hB6
  have hp1 : 1 ≤ 2 ^ B := jm_p1 B
  have hmod : h % 2 ^ B < 2 ^ B := Nat.mod_lt _ (by omega)
  have hrk := jm_rank_le hh hB6
  have hk1 := hK _ hmod
  refine js_ofi mf_X2_wouldChangeBy (Nat.le_of_ble_eq_true rfl) hy (fun X F hr => ?_)
  replace F : js_F X y cX2_wouldChangeBy 2 RX2 wsX2_wouldChangeBy 3 55 := F
  show js_W X y 2 _ G 0 [(0, .ref (js_ad y (js_kS j))), (1, .int (nI (h)))] []
  refine js_aload_n (pc := 0) 0 F rfl dX2_wouldChangeBy_0 ?_
  refine js_iload_n (pc := 1) 1 F rfl dX2_wouldChangeBy_1 ?_
  refine js_calli (pc := 2) F (c_X2_rankOf _ hy hj (G := G) (B := B) (hB) (by omega) (h := h) (by omega)) mf_X2_rankOf gX2_wouldChangeBy_X2_rankOf rfl (by decide) (by unfold js_kS; omega) (js_ct_S hj) rfl rfl rfl (Nat.le_of_ble_eq_true rfl) dX2_wouldChangeBy_2 ?_
  rintro _ _ ⟨rfl, rfl⟩
  refine js_aload_n (pc := 5) 0 F rfl dX2_wouldChangeBy_5 ?_
  refine js_aload_n (pc := 6) 0 F rfl dX2_wouldChangeBy_6 ?_
  refine js_iload_n (pc := 7) 1 F rfl dX2_wouldChangeBy_7 ?_
  refine js_calli (pc := 8) F (c_X2_bucketOf _ hy hj (G := G) (B := B) (hB) (by omega) (h := h) (by omega)) mf_X2_bucketOf gX2_wouldChangeBy_X2_bucketOf rfl (by decide) (by unfold js_kS; omega) (js_ct_S hj) rfl rfl rfl (Nat.le_of_ble_eq_true rfl) dX2_wouldChangeBy_8 ?_
  rintro _ _ ⟨rfl, rfl⟩
  refine js_calli (pc := 11) F (c_X2_rankIn _ hy hj (G := G) (B := B) (hB) (by omega) (b := h % 2 ^ B) (hmod)) mf_X2_rankIn gX2_wouldChangeBy_X2_rankIn rfl (by decide) (by unfold js_kS; omega) (js_ct_S hj) rfl rfl rfl (Nat.le_of_ble_eq_true rfl) dX2_wouldChangeBy_11 ?_
  rintro _ _ ⟨hv11, rfl⟩
  rw [hv11, show G (js_kR j) (h % 2 ^ B) = nI (rk (h % 2 ^ B)) from (hR _ hmod)]
  refine js_icmp_leN (pc := 14) (a := jm_rank h B) (b := rk (h % 2 ^ B)) (tgt := 21) F (by omega) (by omega) dX2_wouldChangeBy_14 (by decide) (fun h14 => ?_) (fun h14 => ?_)
  · skip
    refine js_iconst (pc := 21) (v := nI (0)) F (by decide) dX2_wouldChangeBy_21 ?_
    refine js_iret (pc := 22) F hr (rfl) ?_ dX2_wouldChangeBy_22
    exact ⟨by rw [if_neg (by omega)], rfl⟩
  · skip
    refine js_iconst (pc := 17) (v := nI (1)) F (by decide) dX2_wouldChangeBy_17 ?_
    refine js_goto (pc := 18) (tgt := 22) F dX2_wouldChangeBy_18 (by decide) ?_
    refine js_iret (pc := 22) F hr (rfl) ?_ dX2_wouldChangeBy_22
    exact ⟨by rw [if_pos (by omega)], rfl⟩
theorem mf_X2_takeHash : js_M yX2_takeHash cX2_takeHash 2 (some .boolean) wsX2_takeHash 1 := ⟨⟨_, rfl⟩, by decide +kernel, by decide +kernel, by decide +kernel, by decide +kernel⟩
set_option maxHeartbeats 4000000 in
set_option maxRecDepth 100000 in
theorem c_X2_takeHash (la : Launch) {y : js_L} (hy : js_Dy y) {j : Nat} (hj : j < 55) {G : js_G} {B : Nat} (hB : G (js_kS j) 0 = nI B) (hB6 : B ≤ 6) {rk : Nat → Nat} (hR : ∀ b, b < 2 ^ B → G (js_kR j) b = nI (rk b)) (hK : ∀ b, b < 2 ^ B → rk b ≤ 16) {h : Nat} (hh : h < 65536) : js_Ci la y yX2_takeHash wsX2_takeHash 3 55 [.ref (js_ad y (js_kS j)), .int (nI (h))] G (fun r G' => r = nI (if rk (h % 2 ^ B) < jm_rank h B then 1 else 0) ∧ (if rk (h % 2 ^ B) < jm_rank h B then js_st G (js_kR j) (h % 2 ^ B) (nI (jm_rank h B)) else G) = G') := by
  have hp : 2 ^ B ≤ 64 := jm_p6 hB6
  have hp1 : 1 ≤ 2 ^ B := jm_p1 B
  have hmod : h % 2 ^ B < 2 ^ B := Nat.mod_lt _ (by omega)
  have hrk := jm_rank_le hh hB6
  have hk1 := hK _ hmod
  refine js_ofi mf_X2_takeHash (Nat.le_of_ble_eq_true rfl) hy (fun X F hr => ?_)
  replace F : js_F X y cX2_takeHash 2 RX2 wsX2_takeHash 3 55 := F
  show js_W X y 2 _ G 0 [(0, .ref (js_ad y (js_kS j))), (1, .int (nI (h)))] []
  refine js_aload_n (pc := 0) 0 F rfl dX2_takeHash_0 ?_
  refine js_aload_n (pc := 1) 0 F rfl dX2_takeHash_1 ?_
  refine js_iload_n (pc := 2) 1 F rfl dX2_takeHash_2 ?_
  refine js_calli (pc := 3) F (c_X2_bucketOf _ hy hj (G := G) (B := B) (hB) (by omega) (h := h) (by omega)) mf_X2_bucketOf gX2_takeHash_X2_bucketOf rfl (by decide) (by unfold js_kS; omega) (js_ct_S hj) rfl rfl rfl (Nat.le_of_ble_eq_true rfl) dX2_takeHash_3 ?_
  rintro _ _ ⟨rfl, rfl⟩
  refine js_aload_n (pc := 6) 0 F rfl dX2_takeHash_6 ?_
  refine js_iload_n (pc := 7) 1 F rfl dX2_takeHash_7 ?_
  refine js_calli (pc := 8) F (c_X2_rankOf _ hy hj (G := G) (B := B) (hB) (by omega) (h := h) (by omega)) mf_X2_rankOf gX2_takeHash_X2_rankOf rfl (by decide) (by unfold js_kS; omega) (js_ct_S hj) rfl rfl rfl (Nat.le_of_ble_eq_true rfl) dX2_takeHash_8 ?_
  rintro _ _ ⟨rfl, rfl⟩
  refine js_calli (pc := 11) F (c_X2_raise _ hy hj (G := G) (B := B) (hB) (by omega) (b := h % 2 ^ B) (r := jm_rank h B) (v := rk (h % 2 ^ B)) (hmod) (hR _ hmod) (by omega) (by omega)) mf_X2_raise gX2_takeHash_X2_raise rfl (by decide) (by unfold js_kS; omega) (js_ct_S hj) rfl rfl rfl (Nat.le_of_ble_eq_true rfl) dX2_takeHash_11 ?_
  rintro _ Gr11 ⟨rfl, hGr11⟩
  refine js_iret (pc := 14) F hr (jn_narB) ?_ dX2_takeHash_14
  exact ⟨rfl, hGr11⟩
theorem in_X2_fillList_2 : ∀ w ∈ wsX20, w ∈ wsX2_fillList := by decide +kernel
theorem lk_X2_fillList_fieldLink_RX2_22_JoinedSketches_Sketch_listLength_I : Cond.fieldLink RX2 22 "JoinedSketches$Sketch" "listLength" "I" ∈ wsX2_fillList := by decide +kernel
theorem lk_X2_fillList_fieldLink_RX2_25_JoinedSketches_Sketch_full_Z : Cond.fieldLink RX2 25 "JoinedSketches$Sketch" "full" "Z" ∈ wsX2_fillList := by decide +kernel
theorem mf_X2_fillList : js_M yX2_fillList cX2_fillList 1 none wsX2_fillList 0 := ⟨⟨_, rfl⟩, by decide +kernel, by decide +kernel, by decide +kernel, by decide +kernel⟩
set_option maxHeartbeats 4000000 in
set_option maxRecDepth 100000 in
theorem c_X2_fillList (la : Launch) {y : js_L} (hy : js_Dy y) {j : Nat} (hj : j < 55) {G : js_G} : js_Cv la y yX2_fillList wsX2_fillList 1 12 [.ref (js_ad y (js_kS j))] G (fun G' => js_st (js_st G (js_kS j) 4 (nI 1)) (js_kS j) 3 (nI 0) = G') := by
  refine js_ofv mf_X2_fillList (Nat.le_of_ble_eq_true rfl) hy (fun X F hr => ?_)
  replace F : js_F X y cX2_fillList 1 RX2 wsX2_fillList 1 12 := F
  show js_W X y 1 _ G 0 [(0, .ref (js_ad y (js_kS j)))] []
  refine js_aload_n (pc := 0) 0 F rfl dX2_fillList_0 ?_
  refine js_iconst (pc := 1) (v := nI (1)) F (by decide) dX2_fillList_1 ?_
  refine jp_S_full (pc := 2) (v := nI (1)) F in_X2_fillList_2 hj (lk_X2_fillList_fieldLink_RX2_25_JoinedSketches_Sketch_full_Z) rfl rfl dX2_fillList_2 ?_
  refine js_aload_n (pc := 5) 0 F rfl dX2_fillList_5 ?_
  refine js_iconst (pc := 6) (v := nI (0)) F (by decide) dX2_fillList_6 ?_
  refine jp_S_listLength (pc := 7) (v := nI (0)) F in_X2_fillList_2 hj (lk_X2_fillList_fieldLink_RX2_22_JoinedSketches_Sketch_listLength_I) dX2_fillList_7 ?_
  refine js_vret (pc := 10) F hr ?_ dX2_fillList_10
  exact rfl
theorem in_X2_list_2 : ∀ w ∈ wsX20, w ∈ wsX2_list := by decide +kernel
theorem lk_X2_list_fieldLink_RX2_25_JoinedSketches_Sketch_full_Z : Cond.fieldLink RX2 25 "JoinedSketches$Sketch" "full" "Z" ∈ wsX2_list := by decide +kernel
theorem mf_X2_list : js_M yX2_list cX2_list 2 none wsX2_list 1 := ⟨⟨_, rfl⟩, by decide +kernel, by decide +kernel, by decide +kernel, by decide +kernel⟩
set_option maxHeartbeats 4000000 in
set_option maxRecDepth 100000 in
theorem c_X2_list_full (la : Launch) {y : js_L} (hy : js_Dy y) {j : Nat} (hj : j < 55) {G : js_G} (hL : jr_L G j none) {t : Nat} (ht : t < 100000) : js_Cv la y yX2_list wsX2_list 2 34 [.ref (js_ad y (js_kS j)), .int (nI (t))] G (fun G' => jr_L G' j (jm_add1 none t) ∧ G' (js_kR j) = G (js_kR j) ∧ G' (js_kS j) 0 = G (js_kS j) 0 ∧ js_fr j G G') := by
  obtain ⟨hl3, hl4⟩ := id hL
  refine js_ofv mf_X2_list (Nat.le_of_ble_eq_true rfl) hy (fun X F hr => ?_)
  replace F : js_F X y cX2_list 2 RX2 wsX2_list 2 34 := F
  show js_W X y 2 _ G 0 [(0, .ref (js_ad y (js_kS j))), (1, .int (nI (t)))] []
  refine js_aload_n (pc := 0) 0 F rfl dX2_list_0 ?_
  refine jg_S_full (pc := 1) (v := nI (1)) F in_X2_list_2 hj (lk_X2_list_fieldLink_RX2_25_JoinedSketches_Sketch_full_Z) (hl4) dX2_list_1 ?_
  refine js_if_neN (pc := 4) (a := 1) (tgt := 15) F (by decide) dX2_list_4 (by decide) (fun h4 => ?_) (fun h4 => by exfalso; omega)
  refine js_vret (pc := 15) F hr ?_ dX2_list_15
  exact ⟨hL, rfl, rfl, js_fr.rf⟩
theorem lk_X2_list_fieldLink_RX2_19_JoinedSketches_Sketch_things_I : Cond.fieldLink RX2 19 "JoinedSketches$Sketch" "things" "[I" ∈ wsX2_list := by decide +kernel
theorem lk_X2_list_fieldLink_RX2_22_JoinedSketches_Sketch_listLength_I : Cond.fieldLink RX2 22 "JoinedSketches$Sketch" "listLength" "I" ∈ wsX2_list := by decide +kernel
set_option maxHeartbeats 4000000 in
set_option maxRecDepth 100000 in
theorem c_X2_list_some (la : Launch) {y : js_L} (hy : js_Dy y) {j : Nat} (hj : j < 55) {G : js_G} {l : List Nat} (hL : jr_L G j (some l)) {t : Nat} (ht : t < 100000) : js_Cv la y yX2_list wsX2_list 2 34 [.ref (js_ad y (js_kS j)), .int (nI (t))] G (fun G' => jr_L G' j (jm_add1 (some l) t) ∧ G' (js_kR j) = G (js_kR j) ∧ G' (js_kS j) 0 = G (js_kS j) 0 ∧ js_fr j G G') := by
  obtain ⟨hl3, hl4, hlen, hE, hT⟩ := id hL
  refine js_ofv mf_X2_list (Nat.le_of_ble_eq_true rfl) hy (fun X F hr => ?_)
  replace F : js_F X y cX2_list 2 RX2 wsX2_list 2 34 := F
  show js_W X y 2 _ G 0 [(0, .ref (js_ad y (js_kS j))), (1, .int (nI (t)))] []
  refine js_aload_n (pc := 0) 0 F rfl dX2_list_0 ?_
  refine jg_S_full (pc := 1) (v := nI (0)) F in_X2_list_2 hj (lk_X2_list_fieldLink_RX2_25_JoinedSketches_Sketch_full_Z) (hl4) dX2_list_1 ?_
  refine js_if_neN (pc := 4) (a := 0) (tgt := 15) F (by decide) dX2_list_4 (by decide) (fun h4 => by exact absurd rfl h4) (fun h4 => ?_)
  refine js_aload_n (pc := 7) 0 F rfl dX2_list_7 ?_
  refine js_iload_n (pc := 8) 1 F rfl dX2_list_8 ?_
  refine js_calli (pc := 9) F (c_X2_isListed _ hy hj (G := G) (l := l) hl3 hlen hE hT (t := t) (by omega)) mf_X2_isListed gX2_list_X2_isListed rfl (by decide) (by unfold js_kS; omega) (js_ct_S hj) rfl rfl rfl (Nat.le_of_ble_eq_true rfl) dX2_list_9 ?_
  rintro _ _ ⟨rfl, rfl⟩
  refine js_if_eqB (pc := 12) (tgt := 16) F dX2_list_12 (by decide) (fun h12 => ?_) (fun h12 => ?_)
  · skip
    refine js_aload_n (pc := 16) 0 F rfl dX2_list_16 ?_
    refine jg_S_listLength (pc := 17) (v := nI (l.length)) F in_X2_list_2 hj (lk_X2_list_fieldLink_RX2_22_JoinedSketches_Sketch_listLength_I) (hl3) dX2_list_17 ?_
    refine js_aload_n (pc := 20) 0 F rfl dX2_list_20 ?_
    refine jg_S_things (pc := 21) F in_X2_list_2 hj (lk_X2_list_fieldLink_RX2_19_JoinedSketches_Sketch_things_I) dX2_list_21 ?_
    refine js_alen (pc := 24) (t0 := 0) F (by unfold js_kT; omega) (js_ct_T hj) rfl dX2_list_24 ?_
    refine js_icmp_ltN (pc := 25) (a := l.length) (b := 40) (tgt := 33) F (by omega) (by decide) dX2_list_25 (by decide) (fun h25 => ?_) (fun h25 => ?_)
    · skip
      refine js_aload_n (pc := 33) 0 F rfl dX2_list_33 ?_
      refine jg_S_things (pc := 34) F in_X2_list_2 hj (lk_X2_list_fieldLink_RX2_19_JoinedSketches_Sketch_things_I) dX2_list_34 ?_
      refine js_aload_n (pc := 37) 0 F rfl dX2_list_37 ?_
      refine jg_S_listLength (pc := 38) (v := nI (l.length)) F in_X2_list_2 hj (lk_X2_list_fieldLink_RX2_22_JoinedSketches_Sketch_listLength_I) (hl3) dX2_list_38 ?_
      refine js_iload_n (pc := 41) 1 F rfl dX2_list_41 ?_
      refine js_iast (pc := 42) (j := l.length) F (by unfold js_kT; omega) (fun _ => js_ct_T hj) rfl (by omega) (by decide) dX2_list_42 ?_
      refine js_aload_n (pc := 43) 0 F rfl dX2_list_43 ?_
      refine js_dup (pc := 44) rfl F dX2_list_44 ?_
      refine jg_S_listLength (pc := 45) (v := nI (l.length)) F in_X2_list_2 hj (lk_X2_list_fieldLink_RX2_22_JoinedSketches_Sketch_listLength_I) (by rw [js_st_n (by simp only [js_kS, js_kR, js_kT, js_kA, js_kB]; omega)]; all_goals exact (hl3)) dX2_list_45 ?_
      refine js_iconst (pc := 48) (v := nI (1)) F (by decide) dX2_list_48 ?_
      refine js_iaddN (pc := 49) (a := l.length) (b := 1) F dX2_list_49 ?_
      refine jp_S_listLength (pc := 50) (v := nI (l.length + 1)) F in_X2_list_2 hj (lk_X2_list_fieldLink_RX2_22_JoinedSketches_Sketch_listLength_I) dX2_list_50 ?_
      refine js_vret (pc := 53) F hr ?_ dX2_list_53
      refine ⟨by rw [jm_add1_new h12 (by omega)]; exact jr_L_push hL (by omega) ht rfl, by rw [js_st_n (by unfold js_kS js_kR; omega), js_st_n (by unfold js_kT js_kR; omega)], by rw [js_st_s]; simp only [upd]; rw [if_neg (by decide), js_st_n (by unfold js_kS js_kT; omega)], js_fr.tr (js_fr.st (Or.inr (Or.inr rfl))) (js_fr.st (Or.inl rfl))⟩
    · skip
      refine js_aload_n (pc := 28) 0 F rfl dX2_list_28 ?_
      refine js_callv (pc := 29) F (c_X2_fillList _ hy hj (G := G)) mf_X2_fillList gX2_list_X2_fillList rfl (by decide) (by unfold js_kS; omega) (js_ct_S hj) rfl rfl rfl (Nat.le_of_ble_eq_true rfl) dX2_list_29 ?_
      rintro _ rfl
      refine js_vret (pc := 32) F hr ?_ dX2_list_32
      refine ⟨by rw [jm_add1_full h12 (by omega)]; exact ⟨by rw [js_st_s]; simp [upd], by rw [js_st_s]; simp [upd, js_st_s]⟩, by rw [js_st_n (by unfold js_kS js_kR; omega), js_st_n (by unfold js_kS js_kR; omega)], by rw [js_st_s]; simp [upd, js_st_s], js_fr.tr (js_fr.st (Or.inl rfl)) (js_fr.st (Or.inl rfl))⟩
  · skip
    refine js_vret (pc := 15) F hr ?_ dX2_list_15
    exact ⟨by rw [jm_add1_mem h12]; exact hL, rfl, rfl, js_fr.rf⟩
theorem c_X2_list (la : Launch) {y : js_L} (hy : js_Dy y) {j : Nat} (hj : j < 55) {G : js_G} {ls : Option (List Nat)} (hL : jr_L G j ls) {t : Nat} (ht : t < 100000) : js_Cv la y yX2_list wsX2_list 2 34 [.ref (js_ad y (js_kS j)), .int (nI t)] G (fun G' => jr_L G' j (jm_add1 ls t) ∧ G' (js_kR j) = G (js_kR j) ∧ G' (js_kS j) 0 = G (js_kS j) 0 ∧ js_fr j G G') := by
  cases ls with
  | none => exact c_X2_list_full la hy hj hL ht
  | some q => exact c_X2_list_some la hy hj hL ht
theorem in_X2_startAgain_2 : ∀ w ∈ wsX20, w ∈ wsX2_startAgain := by decide +kernel
theorem lk_X2_startAgain_fieldLink_RX2_15_JoinedSketches_Sketch_ranks_I : Cond.fieldLink RX2 15 "JoinedSketches$Sketch" "ranks" "[I" ∈ wsX2_startAgain := by decide +kernel
theorem lk_X2_startAgain_fieldLink_RX2_22_JoinedSketches_Sketch_listLength_I : Cond.fieldLink RX2 22 "JoinedSketches$Sketch" "listLength" "I" ∈ wsX2_startAgain := by decide +kernel
theorem lk_X2_startAgain_fieldLink_RX2_25_JoinedSketches_Sketch_full_Z : Cond.fieldLink RX2 25 "JoinedSketches$Sketch" "full" "Z" ∈ wsX2_startAgain := by decide +kernel
theorem lk_X2_startAgain_fieldLink_RX2_9_JoinedSketches_Sketch_bits_I : Cond.fieldLink RX2 9 "JoinedSketches$Sketch" "bits" "I" ∈ wsX2_startAgain := by decide +kernel
theorem mf_X2_startAgain : js_M yX2_startAgain cX2_startAgain 2 none wsX2_startAgain 1 := ⟨⟨_, rfl⟩, by decide +kernel, by decide +kernel, by decide +kernel, by decide +kernel⟩
set_option maxHeartbeats 4000000 in
set_option maxRecDepth 100000 in
theorem c_X2_startAgain (la : Launch) {y : js_L} (hy : js_Dy y) {j : Nat} (hj : j < 55) {G : js_G} {B : Nat} (hB2 : 2 ≤ B) (hB6 : B ≤ 6) : js_Cv la y yX2_startAgain wsX2_startAgain 2 35 [.ref (js_ad y (js_kS j)), .int (nI (B))] G (fun G' => jr_S G' j B (fun _ => 0) (some []) ∧ js_fr j G G') := by
  have hp : 2 ^ B ≤ 64 := jm_p6 hB6
  refine js_ofv mf_X2_startAgain (Nat.le_of_ble_eq_true rfl) hy (fun X F hr => ?_)
  replace F : js_F X y cX2_startAgain 2 RX2 wsX2_startAgain 2 35 := F
  show js_W X y 2 _ G 0 [(0, .ref (js_ad y (js_kS j))), (1, .int (nI (B)))] []
  refine js_aload_n (pc := 0) 0 F rfl dX2_startAgain_0 ?_
  refine js_iload_n (pc := 1) 1 F rfl dX2_startAgain_1 ?_
  refine jp_S_bits (pc := 2) (v := nI (B)) F in_X2_startAgain_2 hj (lk_X2_startAgain_fieldLink_RX2_9_JoinedSketches_Sketch_bits_I) dX2_startAgain_2 ?_
  refine js_aload_n (pc := 5) 0 F rfl dX2_startAgain_5 ?_
  refine jg_S_ranks (pc := 6) F in_X2_startAgain_2 hj (lk_X2_startAgain_fieldLink_RX2_15_JoinedSketches_Sketch_ranks_I) dX2_startAgain_6 ?_
  refine js_iconst (pc := 9) (v := nI (0)) F (by decide) dX2_startAgain_9 ?_
  refine js_callsv (pc := 10) F (c_fill _ hy (k0 := js_kR j) (n0 := 64) (x := nI (0)) (by unfold js_kR; omega) (fun _ => js_ct_R hj) (by decide)) mf_J7_fill_53178 gX2_startAgain_J7_fill_53178 (by decide) rfl rfl (Nat.le_of_ble_eq_true rfl) dX2_startAgain_10 ?_
  rintro _ rfl
  refine js_aload_n (pc := 13) 0 F rfl dX2_startAgain_13 ?_
  refine js_iconst (pc := 14) (v := nI (0)) F (by decide) dX2_startAgain_14 ?_
  refine jp_S_listLength (pc := 15) (v := nI (0)) F in_X2_startAgain_2 hj (lk_X2_startAgain_fieldLink_RX2_22_JoinedSketches_Sketch_listLength_I) dX2_startAgain_15 ?_
  refine js_aload_n (pc := 18) 0 F rfl dX2_startAgain_18 ?_
  refine js_iconst (pc := 19) (v := nI (0)) F (by decide) dX2_startAgain_19 ?_
  refine jp_S_full (pc := 20) (v := nI (0)) F in_X2_startAgain_2 hj (lk_X2_startAgain_fieldLink_RX2_25_JoinedSketches_Sketch_full_Z) rfl rfl dX2_startAgain_20 ?_
  refine js_vret (pc := 23) F hr ?_ dX2_startAgain_23
  have n1 : js_kS j ≠ js_kR j := by unfold js_kS js_kR; omega
  have n2 : js_kR j ≠ js_kS j := by unfold js_kS js_kR; omega
  refine ⟨⟨hB2, hB6, ?_, fun b hb => ?_, fun b hb => Nat.zero_le _, ?_, ?_, by decide, fun t ht => (by cases ht), fun k hk => (by cases hk)⟩, ?_⟩
  · rw [js_st_s]; simp [upd, js_st_s, js_up_n n1]
  · rw [js_st_n n2, js_st_n n2, js_up_s]; exact if_pos (by omega)
  · rw [js_st_s]; simp [upd, js_st_s]
  · rw [js_st_s]; simp [upd]
  · exact js_fr.tr (js_fr.tr (js_fr.tr (js_fr.st (Or.inl rfl)) (js_fr.up (Or.inr (Or.inl rfl)))) (js_fr.st (Or.inl rfl))) (js_fr.st (Or.inl rfl))
theorem in_X2_copyFrom_2 : ∀ w ∈ wsX20, w ∈ wsX2_copyFrom := by decide +kernel
theorem lk_X2_copyFrom_fieldLink_RX2_15_JoinedSketches_Sketch_ranks_I : Cond.fieldLink RX2 15 "JoinedSketches$Sketch" "ranks" "[I" ∈ wsX2_copyFrom := by decide +kernel
theorem lk_X2_copyFrom_fieldLink_RX2_19_JoinedSketches_Sketch_things_I : Cond.fieldLink RX2 19 "JoinedSketches$Sketch" "things" "[I" ∈ wsX2_copyFrom := by decide +kernel
theorem lk_X2_copyFrom_fieldLink_RX2_22_JoinedSketches_Sketch_listLength_I : Cond.fieldLink RX2 22 "JoinedSketches$Sketch" "listLength" "I" ∈ wsX2_copyFrom := by decide +kernel
theorem lk_X2_copyFrom_fieldLink_RX2_25_JoinedSketches_Sketch_full_Z : Cond.fieldLink RX2 25 "JoinedSketches$Sketch" "full" "Z" ∈ wsX2_copyFrom := by decide +kernel
theorem lk_X2_copyFrom_fieldLink_RX2_9_JoinedSketches_Sketch_bits_I : Cond.fieldLink RX2 9 "JoinedSketches$Sketch" "bits" "I" ∈ wsX2_copyFrom := by decide +kernel
theorem lk_X2_copyFrom_initialized_java_lang_System : Cond.initialized "java/lang/System" ∈ wsX2_copyFrom := by decide +kernel
theorem lk_X2_copyFrom_methodLink_RX2_84_arraycopyName : Cond.methodLink RX2 84 arraycopyName ∈ wsX2_copyFrom := by decide +kernel
theorem lk_X2_copyFrom_native_arraycopyName : Cond.native arraycopyName ∈ wsX2_copyFrom := by decide +kernel
theorem lk_X2_copyFrom_static_arraycopyName : Cond.static arraycopyName ∈ wsX2_copyFrom := by decide +kernel
theorem mf_X2_copyFrom : js_M yX2_copyFrom cX2_copyFrom 2 none wsX2_copyFrom 1 := ⟨⟨_, rfl⟩, by decide +kernel, by decide +kernel, by decide +kernel, by decide +kernel⟩
set_option maxHeartbeats 4000000 in
set_option maxRecDepth 100000 in
theorem c_X2_copyFrom (la : Launch) {y : js_L} (hy : js_Dy y) {j : Nat} (hj : j < 55) {j2 : Nat} (hj2 : j2 < 55) (hne : j2 ≠ j) {G : js_G} {B : Nat} {rk : Nat → Nat} {ls : Option (List Nat)} (hS : jr_S G j2 B rk ls) : js_Cv la y yX2_copyFrom wsX2_copyFrom 2 58 [.ref (js_ad y (js_kS j)), .ref (js_ad y (js_kS j2))] G (fun G' => jr_S G' j B rk ls ∧ js_fr j G G') := by
  obtain ⟨hB2, hB6, hB, hR, hK, hL⟩ := id hS
  have hp : 2 ^ B ≤ 64 := jm_p6 hB6
  obtain ⟨f4, hf4, hl4⟩ : ∃ f, f < 2 ∧ G (js_kS j2) 4 = nI f := by
    cases ls with
    | none => exact ⟨1, by decide, hL.2⟩
    | some l => exact ⟨0, by decide, hL.2.1⟩
  refine js_ofv mf_X2_copyFrom (Nat.le_of_ble_eq_true rfl) hy (fun X F hr => ?_)
  replace F : js_F X y cX2_copyFrom 2 RX2 wsX2_copyFrom 2 58 := F
  show js_W X y 2 _ G 0 [(0, .ref (js_ad y (js_kS j))), (1, .ref (js_ad y (js_kS j2)))] []
  refine js_aload_n (pc := 0) 0 F rfl dX2_copyFrom_0 ?_
  refine js_aload_n (pc := 1) 1 F rfl dX2_copyFrom_1 ?_
  refine jg_S_bits (pc := 2) (v := nI (B)) F in_X2_copyFrom_2 hj2 (lk_X2_copyFrom_fieldLink_RX2_9_JoinedSketches_Sketch_bits_I) (hB) dX2_copyFrom_2 ?_
  refine jp_S_bits (pc := 5) (v := nI (B)) F in_X2_copyFrom_2 hj (lk_X2_copyFrom_fieldLink_RX2_9_JoinedSketches_Sketch_bits_I) dX2_copyFrom_5 ?_
  refine js_aload_n (pc := 8) 1 F rfl dX2_copyFrom_8 ?_
  refine jg_S_ranks (pc := 9) F in_X2_copyFrom_2 hj2 (lk_X2_copyFrom_fieldLink_RX2_15_JoinedSketches_Sketch_ranks_I) dX2_copyFrom_9 ?_
  refine js_iconst (pc := 12) (v := nI (0)) F (by decide) dX2_copyFrom_12 ?_
  refine js_aload_n (pc := 13) 0 F rfl dX2_copyFrom_13 ?_
  refine jg_S_ranks (pc := 14) F in_X2_copyFrom_2 hj (lk_X2_copyFrom_fieldLink_RX2_15_JoinedSketches_Sketch_ranks_I) dX2_copyFrom_14 ?_
  refine js_iconst (pc := 17) (v := nI (0)) F (by decide) dX2_copyFrom_17 ?_
  refine js_aload_n (pc := 18) 0 F rfl dX2_copyFrom_18 ?_
  refine jg_S_ranks (pc := 19) F in_X2_copyFrom_2 hj (lk_X2_copyFrom_fieldLink_RX2_15_JoinedSketches_Sketch_ranks_I) dX2_copyFrom_19 ?_
  refine js_alen (pc := 22) (t0 := 0) F (by unfold js_kR; omega) (js_ct_R hj) rfl dX2_copyFrom_22 ?_
  refine js_copy (pc := 23) F lk_X2_copyFrom_methodLink_RX2_84_arraycopyName lk_X2_copyFrom_native_arraycopyName lk_X2_copyFrom_static_arraycopyName lk_X2_copyFrom_initialized_java_lang_System (by unfold js_kR; omega) (by unfold js_kR; omega) (fun _ => js_ct_R hj2) (fun _ => js_ct_R hj) (by decide) (by decide) (by decide) (by decide) (Nat.le_of_ble_eq_true (by decide +kernel)) dX2_copyFrom_23 ?_
  refine js_aload_n (pc := 26) 1 F rfl dX2_copyFrom_26 ?_
  refine jg_S_things (pc := 27) F in_X2_copyFrom_2 hj2 (lk_X2_copyFrom_fieldLink_RX2_19_JoinedSketches_Sketch_things_I) dX2_copyFrom_27 ?_
  refine js_iconst (pc := 30) (v := nI (0)) F (by decide) dX2_copyFrom_30 ?_
  refine js_aload_n (pc := 31) 0 F rfl dX2_copyFrom_31 ?_
  refine jg_S_things (pc := 32) F in_X2_copyFrom_2 hj (lk_X2_copyFrom_fieldLink_RX2_19_JoinedSketches_Sketch_things_I) dX2_copyFrom_32 ?_
  refine js_iconst (pc := 35) (v := nI (0)) F (by decide) dX2_copyFrom_35 ?_
  refine js_aload_n (pc := 36) 0 F rfl dX2_copyFrom_36 ?_
  refine jg_S_things (pc := 37) F in_X2_copyFrom_2 hj (lk_X2_copyFrom_fieldLink_RX2_19_JoinedSketches_Sketch_things_I) dX2_copyFrom_37 ?_
  refine js_alen (pc := 40) (t0 := 0) F (by unfold js_kT; omega) (js_ct_T hj) rfl dX2_copyFrom_40 ?_
  refine js_copy (pc := 41) F lk_X2_copyFrom_methodLink_RX2_84_arraycopyName lk_X2_copyFrom_native_arraycopyName lk_X2_copyFrom_static_arraycopyName lk_X2_copyFrom_initialized_java_lang_System (by unfold js_kT; omega) (by unfold js_kT; omega) (fun _ => js_ct_T hj2) (fun _ => js_ct_T hj) (by decide) (by decide) (by decide) (by decide) (Nat.le_of_ble_eq_true (by decide +kernel)) dX2_copyFrom_41 ?_
  refine js_aload_n (pc := 44) 0 F rfl dX2_copyFrom_44 ?_
  refine js_aload_n (pc := 45) 1 F rfl dX2_copyFrom_45 ?_
  refine jg_S_listLength (pc := 46) (v := G (js_kS j2) (3)) F in_X2_copyFrom_2 hj2 (lk_X2_copyFrom_fieldLink_RX2_22_JoinedSketches_Sketch_listLength_I) (by rw [js_up_n (by simp only [js_kS, js_kR, js_kT, js_kA, js_kB]; omega)]; all_goals exact (by rw [js_up_n (by simp only [js_kS, js_kR, js_kT, js_kA, js_kB]; omega)]; all_goals exact (by rw [js_st_n (by simp only [js_kS, js_kR, js_kT, js_kA, js_kB]; omega)]; all_goals exact (rfl)))) dX2_copyFrom_46 ?_
  refine jp_S_listLength (pc := 49) (v := G (js_kS j2) (3)) F in_X2_copyFrom_2 hj (lk_X2_copyFrom_fieldLink_RX2_22_JoinedSketches_Sketch_listLength_I) dX2_copyFrom_49 ?_
  refine js_aload_n (pc := 52) 0 F rfl dX2_copyFrom_52 ?_
  refine js_aload_n (pc := 53) 1 F rfl dX2_copyFrom_53 ?_
  refine jg_S_full (pc := 54) (v := nI (f4)) F in_X2_copyFrom_2 hj2 (lk_X2_copyFrom_fieldLink_RX2_25_JoinedSketches_Sketch_full_Z) (by rw [js_st_n (by simp only [js_kS, js_kR, js_kT, js_kA, js_kB]; omega)]; all_goals exact (by rw [js_up_n (by simp only [js_kS, js_kR, js_kT, js_kA, js_kB]; omega)]; all_goals exact (by rw [js_up_n (by simp only [js_kS, js_kR, js_kT, js_kA, js_kB]; omega)]; all_goals exact (by rw [js_st_n (by simp only [js_kS, js_kR, js_kT, js_kA, js_kB]; omega)]; all_goals exact (hl4))))) dX2_copyFrom_54 ?_
  refine jp_S_full (pc := 57) (v := nI (f4)) F in_X2_copyFrom_2 hj (lk_X2_copyFrom_fieldLink_RX2_25_JoinedSketches_Sketch_full_Z) (jn_nar2 hf4) (jn_fit2 hf4) dX2_copyFrom_57 ?_
  refine js_vret (pc := 60) F hr ?_ dX2_copyFrom_60
  have n1 : js_kS j ≠ js_kR j := by unfold js_kS js_kR; omega
  have n2 : js_kR j ≠ js_kS j := by unfold js_kS js_kR; omega
  have n3 : js_kS j ≠ js_kT j := by unfold js_kS js_kT; omega
  have n4 : js_kT j ≠ js_kS j := by unfold js_kS js_kT; omega
  have n5 : js_kR j ≠ js_kT j := by unfold js_kR js_kT; omega
  have m1 : js_kS j2 ≠ js_kS j := by unfold js_kS; omega
  have m2 : js_kS j2 ≠ js_kR j := by unfold js_kS js_kR; omega
  have m3 : js_kS j2 ≠ js_kT j := by unfold js_kS js_kT; omega
  have m4 : js_kR j2 ≠ js_kS j := by unfold js_kS js_kR; omega
  have m5 : js_kT j2 ≠ js_kS j := by unfold js_kS js_kT; omega
  have m6 : js_kT j2 ≠ js_kR j := by unfold js_kT js_kR; omega
  refine ⟨⟨hB2, hB6, ?_, fun b hb => ?_, hK, ?_⟩, ?_⟩
  · rw [js_st_s]; simp [upd, js_st_s, js_up_n n1, js_up_n n3]
  · rw [js_st_n n2, js_st_n n2, js_up_n n5, js_up_s]
    show (if b < 64 then _ else _) = _
    rw [if_pos (by omega), js_st_n m4]; exact hR b hb
  · cases ls with
    | none =>
      refine ⟨?_, ?_⟩
      · rw [js_st_s]; simp [upd, js_st_s, js_up_n m3, js_up_n m2, js_st_n m1]; exact hL.1
      · rw [js_st_s]; simp [upd]; exact hl4.symm.trans hL.2
    | some l =>
      refine ⟨?_, ?_, hL.2.2.1, hL.2.2.2.1, fun k hk => ?_⟩
      · rw [js_st_s]; simp [upd, js_st_s, js_up_n m3, js_up_n m2, js_st_n m1]; exact hL.1
      · rw [js_st_s]; simp [upd]; exact hl4.symm.trans hL.2.1
      · have hk4 := hL.2.2.1
        rw [js_st_n n4, js_st_n n4, js_up_s]
        show (if k < 40 then _ else _) = _
        rw [if_pos (by omega), js_up_n m6, js_st_n m5]; exact hL.2.2.2.2 k hk
  · exact js_fr.tr (js_fr.tr (js_fr.tr (js_fr.tr (js_fr.st (Or.inl rfl)) (js_fr.up (Or.inr (Or.inl rfl)))) (js_fr.up (Or.inr (Or.inr rfl)))) (js_fr.st (Or.inl rfl))) (js_fr.st (Or.inl rfl))
