/-! the law's start: what the tables say of classes and arrays; the two objects are made -/
theorem lw_arr {U : State} {A : Array Value} {ty : FieldType} (h : (Cond.arrayClass ty).before A U = true) : ∃ cA, ArrOfT U cA ty ∧ U.vm.findClass ("[" ++ ty.toString) = some cA := by
  obtain ⟨c, k, comp, h1, h2, h3⟩ := Cond.arrayClass_spec h
  exact ⟨c, fun n z => ⟨fun k2 => (by simp [arrV]), k, h2, comp, h3⟩, h1⟩
theorem lw_arq {U : State} {A : Array Value} {C : String} (h : (Cond.arrayOver (.object C)).before A U = true) : ∃ cA, ArrOfT U cA (.object C) ∧ va_RA U cA (.object C) := by
  obtain ⟨comp, c, k, h1, -, h2, h3, h4⟩ := Cond.arrayOver_spec h
  exact ⟨c, fun n z => ⟨fun k2 => (by simp [arrV]), k, h2, comp, h3⟩, ⟨k, comp, h2, h3, h1, h4⟩⟩
theorem lw_nw : ∀ q ∈ js_nwl, Cond.fieldLinkNest q.1 q.2.1 q.2.2.1 q.2.2.2.1 q.2.2.2.2 "JoinedSketches" ∈ lw_tbl := by decide +kernel
theorem lw_k1 : Cond.methodLinkNest RX3 21 yX2_init "JoinedSketches" ∈ lw_tbl := by decide +kernel
theorem lw_k2 : Cond.methodLinkNest RX4 33 yX1_init "JoinedSketches" ∈ lw_tbl := by decide +kernel
theorem lw_k3 : Cond.methodLinkNest RX4 40 yX2_init "JoinedSketches" ∈ lw_tbl := by decide +kernel
theorem lw_o1 : Cond.arrayOver (.object "JoinedSketches$Sketch") ∈ lw_tbl := by decide +kernel
theorem lw_o2 : Cond.arrayOver (.object "JoinedSketches$State") ∈ lw_tbl := by decide +kernel
theorem lw_a1 : Cond.arrayClass .int ∈ lw_tbl := by decide +kernel
theorem lw_a2 : Cond.arrayClass .char ∈ lw_tbl := by decide +kernel
theorem lw_a3 : Cond.arrayClass .boolean ∈ lw_tbl := by decide +kernel
theorem lw_i0 : Cond.instantiable RX0 3 ∈ lw_tbl := by decide +kernel
theorem lw_i1 : Cond.instantiable RX1 7 ∈ lw_tbl := by decide +kernel
theorem lw_i2 : Cond.instantiable RX2 5 ∈ lw_tbl := by decide +kernel
theorem lw_i3 : Cond.instantiable RX3 2 ∈ lw_tbl := by decide +kernel
theorem lw_i4 : Cond.instantiable RX4 6 ∈ lw_tbl := by decide +kernel
theorem lw_i5 : Cond.instantiable RX5 13 ∈ lw_tbl := by decide +kernel
/-- what is known of the classes at the start -/
theorem lw_know {s : State} {A : Array Value} (hts : ∀ w ∈ lw_tbl, w.before A s = true) : ∃ (D : va_G) (ids : ClassId × ClassId × ClassId × ClassId × ClassId), ∀ (f : Nat → Nat), va_K D vwCl (js_tys (s.heap.size, f, D, ids)) s ∧ js_NW s ∧ js_NK s := by
  obtain ⟨c0, i0, k0⟩ := u_known (C := RX0) (T := TX0) (N := 3) (n := 3) hts lw_wsX00 (hts _ lw_i0)
  obtain ⟨c1, i1, k1⟩ := u_known (C := RX1) (T := TX1) (N := 7) (n := 7) hts lw_wsX10 (hts _ lw_i1)
  obtain ⟨c2, i2, k2⟩ := u_known (C := RX2) (T := TX2) (N := 5) (n := 5) hts lw_wsX20 (hts _ lw_i2)
  obtain ⟨c3, i3, k3⟩ := u_known (C := RX3) (T := TX3) (N := 2) (n := 2) hts lw_wsX30 (hts _ lw_i3)
  obtain ⟨c4, i4, k4⟩ := u_known (C := RX4) (T := TX4) (N := 6) (n := 6) hts lw_wsX40 (hts _ lw_i4)
  obtain ⟨c5, i5, k5⟩ := u_known (C := RX5) (T := TX5) (N := 13) (n := 13) hts lw_wsX50 (hts _ lw_i5)
  obtain ⟨a1, h1, h2⟩ := lw_arr (hts _ lw_a1)
  obtain ⟨a2, h3, h4⟩ := lw_arr (hts _ lw_a2)
  obtain ⟨a3, h5, h6⟩ := lw_arr (hts _ lw_a3)
  obtain ⟨a4, h7, h8⟩ := lw_arq (hts _ lw_o1)
  obtain ⟨a5, h9, h10⟩ := lw_arq (hts _ lw_o2)
  refine ⟨(fun k => match k with | 0 => c0 | 1 => c1 | 2 => c2 | 3 => c3 | 4 => c4 | _ => c5, fun k => match k with | 0 => i0 | 1 => i1 | 2 => i2 | 3 => i3 | 4 => i4 | _ => i5), (a1, a2, a3, a4, a5), fun f => ⟨⟨fun c q hq => ?_, fun k q hk => ?_⟩, fun q hq => va_Nw.of rfl (hts _ (lw_nw q hq)), ⟨va_Nw.of rfl (hts _ lw_k1), va_Nw.of rfl (hts _ lw_k2), va_Nw.of rfl (hts _ lw_k3)⟩, va_AO.of (hts _ lw_o1), va_AO.of (hts _ lw_o2)⟩⟩
  · rcases c with _ | _ | _ | _ | _ | _ | c
    · cases hq; exact k0
    · cases hq; exact k1
    · cases hq; exact k2
    · cases hq; exact k3
    · cases hq; exact k4
    · cases hq; exact k5
    · simp [vwCl] at hq
  · rcases k with _ | _ | _ | _ | _ | k
    · cases hk; exact ⟨h1, h2⟩
    · cases hk; exact ⟨h3, h4⟩
    · cases hk; exact ⟨h5, h6⟩
    · cases hk; exact ⟨h7, h8⟩
    · cases hk; exact ⟨h9, h10⟩
    · simp [js_tys] at hk
theorem k_initS {X : js_X} {y : js_L} {cc : ByteArray} {nL fr lo : Nat} {own : String} {Ts : List Cond} {Q : State → Prop} {mc ms : Nat} {a : Nat → Nat} {mcx msx : Nat} {pc : Nat} {lv : List (Nat × Value)} {st : List Value} {q0 idx : Nat} (F : kF X y cc nL own Ts fr lo mcx msx) (hNW : js_NW (js_Xs X)) (hq : q0 = a 191) (hG : GoodIn Ts wsX5_init) (hini : Cond.initialized RX5 ∈ Ts) (hin : Cond.instanceMethod yX5_init ∈ Ts) (hR : 2 + 1 ≤ fr ∧ 8 + (2 + 11) + 35 ≤ lo) (hroom : (st.map fun v => v.category).sum ≤ 8) (h1 : mc + 7 ≤ mcx) (h2 : ms + 5959 ≤ msx) (hlk : Cond.methodLink own idx yX5_init ∈ Ts) (hd : decode cc pc = .ok (.invokespecial idx, 3))
    (kk : ∀ (a2 : Nat → Nat) (G : js_G), kZ y a (a2, G) → js_W (js_Xw X (mc + 7) (ms + 5959)) (y5 y a2) nL Q G (pc + 3) lv st) : kW X y nL Q mc ms 192 a (mQ y a 0) pc lv (.ref q0 :: st) := by
  subst hq
  intro H locs ls hP hD hS hl
  exact va_callv (va_runI (As := []) (rest := st) F.1 (c_X5_init _ (y := y) (a := a)) (cwI 0 F.1.2.2.2.2 hG (y := yX5_init) (bytes := cX5_init) (maxL := 2) rfl rfl rfl (F.1.2.2.2.2 _ hini) (F.1.2.2.2.2 _ hlk) (F.1.2.2.2.2 _ hin) rfl (by decide +kernel) ⟨Nat.le_trans hR.1 F.2.2.2.2.1.1, Nat.le_trans hR.2 F.2.2.2.2.1.2⟩) ⟨fun a0 U g mk q => ⟨q.1, ⟨q.2.1.1, q.2.1.2.1, va_K.moved (u := U) (U := U.calling g mk a0) (Vm.Alike.refl U.vm) q.2.1.2.2.1, js_NK.same (s := U) (U := U.calling g mk a0) rfl q.2.1.2.2.2⟩, js_NW.same (s := U) (U := U.calling g mk a0) rfl q.2.2⟩, fun U hU hW => ⟨rfl, ⟨by rw [hU]; exact hP, hD, va_K.moved hW.alike F.2.2.1, js_NK.warm hW F.2.2.2.1⟩, js_NW.warm hW hNW⟩⟩ rfl rfl hl.1 rfl (lv_room hroom) hd ⟨Nat.le_trans h1 F.2.2.2.2.2.1.1, Nat.le_trans h2 F.2.2.2.2.2.1.2⟩) hS (fun _ _ h => h) (fun _ h => h) (fun u t H1 locs1 ht hvm hw hB hz hk1 hS1 => kk u.1 u.2 hw H1 locs1 ls (by rw [← ht]; exact hB) hS1 hl)
theorem lk_L_cl4 : Cond.classLink RL 7 RX4 ∈ wsL_law := by unfold wsL_law; decide +kernel
theorem lk_L_cl5 : Cond.classLink RL 10 RX5 ∈ wsL_law := by unfold wsL_law; decide +kernel
theorem lk_L_in4 : Cond.instantiable RX4 6 ∈ wsL_law := by unfold wsL_law; decide +kernel
theorem lk_L_in5 : Cond.instantiable RX5 13 ∈ wsL_law := by unfold wsL_law; decide +kernel
theorem lk_L_it4 : Cond.initialized RX4 ∈ wsL_law := by unfold wsL_law; decide +kernel
theorem lk_L_it5 : Cond.initialized RX5 ∈ wsL_law := by unfold wsL_law; decide +kernel
theorem lk_L_ml4 : Cond.methodLink RL 9 yX4_init ∈ wsL_law := by unfold wsL_law; decide +kernel
theorem lk_L_ml5 : Cond.methodLink RL 12 yX5_init ∈ wsL_law := by unfold wsL_law; decide +kernel
theorem lk_L_im4 : Cond.instanceMethod yX4_init ∈ wsL_law := by unfold wsL_law; decide +kernel
theorem lk_L_im5 : Cond.instanceMethod yX5_init ∈ wsL_law := by unfold wsL_law; decide +kernel
theorem in_L_4 : ∀ w ∈ wsX40, w ∈ wsL_law := by unfold wsL_law; decide +kernel
theorem in_L_5 : ∀ w ∈ wsX50, w ∈ wsL_law := by unfold wsL_law; decide +kernel
set_option maxHeartbeats 4000000 in
theorem lw_begin {X : js_X} {y : js_L} {b L : Nat} {xs : Nat → Int32} {Q : State → Prop} {a : Nat → Nat} {E : Nat → va_E} (F : kF X y cL_law 4 RL wsL_law 10 356 600000 7302249) (hNW : js_NW (js_Xs X)) (S : lw_S X y b L xs) (hfin : ∀ (y2 : js_L) (G : js_G) (i : Nat), y2.1 = y.1 → js_W (js_Xw X 199 12225) y2 4 Q G 861 (lwv y2 b i) [.int 1]) : kW X y 4 Q 0 0 0 a E 0 [(0, .ref b)] [] := by
  refine k_new (pc := 0) (C := RX4) (T := TX4) (N := 6) (ci := 4) (fs := [.null, .null, .null, .null, .null, .null]) F in_L_4 tyX4 tyX4_ok lk_L_cl4 lk_L_in4 lk_L_it4 rfl (k_def4) (by omega) (by omega) dL_law_0 (fun q0 => ?_)
  refine k_dup (pc := 3) rfl F dL_law_3 ?_
  refine k_init (pc := 4) (b := 0) F (au_s.symm) (c_X4_init _ (y := y) eu_s) ⟨_, rfl⟩ gL_law_X4_init lk_L_it4 lk_L_im4 rfl (by decide) ⟨by decide, by decide⟩ (Nat.le_of_ble_eq_true rfl) (by omega) (by omega) lk_L_ml4 dL_law_4 (fun a1 ha1 => ?_)
  have e0 : a1 0 = q0 := (ha1 0 (by decide)).trans au_s
  refine k_astore_n (pc := 7) (lv2 := [(0, .ref b), (1, .ref q0)]) F dL_law_7 (by decide) [1, 0] rfl ?_
  refine k_new (pc := 8) (C := RX5) (T := TX5) (N := 13) (ci := 5) (fs := [.null, .null, .int (nI 0), .null, .null, .null, .int (nI 0), .null, .int (nI 0), .int (nI 0), .int (nI 0), .null, .int (nI 0)]) F in_L_5 tyX5 tyX5_ok lk_L_cl5 lk_L_in5 lk_L_it5 rfl (k_def5) (by omega) (by omega) dL_law_8 (fun q8 => ?_)
  refine k_dup (pc := 11) rfl F dL_law_11 ?_
  refine k_eq (E2 := mQ y (au a1 191 q8) 0) rfl rfl (fun i hi => ?_) ?_
  · by_cases z : i = 191
    · subst z; rw [eu_s]; rfl
    · rw [eu_n z]
      unfold mQ
      rw [if_pos (show i < 191 by omega)]
      exact xP_c (m := 191) (fun j hj => (au_n (by omega)).symm) (by omega) (by omega) (by omega) (by omega) (by omega)
  refine k_initS (pc := 12) F hNW (au_s.symm) gL_law_X5_init lk_L_it5 lk_L_im5 ⟨by decide, by decide⟩ (Nat.le_of_ble_eq_true rfl) (by omega) (by omega) lk_L_ml5 dL_law_12 (fun a2 G hZ => ?_)
  obtain ⟨ha2, hy, hJ, hM⟩ := hZ
  have e1 : js_ad (y5 y a2) 190 = q0 := (ha2 0 (by decide)).trans ((au_n (by decide)).trans e0)
  have e2 : js_ad (y5 y a2) 191 = q8 := (ha2 191 (by decide)).trans au_s
  have F2 : js_F (js_Xw X 199 12225) (y5 y a2) cL_law 4 RL wsL_law 10 356 := ⟨F.1, F.2.1, F.2.2.1, hy, hNW, F.2.2.2.2.1, ⟨Nat.le_trans (show 199 ≤ 600000 by decide) F.2.2.2.2.2.1.1, Nat.le_trans (show 12225 ≤ 7302249 by decide) F.2.2.2.2.2.1.2⟩⟩
  have S2 : lw_S (js_Xw X 199 12225) (y5 y a2) b L xs := S
  show js_W (js_Xw X 199 12225) (y5 y a2) 4 Q G 15 [(0, .ref b), (1, .ref q0)] [.ref q8]
  rw [← e1, ← e2]
  refine js_astore_n (pc := 15) (lv2 := [(0, .ref b), (1, .ref (js_ad (y5 y a2) (190))), (2, .ref (js_ad (y5 y a2) (191)))]) F2 dL_law_15 (by decide) [1, 2, 0] rfl ?_
  refine js_iconst (pc := 16) (v := nI 0) F2 (by decide) dL_law_16 ?_
  refine js_istore_n (pc := 17) (lv2 := lwv (y5 y a2) b 0) F2 dL_law_17 (by decide) [1, 2, 3, 0] rfl ?_
  exact lw_loop F2 S2 (fun G i => hfin (y5 y a2) G i rfl) 2053 0 G jc0 (by decide) hJ hM (by decide)
