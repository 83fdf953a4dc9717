/-! the law's walk over its script -/
abbrev lw_S (X : js_X) (y : js_L) (b L : Nat) (xs : Nat → Int32) : Prop := va_X b L xs (js_Xs X) (js_Xs X).heap ∧ b < (js_Xs X).heap.size ∧ y.1 = (js_Xs X).heap.size ∧ L ≤ 2048
abbrev lwv (y : js_L) (b i : Nat) : List (Nat × Value) := [(0, .ref b), (1, .ref (js_ad y (190))), (2, .ref (js_ad y (191))), (3, .int (nI i))]
theorem lw_S.A {X : js_X} {y : js_L} {b L : Nat} {xs : Nat → Int32} (S : lw_S X y b L xs) : ¬ js_A y b := fun h => by
  have h1 : y.1 ≤ b := h
  have h2 := S.2.1
  have h3 := S.2.2.1
  omega
theorem js_sld {X : js_X} {y : js_L} {cc : ByteArray} {nL fr lo : Nat} {own : String} {Ts : List Cond} {Q : State → Prop} {G : js_G} {pc : Nat} {lv : List (Nat × Value)} {st : List Value} {b L j : Nat} {xs : Nat → Int32} (F : js_F X y cc nL own Ts fr lo) (S : lw_S X y b L xs) (hj : j < L) (hd : decode cc pc = .ok (.iaload, 1))
    (k : js_W X y nL Q G (pc + 1) lv (.int (xs j) :: st)) : js_W X y nL Q G pc lv (.int (nI j) :: .ref b :: st) := fun H locs ls hP hS hl => by
  have h4 := S.2.2.2
  refine va_sld F.1.1 F.1.2.1 S.1 S.2.1 S.A hS (vp_in_nI hj (by omega)) hd ?_
  rw [nI_clamp (by omega)]
  exact k H locs ls hP hS hl
theorem js_slen {X : js_X} {y : js_L} {cc : ByteArray} {nL fr lo : Nat} {own : String} {Ts : List Cond} {Q : State → Prop} {G : js_G} {pc : Nat} {lv : List (Nat × Value)} {st : List Value} {b L : Nat} {xs : Nat → Int32} (F : js_F X y cc nL own Ts fr lo) (S : lw_S X y b L xs) (hd : decode cc pc = .ok (.arraylength, 1))
    (k : js_W X y nL Q G (pc + 1) lv (.int (nI L) :: st)) : js_W X y nL Q G pc lv (.ref b :: st) := fun H locs ls hP hS hl => va_slen F.1.1 F.1.2.1 S.1 S.2.1 S.A hS hd (k H locs ls hP hS hl)
theorem js_arg {X : js_X} {y : js_L} {cc : ByteArray} {fr lo : Nat} {own : String} {Ts : List Cond} {Q : State → Prop} {G : js_G} {pc : Nat} {st : List Value} {b L i k : Nat} {n : Int} {xs : Nat → Int32} (F : js_F X y cc 4 own Ts fr lo) (S : lw_S X y b L xs) (hn : Int32.ofInt n = nI k) (hk : i + k < L) (d0 : decode cc pc = .ok (.aload_n 0, 1)) (d1 : decode cc (pc + 1) = .ok (.iload_n 3, 1)) (d2 : decode cc (pc + 1 + 1) = .ok (.iconst n, 1)) (d3 : decode cc (pc + 1 + 1 + 1) = .ok (.iadd, 1)) (d4 : decode cc (pc + 1 + 1 + 1 + 1) = .ok (.iaload, 1))
    (kk : js_W X y 4 Q G (pc + 1 + 1 + 1 + 1 + 1) (lwv y b i) (.int (xs (i + k)) :: st)) : js_W X y 4 Q G pc (lwv y b i) st := by
  refine js_aload_n 0 F rfl d0 ?_
  refine js_iload_n 3 F rfl d1 ?_
  refine js_iconst F hn d2 ?_
  refine js_iaddN F d3 ?_
  exact js_sld F S hk d4 kk
theorem lw_lim {i L : Nat} (hL : L ≤ 2048) (hi : i < 2 ^ 31) (h : ¬ nI L - nI 4 < nI i) : i + 4 ≤ L := by
  rcases Nat.lt_or_ge L 4 with q | q
  · exfalso
    apply h
    rcases (show L = 0 ∨ L = 1 ∨ L = 2 ∨ L = 3 by omega) with rfl | rfl | rfl | rfl
    all_goals
      rw [Int32.lt_iff_toInt_lt, nI_toInt hi]
      exact Int.lt_of_lt_of_le (by decide) (Int.natCast_nonneg i)
  · have e : nI L - nI 4 = nI (L - 4) := by
      have h1 := nI_add (L - 4) 4
      rw [Nat.sub_add_cancel q] at h1
      rw [← h1]
      exact Int32.add_sub_cancel _ _
    rw [e] at h
    have h2 : ¬ L - 4 < i := fun z => h ((nI_ltI (by omega) hi).mpr z)
    omega
theorem lk_L_long : Cond.constantLong RL 89 (4294967295) ∈ wsL_law := by unfold wsL_law; decide +kernel
theorem js_anyL {X : js_X} {y : js_L} {nL : Nat} {Q : State → Prop} {G : js_G} {pc : Nat} {lv : List (Nat × Value)} {st : List Value} {z : Int64} (k : ∀ n, n < 2 ^ 64 → z = lN n → js_W X y nL Q G pc lv (.long (lN n) :: st)) : js_W X y nL Q G pc lv (.long z :: st) := by
  obtain ⟨n, hn, en⟩ := jn_all z
  have h := k n hn en
  rw [← en] at h
  exact h
theorem lg_cmp_self {x : Int64} : lg_cmp x x = 0 := by
  simp [lg_cmp]
set_option maxHeartbeats 4000000 in
theorem lw_c0 {X : js_X} {y : js_L} {b L i : Nat} {xs : Nat → Int32} {Q : State → Prop} {c : js_C} {G : js_G} (F : js_F X y cL_law 4 RL wsL_law 10 356) (S : lw_S X y b L xs) (hi : i + 4 ≤ L) (hJ : jr_C G c) (hM : mr_C G c) (hend : ∀ (G2 : js_G) (c2 : js_C), jr_C G2 c2 → mr_C G2 c2 → js_W X y 4 Q G2 854 (lwv y b i) []) : js_W X y 4 Q G 148 (lwv y b i) [] := by
  refine js_aload_n (pc := 148) 1 F rfl dL_law_148 ?_
  refine js_arg (pc := 149) (k := 1) F S (by decide) (by omega) dL_law_149 dL_law_150 dL_law_151 dL_law_152 dL_law_153 ?_
  refine js_calli (pc := 154) F (cx_salt _ F.2.2.2.1 hJ (xs (i + 1))) mf_X4_salt gL_law_X4_salt rfl (by decide) (by decide) (js_ct_X) rfl rfl rfl (Nat.le_of_ble_eq_true rfl) dL_law_154 ?_
  rintro _ G1 ⟨rfl, hJ1, hf1⟩
  refine js_aload_n (pc := 157) 2 F rfl dL_law_157 ?_
  refine js_arg (pc := 158) (k := 1) F S (by decide) (by omega) dL_law_158 dL_law_159 dL_law_160 dL_law_161 dL_law_162 ?_
  refine js_calli (pc := 163) F (cm_salt _ F.2.2.2.1 (hM.frX hf1) (xs (i + 1))) mf_X5_salt gL_law_X5_salt rfl (by decide) (by decide) (js_ct_M) rfl rfl rfl (Nat.le_of_ble_eq_true rfl) dL_law_163 ?_
  rintro _ G2 ⟨rfl, hM2, hf2⟩
  exact js_icmp_eq (pc := 166) (tgt := 854) F dL_law_166 (by decide) (fun _ => hend _ _ (hJ1.frM hf2) hM2) (fun h => absurd rfl h)
set_option maxHeartbeats 4000000 in
theorem lw_c1 {X : js_X} {y : js_L} {b L i : Nat} {xs : Nat → Int32} {Q : State → Prop} {c : js_C} {G : js_G} (F : js_F X y cL_law 4 RL wsL_law 10 356) (S : lw_S X y b L xs) (hi : i + 4 ≤ L) (hJ : jr_C G c) (hM : mr_C G c) (hend : ∀ (G2 : js_G) (c2 : js_C), jr_C G2 c2 → mr_C G2 c2 → js_W X y 4 Q G2 854 (lwv y b i) []) : js_W X y 4 Q G 171 (lwv y b i) [] := by
  refine js_aload_n (pc := 171) 1 F rfl dL_law_171 ?_
  refine js_arg (pc := 172) (k := 1) F S (by decide) (by omega) dL_law_172 dL_law_173 dL_law_174 dL_law_175 dL_law_176 ?_
  refine js_arg (pc := 177) (k := 2) F S (by decide) (by omega) dL_law_177 dL_law_178 dL_law_179 dL_law_180 dL_law_181 ?_
  refine js_calli (pc := 182) F (cx_bits _ F.2.2.2.1 hJ (xs (i + 1)) (xs (i + 2))) mf_X4_bits gL_law_X4_bits rfl (by decide) (by decide) (js_ct_X) rfl rfl rfl (Nat.le_of_ble_eq_true rfl) dL_law_182 ?_
  rintro _ G1 ⟨rfl, hJ1, hf1⟩
  refine js_aload_n (pc := 185) 2 F rfl dL_law_185 ?_
  refine js_arg (pc := 186) (k := 1) F S (by decide) (by omega) dL_law_186 dL_law_187 dL_law_188 dL_law_189 dL_law_190 ?_
  refine js_arg (pc := 191) (k := 2) F S (by decide) (by omega) dL_law_191 dL_law_192 dL_law_193 dL_law_194 dL_law_195 ?_
  refine js_calli (pc := 196) F (cm_bits _ F.2.2.2.1 (hM.frX hf1) (xs (i + 1)) (xs (i + 2))) mf_X5_bits gL_law_X5_bits rfl (by decide) (by decide) (js_ct_M) rfl rfl rfl (Nat.le_of_ble_eq_true rfl) dL_law_196 ?_
  rintro _ G2 ⟨rfl, hM2, hf2⟩
  exact js_icmp_eq (pc := 199) (tgt := 854) F dL_law_199 (by decide) (fun _ => hend _ _ (hJ1.frM hf2) hM2) (fun h => absurd rfl h)
set_option maxHeartbeats 4000000 in
theorem lw_c2 {X : js_X} {y : js_L} {b L i : Nat} {xs : Nat → Int32} {Q : State → Prop} {c : js_C} {G : js_G} (F : js_F X y cL_law 4 RL wsL_law 10 356) (S : lw_S X y b L xs) (hi : i + 4 ≤ L) (hJ : jr_C G c) (hM : mr_C G c) (hend : ∀ (G2 : js_G) (c2 : js_C), jr_C G2 c2 → mr_C G2 c2 → js_W X y 4 Q G2 854 (lwv y b i) []) : js_W X y 4 Q G 204 (lwv y b i) [] := by
  refine js_aload_n (pc := 204) 1 F rfl dL_law_204 ?_
  refine js_arg (pc := 205) (k := 1) F S (by decide) (by omega) dL_law_205 dL_law_206 dL_law_207 dL_law_208 dL_law_209 ?_
  refine js_arg (pc := 210) (k := 2) F S (by decide) (by omega) dL_law_210 dL_law_211 dL_law_212 dL_law_213 dL_law_214 ?_
  refine js_calli (pc := 215) F (cx_add _ F.2.2.2.1 hJ (xs (i + 1)) (xs (i + 2))) mf_X4_add gL_law_X4_add rfl (by decide) (by decide) (js_ct_X) rfl rfl rfl (Nat.le_of_ble_eq_true rfl) dL_law_215 ?_
  rintro _ G1 ⟨rfl, hJ1, hf1⟩
  refine js_aload_n (pc := 218) 2 F rfl dL_law_218 ?_
  refine js_arg (pc := 219) (k := 1) F S (by decide) (by omega) dL_law_219 dL_law_220 dL_law_221 dL_law_222 dL_law_223 ?_
  refine js_arg (pc := 224) (k := 2) F S (by decide) (by omega) dL_law_224 dL_law_225 dL_law_226 dL_law_227 dL_law_228 ?_
  refine js_calli (pc := 229) F (cm_add _ F.2.2.2.1 (hM.frX hf1) (xs (i + 1)) (xs (i + 2))) mf_X5_add gL_law_X5_add rfl (by decide) (by decide) (js_ct_M) rfl rfl rfl (Nat.le_of_ble_eq_true rfl) dL_law_229 ?_
  rintro _ G2 ⟨rfl, hM2, hf2⟩
  exact js_icmp_eq (pc := 232) (tgt := 854) F dL_law_232 (by decide) (fun _ => hend _ _ (hJ1.frM hf2) hM2) (fun h => absurd rfl h)
set_option maxHeartbeats 4000000 in
theorem lw_c3 {X : js_X} {y : js_L} {b L i : Nat} {xs : Nat → Int32} {Q : State → Prop} {c : js_C} {G : js_G} (F : js_F X y cL_law 4 RL wsL_law 10 356) (S : lw_S X y b L xs) (hi : i + 4 ≤ L) (hJ : jr_C G c) (hM : mr_C G c) (hend : ∀ (G2 : js_G) (c2 : js_C), jr_C G2 c2 → mr_C G2 c2 → js_W X y 4 Q G2 854 (lwv y b i) []) : js_W X y 4 Q G 237 (lwv y b i) [] := by
  refine js_aload_n (pc := 237) 1 F rfl dL_law_237 ?_
  refine js_arg (pc := 238) (k := 1) F S (by decide) (by omega) dL_law_238 dL_law_239 dL_law_240 dL_law_241 dL_law_242 ?_
  refine js_arg (pc := 243) (k := 2) F S (by decide) (by omega) dL_law_243 dL_law_244 dL_law_245 dL_law_246 dL_law_247 ?_
  refine js_arg (pc := 248) (k := 3) F S (by decide) (by omega) dL_law_248 dL_law_249 dL_law_250 dL_law_251 dL_law_252 ?_
  refine js_calli (pc := 253) F (cx_addRange _ F.2.2.2.1 hJ (xs (i + 1)) (xs (i + 2)) (xs (i + 3))) mf_X4_addRange gL_law_X4_addRange rfl (by decide) (by decide) (js_ct_X) rfl rfl rfl (Nat.le_of_ble_eq_true rfl) dL_law_253 ?_
  rintro _ G1 ⟨rfl, hJ1, hf1⟩
  refine js_aload_n (pc := 256) 2 F rfl dL_law_256 ?_
  refine js_arg (pc := 257) (k := 1) F S (by decide) (by omega) dL_law_257 dL_law_258 dL_law_259 dL_law_260 dL_law_261 ?_
  refine js_arg (pc := 262) (k := 2) F S (by decide) (by omega) dL_law_262 dL_law_263 dL_law_264 dL_law_265 dL_law_266 ?_
  refine js_arg (pc := 267) (k := 3) F S (by decide) (by omega) dL_law_267 dL_law_268 dL_law_269 dL_law_270 dL_law_271 ?_
  refine js_calli (pc := 272) F (cm_addRange _ F.2.2.2.1 (hM.frX hf1) (xs (i + 1)) (xs (i + 2)) (xs (i + 3))) mf_X5_addRange gL_law_X5_addRange rfl (by decide) (by decide) (js_ct_M) rfl rfl rfl (Nat.le_of_ble_eq_true rfl) dL_law_272 ?_
  rintro _ G2 ⟨rfl, hM2, hf2⟩
  exact js_icmp_eq (pc := 275) (tgt := 854) F dL_law_275 (by decide) (fun _ => hend _ _ (hJ1.frM hf2) hM2) (fun h => absurd rfl h)
set_option maxHeartbeats 4000000 in
theorem lw_c4 {X : js_X} {y : js_L} {b L i : Nat} {xs : Nat → Int32} {Q : State → Prop} {c : js_C} {G : js_G} (F : js_F X y cL_law 4 RL wsL_law 10 356) (S : lw_S X y b L xs) (hi : i + 4 ≤ L) (hJ : jr_C G c) (hM : mr_C G c) (hend : ∀ (G2 : js_G) (c2 : js_C), jr_C G2 c2 → mr_C G2 c2 → js_W X y 4 Q G2 854 (lwv y b i) []) : js_W X y 4 Q G 280 (lwv y b i) [] := by
  refine js_aload_n (pc := 280) 1 F rfl dL_law_280 ?_
  refine js_arg (pc := 281) (k := 1) F S (by decide) (by omega) dL_law_281 dL_law_282 dL_law_283 dL_law_284 dL_law_285 ?_
  refine js_arg (pc := 286) (k := 2) F S (by decide) (by omega) dL_law_286 dL_law_287 dL_law_288 dL_law_289 dL_law_290 ?_
  refine js_calli (pc := 291) F (cx_join _ F.2.2.2.1 hJ (xs (i + 1)) (xs (i + 2))) mf_X4_join gL_law_X4_join rfl (by decide) (by decide) (js_ct_X) rfl rfl rfl (Nat.le_of_ble_eq_true rfl) dL_law_291 ?_
  rintro _ G1 ⟨rfl, hJ1, hf1⟩
  refine js_aload_n (pc := 294) 2 F rfl dL_law_294 ?_
  refine js_arg (pc := 295) (k := 1) F S (by decide) (by omega) dL_law_295 dL_law_296 dL_law_297 dL_law_298 dL_law_299 ?_
  refine js_arg (pc := 300) (k := 2) F S (by decide) (by omega) dL_law_300 dL_law_301 dL_law_302 dL_law_303 dL_law_304 ?_
  refine js_calli (pc := 305) F (cm_join _ F.2.2.2.1 (hM.frX hf1) (xs (i + 1)) (xs (i + 2))) mf_X5_join gL_law_X5_join rfl (by decide) (by decide) (js_ct_M) rfl rfl rfl (Nat.le_of_ble_eq_true rfl) dL_law_305 ?_
  rintro _ G2 ⟨rfl, hM2, hf2⟩
  exact js_icmp_eq (pc := 308) (tgt := 854) F dL_law_308 (by decide) (fun _ => hend _ _ (hJ1.frM hf2) hM2) (fun h => absurd rfl h)
set_option maxHeartbeats 4000000 in
theorem lw_c5 {X : js_X} {y : js_L} {b L i : Nat} {xs : Nat → Int32} {Q : State → Prop} {c : js_C} {G : js_G} (F : js_F X y cL_law 4 RL wsL_law 10 356) (S : lw_S X y b L xs) (hi : i + 4 ≤ L) (hJ : jr_C G c) (hM : mr_C G c) (hend : ∀ (G2 : js_G) (c2 : js_C), jr_C G2 c2 → mr_C G2 c2 → js_W X y 4 Q G2 854 (lwv y b i) []) : js_W X y 4 Q G 313 (lwv y b i) [] := by
  refine js_aload_n (pc := 313) 1 F rfl dL_law_313 ?_
  refine js_arg (pc := 314) (k := 1) F S (by decide) (by omega) dL_law_314 dL_law_315 dL_law_316 dL_law_317 dL_law_318 ?_
  refine js_calli (pc := 319) F (cx_fold _ F.2.2.2.1 hJ (xs (i + 1))) mf_X4_fold gL_law_X4_fold rfl (by decide) (by decide) (js_ct_X) rfl rfl rfl (Nat.le_of_ble_eq_true rfl) dL_law_319 ?_
  rintro _ G1 ⟨rfl, hJ1, hf1⟩
  refine js_aload_n (pc := 322) 2 F rfl dL_law_322 ?_
  refine js_arg (pc := 323) (k := 1) F S (by decide) (by omega) dL_law_323 dL_law_324 dL_law_325 dL_law_326 dL_law_327 ?_
  refine js_calli (pc := 328) F (cm_fold _ F.2.2.2.1 (hM.frX hf1) (xs (i + 1))) mf_X5_fold gL_law_X5_fold rfl (by decide) (by decide) (js_ct_M) rfl rfl rfl (Nat.le_of_ble_eq_true rfl) dL_law_328 ?_
  rintro _ G2 ⟨rfl, hM2, hf2⟩
  exact js_icmp_eq (pc := 331) (tgt := 854) F dL_law_331 (by decide) (fun _ => hend _ _ (hJ1.frM hf2) hM2) (fun h => absurd rfl h)
set_option maxHeartbeats 4000000 in
theorem lw_c6 {X : js_X} {y : js_L} {b L i : Nat} {xs : Nat → Int32} {Q : State → Prop} {c : js_C} {G : js_G} (F : js_F X y cL_law 4 RL wsL_law 10 356) (S : lw_S X y b L xs) (hi : i + 4 ≤ L) (hJ : jr_C G c) (hM : mr_C G c) (hend : ∀ (G2 : js_G) (c2 : js_C), jr_C G2 c2 → mr_C G2 c2 → js_W X y 4 Q G2 854 (lwv y b i) []) : js_W X y 4 Q G 336 (lwv y b i) [] := by
  refine js_aload_n (pc := 336) 1 F rfl dL_law_336 ?_
  refine js_arg (pc := 337) (k := 1) F S (by decide) (by omega) dL_law_337 dL_law_338 dL_law_339 dL_law_340 dL_law_341 ?_
  refine js_calli (pc := 342) F (cx_empty _ F.2.2.2.1 hJ (xs (i + 1))) mf_X4_empty gL_law_X4_empty rfl (by decide) (by decide) (js_ct_X) rfl rfl rfl (Nat.le_of_ble_eq_true rfl) dL_law_342 ?_
  rintro _ G1 ⟨rfl, hJ1, hf1⟩
  refine js_aload_n (pc := 345) 2 F rfl dL_law_345 ?_
  refine js_arg (pc := 346) (k := 1) F S (by decide) (by omega) dL_law_346 dL_law_347 dL_law_348 dL_law_349 dL_law_350 ?_
  refine js_calli (pc := 351) F (cm_empty _ F.2.2.2.1 (hM.frX hf1) (xs (i + 1))) mf_X5_empty gL_law_X5_empty rfl (by decide) (by decide) (js_ct_M) rfl rfl rfl (Nat.le_of_ble_eq_true rfl) dL_law_351 ?_
  rintro _ G2 ⟨rfl, hM2, hf2⟩
  exact js_icmp_eq (pc := 354) (tgt := 854) F dL_law_354 (by decide) (fun _ => hend _ _ (hJ1.frM hf2) hM2) (fun h => absurd rfl h)
set_option maxHeartbeats 4000000 in
theorem lw_c7 {X : js_X} {y : js_L} {b L i : Nat} {xs : Nat → Int32} {Q : State → Prop} {c : js_C} {G : js_G} (F : js_F X y cL_law 4 RL wsL_law 10 356) (S : lw_S X y b L xs) (hi : i + 4 ≤ L) (hJ : jr_C G c) (hM : mr_C G c) (hend : ∀ (G2 : js_G) (c2 : js_C), jr_C G2 c2 → mr_C G2 c2 → js_W X y 4 Q G2 854 (lwv y b i) []) : js_W X y 4 Q G 359 (lwv y b i) [] := by
  refine js_aload_n (pc := 359) 1 F rfl dL_law_359 ?_
  refine js_arg (pc := 360) (k := 1) F S (by decide) (by omega) dL_law_360 dL_law_361 dL_law_362 dL_law_363 dL_law_364 ?_
  refine js_arg (pc := 365) (k := 2) F S (by decide) (by omega) dL_law_365 dL_law_366 dL_law_367 dL_law_368 dL_law_369 ?_
  refine js_arg (pc := 370) (k := 3) F S (by decide) (by omega) dL_law_370 dL_law_371 dL_law_372 dL_law_373 dL_law_374 ?_
  refine js_calli (pc := 375) F (cx_thing _ F.2.2.2.1 hJ (xs (i + 1)) (xs (i + 2)) (xs (i + 3))) mf_X4_thing gL_law_X4_thing rfl (by decide) (by decide) (js_ct_X) rfl rfl rfl (Nat.le_of_ble_eq_true rfl) dL_law_375 ?_
  rintro _ G1 ⟨rfl, hJ1, hf1⟩
  refine js_aload_n (pc := 378) 2 F rfl dL_law_378 ?_
  refine js_arg (pc := 379) (k := 1) F S (by decide) (by omega) dL_law_379 dL_law_380 dL_law_381 dL_law_382 dL_law_383 ?_
  refine js_arg (pc := 384) (k := 2) F S (by decide) (by omega) dL_law_384 dL_law_385 dL_law_386 dL_law_387 dL_law_388 ?_
  refine js_arg (pc := 389) (k := 3) F S (by decide) (by omega) dL_law_389 dL_law_390 dL_law_391 dL_law_392 dL_law_393 ?_
  refine js_calli (pc := 394) F (cm_thing _ F.2.2.2.1 (hM.frX hf1) (xs (i + 1)) (xs (i + 2)) (xs (i + 3))) mf_X5_thing gL_law_X5_thing rfl (by decide) (by decide) (js_ct_M) rfl rfl rfl (Nat.le_of_ble_eq_true rfl) dL_law_394 ?_
  rintro _ G2 ⟨rfl, hM2, hf2⟩
  exact js_icmp_eq (pc := 397) (tgt := 854) F dL_law_397 (by decide) (fun _ => hend _ _ (hJ1.frM hf2) hM2) (fun h => absurd rfl h)
set_option maxHeartbeats 4000000 in
theorem lw_c8 {X : js_X} {y : js_L} {b L i : Nat} {xs : Nat → Int32} {Q : State → Prop} {c : js_C} {G : js_G} (F : js_F X y cL_law 4 RL wsL_law 10 356) (S : lw_S X y b L xs) (hi : i + 4 ≤ L) (hJ : jr_C G c) (hM : mr_C G c) (hend : ∀ (G2 : js_G) (c2 : js_C), jr_C G2 c2 → mr_C G2 c2 → js_W X y 4 Q G2 854 (lwv y b i) []) : js_W X y 4 Q G 402 (lwv y b i) [] := by
  refine js_aload_n (pc := 402) 1 F rfl dL_law_402 ?_
  refine js_arg (pc := 403) (k := 1) F S (by decide) (by omega) dL_law_403 dL_law_404 dL_law_405 dL_law_406 dL_law_407 ?_
  refine js_arg (pc := 408) (k := 2) F S (by decide) (by omega) dL_law_408 dL_law_409 dL_law_410 dL_law_411 dL_law_412 ?_
  refine js_calli (pc := 413) F (cx_bucket _ F.2.2.2.1 hJ (xs (i + 1)) (xs (i + 2))) mf_X4_bucket gL_law_X4_bucket rfl (by decide) (by decide) (js_ct_X) rfl rfl rfl (Nat.le_of_ble_eq_true rfl) dL_law_413 ?_
  rintro _ G1 ⟨rfl, hJ1, hf1⟩
  refine js_aload_n (pc := 416) 2 F rfl dL_law_416 ?_
  refine js_arg (pc := 417) (k := 1) F S (by decide) (by omega) dL_law_417 dL_law_418 dL_law_419 dL_law_420 dL_law_421 ?_
  refine js_arg (pc := 422) (k := 2) F S (by decide) (by omega) dL_law_422 dL_law_423 dL_law_424 dL_law_425 dL_law_426 ?_
  refine js_calli (pc := 427) F (cm_bucket _ F.2.2.2.1 (hM.frX hf1) (xs (i + 1)) (xs (i + 2))) mf_X5_bucket gL_law_X5_bucket rfl (by decide) (by decide) (js_ct_M) rfl rfl rfl (Nat.le_of_ble_eq_true rfl) dL_law_427 ?_
  rintro _ G2 ⟨rfl, hM2, hf2⟩
  exact js_icmp_eq (pc := 430) (tgt := 854) F dL_law_430 (by decide) (fun _ => hend _ _ (hJ1.frM hf2) hM2) (fun h => absurd rfl h)
set_option maxHeartbeats 4000000 in
theorem lw_c9 {X : js_X} {y : js_L} {b L i : Nat} {xs : Nat → Int32} {Q : State → Prop} {c : js_C} {G : js_G} (F : js_F X y cL_law 4 RL wsL_law 10 356) (S : lw_S X y b L xs) (hi : i + 4 ≤ L) (hJ : jr_C G c) (hM : mr_C G c) (hend : ∀ (G2 : js_G) (c2 : js_C), jr_C G2 c2 → mr_C G2 c2 → js_W X y 4 Q G2 854 (lwv y b i) []) : js_W X y 4 Q G 435 (lwv y b i) [] := by
  refine js_aload_n (pc := 435) 1 F rfl dL_law_435 ?_
  refine js_arg (pc := 436) (k := 1) F S (by decide) (by omega) dL_law_436 dL_law_437 dL_law_438 dL_law_439 dL_law_440 ?_
  refine js_arg (pc := 441) (k := 2) F S (by decide) (by omega) dL_law_441 dL_law_442 dL_law_443 dL_law_444 dL_law_445 ?_
  refine js_calli (pc := 446) F (cx_ofSketch _ F.2.2.2.1 hJ (xs (i + 1)) (xs (i + 2))) mf_X4_ofSketch gL_law_X4_ofSketch rfl (by decide) (by decide) (js_ct_X) rfl rfl rfl (Nat.le_of_ble_eq_true rfl) dL_law_446 ?_
  rintro _ G1 ⟨rfl, hJ1, hf1⟩
  refine js_aload_n (pc := 449) 2 F rfl dL_law_449 ?_
  refine js_arg (pc := 450) (k := 1) F S (by decide) (by omega) dL_law_450 dL_law_451 dL_law_452 dL_law_453 dL_law_454 ?_
  refine js_arg (pc := 455) (k := 2) F S (by decide) (by omega) dL_law_455 dL_law_456 dL_law_457 dL_law_458 dL_law_459 ?_
  refine js_calli (pc := 460) F (cm_ofSketch _ F.2.2.2.1 (hM.frX hf1) (xs (i + 1)) (xs (i + 2))) mf_X5_ofSketch gL_law_X5_ofSketch rfl (by decide) (by decide) (js_ct_M) rfl rfl rfl (Nat.le_of_ble_eq_true rfl) dL_law_460 ?_
  rintro _ G2 ⟨rfl, hM2, hf2⟩
  exact js_icmp_eq (pc := 463) (tgt := 854) F dL_law_463 (by decide) (fun _ => hend _ _ (hJ1.frM hf2) hM2) (fun h => absurd rfl h)
set_option maxHeartbeats 4000000 in
theorem lw_c10 {X : js_X} {y : js_L} {b L i : Nat} {xs : Nat → Int32} {Q : State → Prop} {c : js_C} {G : js_G} (F : js_F X y cL_law 4 RL wsL_law 10 356) (S : lw_S X y b L xs) (hi : i + 4 ≤ L) (hJ : jr_C G c) (hM : mr_C G c) (hend : ∀ (G2 : js_G) (c2 : js_C), jr_C G2 c2 → mr_C G2 c2 → js_W X y 4 Q G2 854 (lwv y b i) []) : js_W X y 4 Q G 468 (lwv y b i) [] := by
  refine js_aload_n (pc := 468) 1 F rfl dL_law_468 ?_
  refine js_arg (pc := 469) (k := 1) F S (by decide) (by omega) dL_law_469 dL_law_470 dL_law_471 dL_law_472 dL_law_473 ?_
  refine js_arg (pc := 474) (k := 2) F S (by decide) (by omega) dL_law_474 dL_law_475 dL_law_476 dL_law_477 dL_law_478 ?_
  refine js_calll (pc := 479) F (cx_withRank _ F.2.2.2.1 hJ (xs (i + 1)) (xs (i + 2))) mf_X4_withRank gL_law_X4_withRank rfl (by decide) (by decide) (js_ct_X) rfl rfl rfl (Nat.le_of_ble_eq_true rfl) dL_law_479 ?_
  rintro _ G1 ⟨rfl, hJ1, hf1⟩
  refine js_aload_n (pc := 482) 2 F rfl dL_law_482 ?_
  refine js_arg (pc := 483) (k := 1) F S (by decide) (by omega) dL_law_483 dL_law_484 dL_law_485 dL_law_486 dL_law_487 ?_
  refine js_arg (pc := 488) (k := 2) F S (by decide) (by omega) dL_law_488 dL_law_489 dL_law_490 dL_law_491 dL_law_492 ?_
  refine js_calll (pc := 493) F (cm_withRank _ F.2.2.2.1 (hM.frX hf1) (xs (i + 1)) (xs (i + 2))) mf_X5_withRank gL_law_X5_withRank rfl (by decide) (by decide) (js_ct_M) rfl rfl rfl (Nat.le_of_ble_eq_true rfl) dL_law_493 ?_
  rintro _ G2 ⟨rfl, hM2, hf2⟩
  refine js_lcmp (pc := 496) F dL_law_496 ?_
  refine js_if_eq (pc := 497) (tgt := 854) F dL_law_497 (by decide) (fun _ => hend _ _ (hJ1.frM hf2) hM2) (fun h => absurd ?_ h)
  exact lg_cmp_self
set_option maxHeartbeats 4000000 in
theorem lw_c11 {X : js_X} {y : js_L} {b L i : Nat} {xs : Nat → Int32} {Q : State → Prop} {c : js_C} {G : js_G} (F : js_F X y cL_law 4 RL wsL_law 10 356) (S : lw_S X y b L xs) (hi : i + 4 ≤ L) (hJ : jr_C G c) (hM : mr_C G c) (hend : ∀ (G2 : js_G) (c2 : js_C), jr_C G2 c2 → mr_C G2 c2 → js_W X y 4 Q G2 854 (lwv y b i) []) : js_W X y 4 Q G 502 (lwv y b i) [] := by
  refine js_aload_n (pc := 502) 1 F rfl dL_law_502 ?_
  refine js_arg (pc := 503) (k := 1) F S (by decide) (by omega) dL_law_503 dL_law_504 dL_law_505 dL_law_506 dL_law_507 ?_
  refine js_arg (pc := 508) (k := 2) F S (by decide) (by omega) dL_law_508 dL_law_509 dL_law_510 dL_law_511 dL_law_512 ?_
  refine js_calli (pc := 513) F (cx_listed _ F.2.2.2.1 hJ (xs (i + 1)) (xs (i + 2))) mf_X4_listed gL_law_X4_listed rfl (by decide) (by decide) (js_ct_X) rfl rfl rfl (Nat.le_of_ble_eq_true rfl) dL_law_513 ?_
  rintro _ G1 ⟨rfl, hJ1, hf1⟩
  refine js_aload_n (pc := 516) 2 F rfl dL_law_516 ?_
  refine js_arg (pc := 517) (k := 1) F S (by decide) (by omega) dL_law_517 dL_law_518 dL_law_519 dL_law_520 dL_law_521 ?_
  refine js_arg (pc := 522) (k := 2) F S (by decide) (by omega) dL_law_522 dL_law_523 dL_law_524 dL_law_525 dL_law_526 ?_
  refine js_calli (pc := 527) F (cm_listed _ F.2.2.2.1 (hM.frX hf1) (xs (i + 1)) (xs (i + 2))) mf_X5_listed gL_law_X5_listed rfl (by decide) (by decide) (js_ct_M) rfl rfl rfl (Nat.le_of_ble_eq_true rfl) dL_law_527 ?_
  rintro _ G2 ⟨rfl, hM2, hf2⟩
  exact js_icmp_eq (pc := 530) (tgt := 854) F dL_law_530 (by decide) (fun _ => hend _ _ (hJ1.frM hf2) hM2) (fun h => absurd rfl h)
set_option maxHeartbeats 4000000 in
theorem lw_c12 {X : js_X} {y : js_L} {b L i : Nat} {xs : Nat → Int32} {Q : State → Prop} {c : js_C} {G : js_G} (F : js_F X y cL_law 4 RL wsL_law 10 356) (S : lw_S X y b L xs) (hi : i + 4 ≤ L) (hJ : jr_C G c) (hM : mr_C G c) (hend : ∀ (G2 : js_G) (c2 : js_C), jr_C G2 c2 → mr_C G2 c2 → js_W X y 4 Q G2 854 (lwv y b i) []) : js_W X y 4 Q G 535 (lwv y b i) [] := by
  refine js_aload_n (pc := 535) 1 F rfl dL_law_535 ?_
  refine js_arg (pc := 536) (k := 1) F S (by decide) (by omega) dL_law_536 dL_law_537 dL_law_538 dL_law_539 dL_law_540 ?_
  refine js_calli (pc := 541) F (cx_count _ F.2.2.2.1 hJ (xs (i + 1))) mf_X4_count gL_law_X4_count rfl (by decide) (by decide) (js_ct_X) rfl rfl rfl (Nat.le_of_ble_eq_true rfl) dL_law_541 ?_
  rintro _ G1 ⟨rfl, hJ1, hf1⟩
  refine js_aload_n (pc := 544) 2 F rfl dL_law_544 ?_
  refine js_arg (pc := 545) (k := 1) F S (by decide) (by omega) dL_law_545 dL_law_546 dL_law_547 dL_law_548 dL_law_549 ?_
  refine js_calli (pc := 550) F (cm_count _ F.2.2.2.1 (hM.frX hf1) (xs (i + 1))) mf_X5_count gL_law_X5_count rfl (by decide) (by decide) (js_ct_M) rfl rfl rfl (Nat.le_of_ble_eq_true rfl) dL_law_550 ?_
  rintro _ G2 ⟨rfl, hM2, hf2⟩
  exact js_icmp_eq (pc := 553) (tgt := 854) F dL_law_553 (by decide) (fun _ => hend _ _ (hJ1.frM hf2) hM2) (fun h => absurd rfl h)
set_option maxHeartbeats 4000000 in
theorem lw_c13 {X : js_X} {y : js_L} {b L i : Nat} {xs : Nat → Int32} {Q : State → Prop} {c : js_C} {G : js_G} (F : js_F X y cL_law 4 RL wsL_law 10 356) (S : lw_S X y b L xs) (hi : i + 4 ≤ L) (hJ : jr_C G c) (hM : mr_C G c) (hend : ∀ (G2 : js_G) (c2 : js_C), jr_C G2 c2 → mr_C G2 c2 → js_W X y 4 Q G2 854 (lwv y b i) []) : js_W X y 4 Q G 558 (lwv y b i) [] := by
  refine js_aload_n (pc := 558) 1 F rfl dL_law_558 ?_
  refine js_arg (pc := 559) (k := 1) F S (by decide) (by omega) dL_law_559 dL_law_560 dL_law_561 dL_law_562 dL_law_563 ?_
  refine js_arg (pc := 564) (k := 2) F S (by decide) (by omega) dL_law_564 dL_law_565 dL_law_566 dL_law_567 dL_law_568 ?_
  refine js_calli (pc := 569) F (cx_together _ F.2.2.2.1 hJ (xs (i + 1)) (xs (i + 2))) mf_X4_together gL_law_X4_together rfl (by decide) (by decide) (js_ct_X) rfl rfl rfl (Nat.le_of_ble_eq_true rfl) dL_law_569 ?_
  rintro _ G1 ⟨rfl, hJ1, hf1⟩
  refine js_aload_n (pc := 572) 2 F rfl dL_law_572 ?_
  refine js_arg (pc := 573) (k := 1) F S (by decide) (by omega) dL_law_573 dL_law_574 dL_law_575 dL_law_576 dL_law_577 ?_
  refine js_arg (pc := 578) (k := 2) F S (by decide) (by omega) dL_law_578 dL_law_579 dL_law_580 dL_law_581 dL_law_582 ?_
  refine js_calli (pc := 583) F (cm_together _ F.2.2.2.1 (hM.frX hf1) (xs (i + 1)) (xs (i + 2))) mf_X5_together gL_law_X5_together rfl (by decide) (by decide) (js_ct_M) rfl rfl rfl (Nat.le_of_ble_eq_true rfl) dL_law_583 ?_
  rintro _ G2 ⟨rfl, hM2, hf2⟩
  exact js_icmp_eq (pc := 586) (tgt := 854) F dL_law_586 (by decide) (fun _ => hend _ _ (hJ1.frM hf2) hM2) (fun h => absurd rfl h)
set_option maxHeartbeats 4000000 in
theorem lw_c14 {X : js_X} {y : js_L} {b L i : Nat} {xs : Nat → Int32} {Q : State → Prop} {c : js_C} {G : js_G} (F : js_F X y cL_law 4 RL wsL_law 10 356) (S : lw_S X y b L xs) (hi : i + 4 ≤ L) (hJ : jr_C G c) (hM : mr_C G c) (hend : ∀ (G2 : js_G) (c2 : js_C), jr_C G2 c2 → mr_C G2 c2 → js_W X y 4 Q G2 854 (lwv y b i) []) : js_W X y 4 Q G 591 (lwv y b i) [] := by
  refine js_aload_n (pc := 591) 1 F rfl dL_law_591 ?_
  refine js_arg (pc := 592) (k := 1) F S (by decide) (by omega) dL_law_592 dL_law_593 dL_law_594 dL_law_595 dL_law_596 ?_
  refine js_arg (pc := 597) (k := 2) F S (by decide) (by omega) dL_law_597 dL_law_598 dL_law_599 dL_law_600 dL_law_601 ?_
  refine js_calli (pc := 602) F (cx_alike _ F.2.2.2.1 hJ (xs (i + 1)) (xs (i + 2))) mf_X4_alike gL_law_X4_alike rfl (by decide) (by decide) (js_ct_X) rfl rfl rfl (Nat.le_of_ble_eq_true rfl) dL_law_602 ?_
  rintro _ G1 ⟨rfl, hJ1, hf1⟩
  refine js_aload_n (pc := 605) 2 F rfl dL_law_605 ?_
  refine js_arg (pc := 606) (k := 1) F S (by decide) (by omega) dL_law_606 dL_law_607 dL_law_608 dL_law_609 dL_law_610 ?_
  refine js_arg (pc := 611) (k := 2) F S (by decide) (by omega) dL_law_611 dL_law_612 dL_law_613 dL_law_614 dL_law_615 ?_
  refine js_calli (pc := 616) F (cm_alike _ F.2.2.2.1 (hM.frX hf1) (xs (i + 1)) (xs (i + 2))) mf_X5_alike gL_law_X5_alike rfl (by decide) (by decide) (js_ct_M) rfl rfl rfl (Nat.le_of_ble_eq_true rfl) dL_law_616 ?_
  rintro _ G2 ⟨rfl, hM2, hf2⟩
  exact js_icmp_eq (pc := 619) (tgt := 854) F dL_law_619 (by decide) (fun _ => hend _ _ (hJ1.frM hf2) hM2) (fun h => absurd rfl h)
set_option maxHeartbeats 4000000 in
theorem lw_c15 {X : js_X} {y : js_L} {b L i : Nat} {xs : Nat → Int32} {Q : State → Prop} {c : js_C} {G : js_G} (F : js_F X y cL_law 4 RL wsL_law 10 356) (S : lw_S X y b L xs) (hi : i + 4 ≤ L) (hJ : jr_C G c) (hM : mr_C G c) (hend : ∀ (G2 : js_G) (c2 : js_C), jr_C G2 c2 → mr_C G2 c2 → js_W X y 4 Q G2 854 (lwv y b i) []) : js_W X y 4 Q G 624 (lwv y b i) [] := by
  refine js_aload_n (pc := 624) 1 F rfl dL_law_624 ?_
  refine js_arg (pc := 625) (k := 1) F S (by decide) (by omega) dL_law_625 dL_law_626 dL_law_627 dL_law_628 dL_law_629 ?_
  refine js_calli (pc := 630) F (cx_off _ F.2.2.2.1 hJ (xs (i + 1))) mf_X4_off gL_law_X4_off rfl (by decide) (by decide) (js_ct_X) rfl rfl rfl (Nat.le_of_ble_eq_true rfl) dL_law_630 ?_
  rintro _ G1 ⟨rfl, hJ1, hf1⟩
  refine js_aload_n (pc := 633) 2 F rfl dL_law_633 ?_
  refine js_arg (pc := 634) (k := 1) F S (by decide) (by omega) dL_law_634 dL_law_635 dL_law_636 dL_law_637 dL_law_638 ?_
  refine js_calli (pc := 639) F (cm_off _ F.2.2.2.1 (hM.frX hf1) (xs (i + 1))) mf_X5_off gL_law_X5_off rfl (by decide) (by decide) (js_ct_M) rfl rfl rfl (Nat.le_of_ble_eq_true rfl) dL_law_639 ?_
  rintro _ G2 ⟨rfl, hM2, hf2⟩
  exact js_icmp_eq (pc := 642) (tgt := 854) F dL_law_642 (by decide) (fun _ => hend _ _ (hJ1.frM hf2) hM2) (fun h => absurd rfl h)
set_option maxHeartbeats 4000000 in
theorem lw_c16 {X : js_X} {y : js_L} {b L i : Nat} {xs : Nat → Int32} {Q : State → Prop} {c : js_C} {G : js_G} (F : js_F X y cL_law 4 RL wsL_law 10 356) (S : lw_S X y b L xs) (hi : i + 4 ≤ L) (hJ : jr_C G c) (hM : mr_C G c) (hend : ∀ (G2 : js_G) (c2 : js_C), jr_C G2 c2 → mr_C G2 c2 → js_W X y 4 Q G2 854 (lwv y b i) []) : js_W X y 4 Q G 647 (lwv y b i) [] := by
  refine js_aload_n (pc := 647) 1 F rfl dL_law_647 ?_
  refine js_arg (pc := 648) (k := 1) F S (by decide) (by omega) dL_law_648 dL_law_649 dL_law_650 dL_law_651 dL_law_652 ?_
  refine js_arg (pc := 653) (k := 2) F S (by decide) (by omega) dL_law_653 dL_law_654 dL_law_655 dL_law_656 dL_law_657 ?_
  refine js_calli (pc := 658) F (cx_nextNew _ F.2.2.2.1 hJ (xs (i + 1)) (xs (i + 2))) mf_X4_nextNew gL_law_X4_nextNew rfl (by decide) (by decide) (js_ct_X) rfl rfl rfl (Nat.le_of_ble_eq_true rfl) dL_law_658 ?_
  rintro _ G1 ⟨rfl, hJ1, hf1⟩
  refine js_aload_n (pc := 661) 2 F rfl dL_law_661 ?_
  refine js_arg (pc := 662) (k := 1) F S (by decide) (by omega) dL_law_662 dL_law_663 dL_law_664 dL_law_665 dL_law_666 ?_
  refine js_arg (pc := 667) (k := 2) F S (by decide) (by omega) dL_law_667 dL_law_668 dL_law_669 dL_law_670 dL_law_671 ?_
  refine js_calli (pc := 672) F (cm_nextNew _ F.2.2.2.1 (hM.frX hf1) (xs (i + 1)) (xs (i + 2))) mf_X5_nextNew gL_law_X5_nextNew rfl (by decide) (by decide) (js_ct_M) rfl rfl rfl (Nat.le_of_ble_eq_true rfl) dL_law_672 ?_
  rintro _ G2 ⟨rfl, hM2, hf2⟩
  exact js_icmp_eq (pc := 675) (tgt := 854) F dL_law_675 (by decide) (fun _ => hend _ _ (hJ1.frM hf2) hM2) (fun h => absurd rfl h)
set_option maxHeartbeats 4000000 in
theorem lw_c17 {X : js_X} {y : js_L} {b L i : Nat} {xs : Nat → Int32} {Q : State → Prop} {c : js_C} {G : js_G} (F : js_F X y cL_law 4 RL wsL_law 10 356) (S : lw_S X y b L xs) (hi : i + 4 ≤ L) (hJ : jr_C G c) (hM : mr_C G c) (hend : ∀ (G2 : js_G) (c2 : js_C), jr_C G2 c2 → mr_C G2 c2 → js_W X y 4 Q G2 854 (lwv y b i) []) : js_W X y 4 Q G 680 (lwv y b i) [] := by
  refine js_aload_n (pc := 680) 1 F rfl dL_law_680 ?_
  refine js_arg (pc := 681) (k := 1) F S (by decide) (by omega) dL_law_681 dL_law_682 dL_law_683 dL_law_684 dL_law_685 ?_
  refine js_calli (pc := 686) F (cx_bestSalt _ F.2.2.2.1 hJ (xs (i + 1))) mf_X4_bestSalt gL_law_X4_bestSalt rfl (by decide) (by decide) (js_ct_X) rfl rfl rfl (Nat.le_of_ble_eq_true rfl) dL_law_686 ?_
  rintro _ G1 ⟨rfl, hJ1, hf1⟩
  refine js_aload_n (pc := 689) 2 F rfl dL_law_689 ?_
  refine js_arg (pc := 690) (k := 1) F S (by decide) (by omega) dL_law_690 dL_law_691 dL_law_692 dL_law_693 dL_law_694 ?_
  refine js_calli (pc := 695) F (cm_bestSalt _ F.2.2.2.1 (hM.frX hf1) (xs (i + 1))) mf_X5_bestSalt gL_law_X5_bestSalt rfl (by decide) (by decide) (js_ct_M) rfl rfl rfl (Nat.le_of_ble_eq_true rfl) dL_law_695 ?_
  rintro _ G2 ⟨rfl, hM2, hf2⟩
  exact js_icmp_eq (pc := 698) (tgt := 854) F dL_law_698 (by decide) (fun _ => hend _ _ (hJ1.frM hf2) hM2) (fun h => absurd rfl h)
set_option maxHeartbeats 4000000 in
theorem lw_c18 {X : js_X} {y : js_L} {b L i : Nat} {xs : Nat → Int32} {Q : State → Prop} {c : js_C} {G : js_G} (F : js_F X y cL_law 4 RL wsL_law 10 356) (S : lw_S X y b L xs) (hi : i + 4 ≤ L) (hJ : jr_C G c) (hM : mr_C G c) (hend : ∀ (G2 : js_G) (c2 : js_C), jr_C G2 c2 → mr_C G2 c2 → js_W X y 4 Q G2 854 (lwv y b i) []) : js_W X y 4 Q G 703 (lwv y b i) [] := by
  refine js_aload_n (pc := 703) 1 F rfl dL_law_703 ?_
  refine js_arg (pc := 704) (k := 1) F S (by decide) (by omega) dL_law_704 dL_law_705 dL_law_706 dL_law_707 dL_law_708 ?_
  refine js_i2l (pc := 709) F dL_law_709 ?_
  refine js_bipush (pc := 710) (v := nI 32) F (by decide) dL_law_710 ?_
  refine js_lshl (pc := 712) F dL_law_712 ?_
  refine js_arg (pc := 713) (k := 2) F S (by decide) (by omega) dL_law_713 dL_law_714 dL_law_715 dL_law_716 dL_law_717 ?_
  refine js_i2l (pc := 718) F dL_law_718 ?_
  refine js_ldc2 (pc := 719) F lk_L_long dL_law_719 ?_
  refine js_land (pc := 722) F dL_law_722 ?_
  refine js_lor (pc := 723) F dL_law_723 ?_
  refine js_anyL (fun n hn en => ?_)
  refine js_calli (pc := 724) F (c_X4_put _ F.2.2.2.1 hJ hn) mf_X4_put gL_law_X4_put rfl (by decide) (by decide) (js_ct_X) rfl rfl rfl (Nat.le_of_ble_eq_true rfl) dL_law_724 ?_
  rintro _ G1 ⟨rfl, hJ1, hf1⟩
  refine js_aload_n (pc := 727) 2 F rfl dL_law_727 ?_
  refine js_arg (pc := 728) (k := 1) F S (by decide) (by omega) dL_law_728 dL_law_729 dL_law_730 dL_law_731 dL_law_732 ?_
  refine js_i2l (pc := 733) F dL_law_733 ?_
  refine js_bipush (pc := 734) (v := nI 32) F (by decide) dL_law_734 ?_
  refine js_lshl (pc := 736) F dL_law_736 ?_
  refine js_arg (pc := 737) (k := 2) F S (by decide) (by omega) dL_law_737 dL_law_738 dL_law_739 dL_law_740 dL_law_741 ?_
  refine js_i2l (pc := 742) F dL_law_742 ?_
  refine js_ldc2 (pc := 743) F lk_L_long dL_law_743 ?_
  refine js_land (pc := 746) F dL_law_746 ?_
  refine js_lor (pc := 747) F dL_law_747 ?_
  rw [en]
  refine js_calli (pc := 748) F (c_X5_put _ F.2.2.2.1 (hM.frX hf1) hn) mf_X5_put gL_law_X5_put rfl (by decide) (by decide) (js_ct_M) rfl rfl rfl (Nat.le_of_ble_eq_true rfl) dL_law_748 ?_
  rintro _ G2 ⟨rfl, hM2, hf2⟩
  exact js_icmp_eq (pc := 751) (tgt := 854) F dL_law_751 (by decide) (fun _ => hend _ _ (hJ1.frM hf2) hM2) (fun h => absurd rfl h)
set_option maxHeartbeats 4000000 in
theorem lw_c19 {X : js_X} {y : js_L} {b L i : Nat} {xs : Nat → Int32} {Q : State → Prop} {c : js_C} {G : js_G} (F : js_F X y cL_law 4 RL wsL_law 10 356) (S : lw_S X y b L xs) (hi : i + 4 ≤ L) (hJ : jr_C G c) (hM : mr_C G c) (hend : ∀ (G2 : js_G) (c2 : js_C), jr_C G2 c2 → mr_C G2 c2 → js_W X y 4 Q G2 854 (lwv y b i) []) : js_W X y 4 Q G 756 (lwv y b i) [] := by
  refine js_aload_n (pc := 756) 1 F rfl dL_law_756 ?_
  refine js_calli (pc := 757) F (c_X4_wipe _ F.2.2.2.1 hJ) mf_X4_wipe gL_law_X4_wipe rfl (by decide) (by decide) (js_ct_X) rfl rfl rfl (Nat.le_of_ble_eq_true rfl) dL_law_757 ?_
  rintro _ G1 ⟨rfl, hJ1, hf1⟩
  refine js_aload_n (pc := 760) 2 F rfl dL_law_760 ?_
  refine js_calli (pc := 761) F (c_X5_wipe_2 _ F.2.2.2.1 (hM.frX hf1)) mf_X5_wipe gL_law_X5_wipe rfl (by decide) (by decide) (js_ct_M) rfl rfl rfl (Nat.le_of_ble_eq_true rfl) dL_law_761 ?_
  rintro _ G2 ⟨rfl, hM2, hf2⟩
  exact js_icmp_eq (pc := 764) (tgt := 854) F dL_law_764 (by decide) (fun _ => hend _ _ (hJ1.frM hf2) hM2) (fun h => absurd rfl h)
set_option maxHeartbeats 4000000 in
theorem lw_c20 {X : js_X} {y : js_L} {b L i : Nat} {xs : Nat → Int32} {Q : State → Prop} {c : js_C} {G : js_G} (F : js_F X y cL_law 4 RL wsL_law 10 356) (S : lw_S X y b L xs) (hi : i + 4 ≤ L) (hJ : jr_C G c) (hM : mr_C G c) (hend : ∀ (G2 : js_G) (c2 : js_C), jr_C G2 c2 → mr_C G2 c2 → js_W X y 4 Q G2 854 (lwv y b i) []) : js_W X y 4 Q G 769 (lwv y b i) [] := by
  refine js_aload_n (pc := 769) 1 F rfl dL_law_769 ?_
  refine js_calli (pc := 770) F (c_X4_fault _ F.2.2.2.1 hJ) mf_X4_fault gL_law_X4_fault rfl (by decide) (by decide) (js_ct_X) rfl rfl rfl (Nat.le_of_ble_eq_true rfl) dL_law_770 ?_
  rintro _ G1 ⟨rfl, hJ1, hf1⟩
  refine js_aload_n (pc := 773) 2 F rfl dL_law_773 ?_
  refine js_calli (pc := 774) F (c_X5_fault _ F.2.2.2.1 (hM.frX hf1)) mf_X5_fault gL_law_X5_fault rfl (by decide) (by decide) (js_ct_M) rfl rfl rfl (Nat.le_of_ble_eq_true rfl) dL_law_774 ?_
  rintro _ G2 ⟨rfl, hM2, hf2⟩
  exact js_icmp_eq (pc := 777) (tgt := 854) F dL_law_777 (by decide) (fun _ => hend _ _ (hJ1.frM hf2) hM2) (fun h => absurd rfl h)
set_option maxHeartbeats 4000000 in
theorem lw_c21 {X : js_X} {y : js_L} {b L i : Nat} {xs : Nat → Int32} {Q : State → Prop} {c : js_C} {G : js_G} (F : js_F X y cL_law 4 RL wsL_law 10 356) (S : lw_S X y b L xs) (hi : i + 4 ≤ L) (hJ : jr_C G c) (hM : mr_C G c) (hend : ∀ (G2 : js_G) (c2 : js_C), jr_C G2 c2 → mr_C G2 c2 → js_W X y 4 Q G2 854 (lwv y b i) []) : js_W X y 4 Q G 782 (lwv y b i) [] := by
  refine js_aload_n (pc := 782) 1 F rfl dL_law_782 ?_
  refine js_calli (pc := 783) F (c_X4_carryOut _ F.2.2.2.1 hJ) mf_X4_carryOut gL_law_X4_carryOut rfl (by decide) (by decide) (js_ct_X) rfl rfl rfl (Nat.le_of_ble_eq_true rfl) dL_law_783 ?_
  rintro _ G1 ⟨rfl, hJ1, hf1⟩
  refine js_aload_n (pc := 786) 2 F rfl dL_law_786 ?_
  refine js_calli (pc := 787) F (c_X5_carryOut _ F.2.2.2.1 (hM.frX hf1)) mf_X5_carryOut gL_law_X5_carryOut rfl (by decide) (by decide) (js_ct_M) rfl rfl rfl (Nat.le_of_ble_eq_true rfl) dL_law_787 ?_
  rintro _ G2 ⟨rfl, hM2, hf2⟩
  exact js_icmp_eq (pc := 790) (tgt := 854) F dL_law_790 (by decide) (fun _ => hend _ _ (hJ1.frM hf2) hM2) (fun h => absurd rfl h)
set_option maxHeartbeats 4000000 in
theorem lw_c22 {X : js_X} {y : js_L} {b L i : Nat} {xs : Nat → Int32} {Q : State → Prop} {c : js_C} {G : js_G} (F : js_F X y cL_law 4 RL wsL_law 10 356) (S : lw_S X y b L xs) (hi : i + 4 ≤ L) (hJ : jr_C G c) (hM : mr_C G c) (hend : ∀ (G2 : js_G) (c2 : js_C), jr_C G2 c2 → mr_C G2 c2 → js_W X y 4 Q G2 854 (lwv y b i) []) : js_W X y 4 Q G 795 (lwv y b i) [] := by
  refine js_aload_n (pc := 795) 1 F rfl dL_law_795 ?_
  refine js_calli (pc := 796) F (cx_undo _ F.2.2.2.1 hJ) mf_X4_undo gL_law_X4_undo rfl (by decide) (by decide) (js_ct_X) rfl rfl rfl (Nat.le_of_ble_eq_true rfl) dL_law_796 ?_
  rintro _ G1 ⟨rfl, hJ1, hf1⟩
  refine js_aload_n (pc := 799) 2 F rfl dL_law_799 ?_
  refine js_calli (pc := 800) F (cm_undo _ F.2.2.2.1 (hM.frX hf1)) mf_X5_undo gL_law_X5_undo rfl (by decide) (by decide) (js_ct_M) rfl rfl rfl (Nat.le_of_ble_eq_true rfl) dL_law_800 ?_
  rintro _ G2 ⟨rfl, hM2, hf2⟩
  exact js_icmp_eq (pc := 803) (tgt := 854) F dL_law_803 (by decide) (fun _ => hend _ _ (hJ1.frM hf2) hM2) (fun h => absurd rfl h)
set_option maxHeartbeats 4000000 in
theorem lw_c23 {X : js_X} {y : js_L} {b L i : Nat} {xs : Nat → Int32} {Q : State → Prop} {c : js_C} {G : js_G} (F : js_F X y cL_law 4 RL wsL_law 10 356) (S : lw_S X y b L xs) (hi : i + 4 ≤ L) (hJ : jr_C G c) (hM : mr_C G c) (hend : ∀ (G2 : js_G) (c2 : js_C), jr_C G2 c2 → mr_C G2 c2 → js_W X y 4 Q G2 854 (lwv y b i) []) : js_W X y 4 Q G 808 (lwv y b i) [] := by
  refine js_aload_n (pc := 808) 1 F rfl dL_law_808 ?_
  refine js_arg (pc := 809) (k := 1) F S (by decide) (by omega) dL_law_809 dL_law_810 dL_law_811 dL_law_812 dL_law_813 ?_
  refine js_calli (pc := 814) F (cx_save _ F.2.2.2.1 hJ (xs (i + 1))) mf_X4_save gL_law_X4_save rfl (by decide) (by decide) (js_ct_X) rfl rfl rfl (Nat.le_of_ble_eq_true rfl) dL_law_814 ?_
  rintro _ G1 ⟨rfl, hJ1, hf1⟩
  refine js_aload_n (pc := 817) 2 F rfl dL_law_817 ?_
  refine js_arg (pc := 818) (k := 1) F S (by decide) (by omega) dL_law_818 dL_law_819 dL_law_820 dL_law_821 dL_law_822 ?_
  refine js_calli (pc := 823) F (cm_save _ F.2.2.2.1 (hM.frX hf1) (xs (i + 1))) mf_X5_save gL_law_X5_save rfl (by decide) (by decide) (js_ct_M) rfl rfl rfl (Nat.le_of_ble_eq_true rfl) dL_law_823 ?_
  rintro _ G2 ⟨rfl, hM2, hf2⟩
  exact js_icmp_eq (pc := 826) (tgt := 854) F dL_law_826 (by decide) (fun _ => hend _ _ (hJ1.frM hf2) hM2) (fun h => absurd rfl h)
set_option maxHeartbeats 4000000 in
theorem lw_c24 {X : js_X} {y : js_L} {b L i : Nat} {xs : Nat → Int32} {Q : State → Prop} {c : js_C} {G : js_G} (F : js_F X y cL_law 4 RL wsL_law 10 356) (S : lw_S X y b L xs) (hi : i + 4 ≤ L) (hJ : jr_C G c) (hM : mr_C G c) (hend : ∀ (G2 : js_G) (c2 : js_C), jr_C G2 c2 → mr_C G2 c2 → js_W X y 4 Q G2 854 (lwv y b i) []) : js_W X y 4 Q G 831 (lwv y b i) [] := by
  refine js_aload_n (pc := 831) 1 F rfl dL_law_831 ?_
  refine js_arg (pc := 832) (k := 1) F S (by decide) (by omega) dL_law_832 dL_law_833 dL_law_834 dL_law_835 dL_law_836 ?_
  refine js_calli (pc := 837) F (cx_restore _ F.2.2.2.1 hJ (xs (i + 1))) mf_X4_restore gL_law_X4_restore rfl (by decide) (by decide) (js_ct_X) rfl rfl rfl (Nat.le_of_ble_eq_true rfl) dL_law_837 ?_
  rintro _ G1 ⟨rfl, hJ1, hf1⟩
  refine js_aload_n (pc := 840) 2 F rfl dL_law_840 ?_
  refine js_arg (pc := 841) (k := 1) F S (by decide) (by omega) dL_law_841 dL_law_842 dL_law_843 dL_law_844 dL_law_845 ?_
  refine js_calli (pc := 846) F (cm_restore _ F.2.2.2.1 (hM.frX hf1) (xs (i + 1))) mf_X5_restore gL_law_X5_restore rfl (by decide) (by decide) (js_ct_M) rfl rfl rfl (Nat.le_of_ble_eq_true rfl) dL_law_846 ?_
  rintro _ G2 ⟨rfl, hM2, hf2⟩
  exact js_icmp_eq (pc := 849) (tgt := 854) F dL_law_849 (by decide) (fun _ => hend _ _ (hJ1.frM hf2) hM2) (fun h => absurd rfl h)
set_option maxHeartbeats 4000000 in
set_option maxRecDepth 100000 in
theorem lw_loop {X : js_X} {y : js_L} {b L : Nat} {xs : Nat → Int32} {Q : State → Prop} (F : js_F X y cL_law 4 RL wsL_law 10 356) (S : lw_S X y b L xs) (hfin : ∀ (G : js_G) (i : Nat), js_W X y 4 Q G 861 (lwv y b i) [.int 1]) : ∀ (fu i : Nat) (G : js_G) (c : js_C), i ≤ 2052 → jr_C G c → mr_C G c → 2052 - i < fu → js_W X y 4 Q G 18 (lwv y b i) [] := by
  intro fu
  induction fu with
  | zero => intro i G c hi hJ hM hfu; exact absurd hfu (Nat.not_lt_zero _)
  | succ fu ih =>
    intro i G c hi0 hJ hM hfu
    have hL := S.2.2.2
    refine js_iload_n (pc := 18) 3 F rfl dL_law_18 ?_
    refine js_aload_n (pc := 19) 0 F rfl dL_law_19 ?_
    refine js_slen (pc := 20) F S dL_law_20 ?_
    refine js_iconst (pc := 21) (v := nI 4) F (by decide) dL_law_21 ?_
    refine js_isub (pc := 22) F dL_law_22 ?_
    refine js_icmp_gt (pc := 23) (tgt := 860) F dL_law_23 (by decide) (fun h => ?_) (fun h => ?_)
    · refine js_iconst (pc := 860) (v := 1) F (by decide) dL_law_860 ?_
      exact hfin _ _
    have hi := lw_lim hL (by omega) h
    refine js_aload_n (pc := 26) 0 F rfl dL_law_26 ?_
    refine js_iload_n (pc := 27) 3 F rfl dL_law_27 ?_
    refine js_sld (pc := 28) F S (by omega) dL_law_28 ?_
    refine js_bipush (pc := 29) (v := nI 31) F (by decide) dL_law_29 ?_
    refine js_iand (pc := 31) F dL_law_31 ?_
    have hend : ∀ (G2 : js_G) (c2 : js_C), jr_C G2 c2 → mr_C G2 c2 → js_W X y 4 Q G2 854 (lwv y b i) [] := by
      intro G2 c2 hJ2 hM2
      refine js_iinc (pc := 854) (v := nI (i + 4)) (lv2 := lwv y b (i + 4)) F dL_law_854 3 rfl (nI_add _ _) (by decide) [1, 2, 3, 0] rfl ?_
      refine js_goto (pc := 857) (tgt := 18) F dL_law_857 (by decide) ?_
      exact ih (i + 4) G2 c2 (by omega) hJ2 hM2 (by omega)
    obtain ⟨z, hz⟩ : ∃ z, z = xs i &&& nI 31 := ⟨_, rfl⟩
    rw [← hz]
    clear hz
    rcases jb_or z (n := 25) (by decide) with hw | ⟨k, hk, rfl⟩
    · refine js_tableOut (pc := 32) (tgt := 854) F dL_law_32 (by have := jb_sw (n := 25) (by decide) hw; omega) (by decide) ?_
      exact hend G c hJ hM
    rcases (show k = 0 ∨ k = 1 ∨ k = 2 ∨ k = 3 ∨ k = 4 ∨ k = 5 ∨ k = 6 ∨ k = 7 ∨ k = 8 ∨ k = 9 ∨ k = 10 ∨ k = 11 ∨ k = 12 ∨ k = 13 ∨ k = 14 ∨ k = 15 ∨ k = 16 ∨ k = 17 ∨ k = 18 ∨ k = 19 ∨ k = 20 ∨ k = 21 ∨ k = 22 ∨ k = 23 ∨ k = 24 by omega) with rfl | rfl | rfl | rfl | rfl | rfl | rfl | rfl | rfl | rfl | rfl | rfl | rfl | rfl | rfl | rfl | rfl | rfl | rfl | rfl | rfl | rfl | rfl | rfl | rfl
    · exact js_tableIn (pc := 32) (off := 116) (tgt := 148) F dL_law_32 (by decide) (by decide) (by decide) (by decide) (lw_c0 F S hi hJ hM hend)
    · exact js_tableIn (pc := 32) (off := 139) (tgt := 171) F dL_law_32 (by decide) (by decide) (by decide) (by decide) (lw_c1 F S hi hJ hM hend)
    · exact js_tableIn (pc := 32) (off := 172) (tgt := 204) F dL_law_32 (by decide) (by decide) (by decide) (by decide) (lw_c2 F S hi hJ hM hend)
    · exact js_tableIn (pc := 32) (off := 205) (tgt := 237) F dL_law_32 (by decide) (by decide) (by decide) (by decide) (lw_c3 F S hi hJ hM hend)
    · exact js_tableIn (pc := 32) (off := 248) (tgt := 280) F dL_law_32 (by decide) (by decide) (by decide) (by decide) (lw_c4 F S hi hJ hM hend)
    · exact js_tableIn (pc := 32) (off := 281) (tgt := 313) F dL_law_32 (by decide) (by decide) (by decide) (by decide) (lw_c5 F S hi hJ hM hend)
    · exact js_tableIn (pc := 32) (off := 304) (tgt := 336) F dL_law_32 (by decide) (by decide) (by decide) (by decide) (lw_c6 F S hi hJ hM hend)
    · exact js_tableIn (pc := 32) (off := 327) (tgt := 359) F dL_law_32 (by decide) (by decide) (by decide) (by decide) (lw_c7 F S hi hJ hM hend)
    · exact js_tableIn (pc := 32) (off := 370) (tgt := 402) F dL_law_32 (by decide) (by decide) (by decide) (by decide) (lw_c8 F S hi hJ hM hend)
    · exact js_tableIn (pc := 32) (off := 403) (tgt := 435) F dL_law_32 (by decide) (by decide) (by decide) (by decide) (lw_c9 F S hi hJ hM hend)
    · exact js_tableIn (pc := 32) (off := 436) (tgt := 468) F dL_law_32 (by decide) (by decide) (by decide) (by decide) (lw_c10 F S hi hJ hM hend)
    · exact js_tableIn (pc := 32) (off := 470) (tgt := 502) F dL_law_32 (by decide) (by decide) (by decide) (by decide) (lw_c11 F S hi hJ hM hend)
    · exact js_tableIn (pc := 32) (off := 503) (tgt := 535) F dL_law_32 (by decide) (by decide) (by decide) (by decide) (lw_c12 F S hi hJ hM hend)
    · exact js_tableIn (pc := 32) (off := 526) (tgt := 558) F dL_law_32 (by decide) (by decide) (by decide) (by decide) (lw_c13 F S hi hJ hM hend)
    · exact js_tableIn (pc := 32) (off := 559) (tgt := 591) F dL_law_32 (by decide) (by decide) (by decide) (by decide) (lw_c14 F S hi hJ hM hend)
    · exact js_tableIn (pc := 32) (off := 592) (tgt := 624) F dL_law_32 (by decide) (by decide) (by decide) (by decide) (lw_c15 F S hi hJ hM hend)
    · exact js_tableIn (pc := 32) (off := 615) (tgt := 647) F dL_law_32 (by decide) (by decide) (by decide) (by decide) (lw_c16 F S hi hJ hM hend)
    · exact js_tableIn (pc := 32) (off := 648) (tgt := 680) F dL_law_32 (by decide) (by decide) (by decide) (by decide) (lw_c17 F S hi hJ hM hend)
    · exact js_tableIn (pc := 32) (off := 671) (tgt := 703) F dL_law_32 (by decide) (by decide) (by decide) (by decide) (lw_c18 F S hi hJ hM hend)
    · exact js_tableIn (pc := 32) (off := 724) (tgt := 756) F dL_law_32 (by decide) (by decide) (by decide) (by decide) (lw_c19 F S hi hJ hM hend)
    · exact js_tableIn (pc := 32) (off := 737) (tgt := 769) F dL_law_32 (by decide) (by decide) (by decide) (by decide) (lw_c20 F S hi hJ hM hend)
    · exact js_tableIn (pc := 32) (off := 750) (tgt := 782) F dL_law_32 (by decide) (by decide) (by decide) (by decide) (lw_c21 F S hi hJ hM hend)
    · exact js_tableIn (pc := 32) (off := 763) (tgt := 795) F dL_law_32 (by decide) (by decide) (by decide) (by decide) (lw_c22 F S hi hJ hM hend)
    · exact js_tableIn (pc := 32) (off := 776) (tgt := 808) F dL_law_32 (by decide) (by decide) (by decide) (by decide) (lw_c23 F S hi hJ hM hend)
    · exact js_tableIn (pc := 32) (off := 799) (tgt := 831) F dL_law_32 (by decide) (by decide) (by decide) (by decide) (lw_c24 F S hi hJ hM hend)
