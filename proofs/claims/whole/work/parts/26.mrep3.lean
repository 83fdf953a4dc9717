/-! texts, as the reference reads them -/
theorem jn_ne1 {n : Nat} (h : n < 2 ^ 31) (e : nI n = -1) : False := by
  have h2 : (nI n).toInt = (-1 : Int32).toInt := congrArg Int32.toInt e
  rw [nI_toInt h, show (-1 : Int32).toInt = -1 from rfl] at h2
  omega
theorem jw_dig {q m : Nat} (hq : q ≤ 126) (hm : m ≤ 9) : (nI 0 ≤ nI q - nI 48 ∧ nI q - nI 48 ≤ nI m) ↔ (48 ≤ q ∧ q ≤ 48 + m) := by
  rw [Int32.le_iff_toInt_le, Int32.le_iff_toInt_le, pk_sub_toInt (by omega) (by omega), nI_toInt (show m < 2 ^ 31 by omega), nI_toInt (show 0 < 2 ^ 31 by decide)]
  omega
theorem jw_digi {q m : Nat} (hq : q ≤ 126) (hm : m ≤ 9) : (if nI 0 ≤ nI q - nI 48 ∧ nI q - nI 48 ≤ nI m then 1 else 0) = (if 48 ≤ q ∧ q ≤ 48 + m then 1 else 0) := by
  by_cases h : nI 0 ≤ nI q - nI 48 ∧ nI q - nI 48 ≤ nI m
  · rw [if_pos h, if_pos ((jw_dig hq hm).mp h)]
  · rw [if_neg h, if_neg (fun z => h ((jw_dig hq hm).mpr z))]
theorem jw_dig1 {m : Nat} : ¬ (nI 0 ≤ (-1 : Int32) - nI 48 ∧ (-1 : Int32) - nI 48 ≤ nI m) := by
  rintro ⟨a, -⟩
  have a2 := Int32.le_iff_toInt_le.mp a
  rw [nI_toInt (by decide), show ((-1 : Int32) - nI 48).toInt = -49 from rfl] at a2
  omega
theorem jw_di {q lo hi : Nat} (hq : q < 2 ^ 31) (hlo : lo < 2 ^ 31) (hhi : hi < 2 ^ 31) : (if nI lo ≤ nI q ∧ nI q ≤ nI hi then 1 else 0) = (if lo ≤ q ∧ q ≤ hi then 1 else 0) := by
  by_cases h : lo ≤ q ∧ q ≤ hi
  · rw [if_pos h, if_pos ⟨(nI_leI hlo hq).mpr h.1, (nI_leI hq hhi).mpr h.2⟩]
  · rw [if_neg h, if_neg (fun z => h ⟨(nI_leI hlo hq).mp z.1, (nI_leI hq hhi).mp z.2⟩)]
theorem jw_d1 : ¬ (nI 48 ≤ (-1 : Int32) ∧ (-1 : Int32) ≤ nI 57) := by decide
theorem mr_P.at {G : js_G} {p : List Nat} {a : Nat} (h : mr_P G p) (ha : a < p.length) : G 196 a = nI (jq p a) := (h.2.2 a ha).1
theorem mr_P.q {G : js_G} {p : List Nat} (h : mr_P G p) (a : Nat) : jq p a ≤ 126 := by
  rcases Nat.lt_or_ge a p.length with q | q
  · exact (h.2.2 a q).2.2
  · unfold jq; simp [List.getD, q]
theorem mr_P.q1 {G : js_G} {p : List Nat} (h : mr_P G p) {a : Nat} (ha : a < p.length) : 33 ≤ jq p a := (h.2.2 a ha).2.1
/-- the numbers that were read -/
def mr_N (G : js_G) (ns : List Nat) : Prop := ∀ k, k < ns.length → G 198 k = nI (ns.getD k 0)
theorem mr_N.nil {G : js_G} : mr_N G [] := fun _ hk => absurd hk (Nat.not_lt_zero _)
theorem mr_N.st {G : js_G} {ns : List Nat} {i : Nat} {v : Int32} (h : mr_N G ns) : mr_N (js_st G 191 i v) ns := fun k hk => by rw [js_st_n (by decide)]; exact h k hk
theorem mr_N.push {G : js_G} {ns : List Nat} {v : Nat} (h : mr_N G ns) : mr_N (js_st G 198 ns.length (nI v)) (ns ++ [v]) := by
  intro k hk
  rw [js_st_s]
  simp only [List.length_append, List.length_cons, List.length_nil] at hk
  by_cases q : k = ns.length
  · subst q; simp [upd]
  · rw [upd, if_neg q, h k (by omega)]
    congr 1
    simp [List.getD, List.getElem?_append_left (show k < ns.length by omega)]
/-- a reading of numbers leaves the order's sketch and letter -/
def mfN (G G' : js_G) : Prop := mfX G G' ∧ G' 191 9 = G 191 9 ∧ G' 191 10 = G 191 10
theorem mfN.rf {G : js_G} : mfN G G := ⟨mfX.rf, rfl, rfl⟩
theorem mfN.tr {G G1 G2 : js_G} (h : mfN G G1) (h2 : mfN G1 G2) : mfN G G2 := ⟨h.1.tr h2.1, h2.2.1.trans h.2.1, h2.2.2.trans h.2.2⟩
theorem mfN.st {G : js_G} {i : Nat} {v : Int32} (h : i ≠ 2) (h2 : i ≠ 6) (h3 : i ≠ 9) (h4 : i ≠ 10) : mfN G (js_st G 191 i v) := ⟨mfX.st h h2, by rw [js_st_s]; exact if_neg (Ne.symm h3), by rw [js_st_s]; exact if_neg (Ne.symm h4)⟩
theorem mfN.a {G : js_G} {v : Int32} : mfN G (js_st G 191 8 v) := mfN.st (by decide) (by decide) (by decide) (by decide)
theorem mfN.m {G : js_G} {v : Int32} : mfN G (js_st G 191 12 v) := mfN.st (by decide) (by decide) (by decide) (by decide)
theorem mfN.n {G : js_G} {i : Nat} {v : Int32} : mfN G (js_st G 198 i v) := ⟨mfX.stn, by rw [js_st_n (by decide)], by rw [js_st_n (by decide)]⟩
theorem mfN.P {G G' : js_G} {p : List Nat} (h : mfN G G') (hP : mr_P G p) : mr_P G' p := hP.mfX h.1
theorem jp_things_s {p : List Nat} {n a v z : Nat} {ns : List Nat} (h : jp_num p a = some (v, z)) : jp_things p (n + 1) a ns = if jq p z = 44 then jp_things p n (z + 1) (ns ++ [v]) else (true, z, ns ++ [v]) := by
  simp only [jp_things, h]
/-- what a reading of an order's rest leaves -/
def mp_post (t : Bool × Nat × List Nat) (verb : Nat) (r : Int32) (G G' : js_G) : Prop := r = nI (if t.1 = true then 1 else 0) ∧ G' 191 8 = nI t.2.1 ∧ (t.1 = true → mr_N G' t.2.2 ∧ (verb = 58 → G' 191 12 = nI t.2.2.length)) ∧ mfN G G'
def mp_po (p : List Nat) (a : Nat) (r : Int32) (G G' : js_G) : Prop := r = nI (if (jp_ord p a).1 = true then 1 else 0) ∧ G' 191 8 = nI (jp_ord p a).2.1 ∧ ((jp_ord p a).1 = true → mr_N G' (jp_ord p a).2.2 ∧ (jq p (a + 1) = 58 → G' 191 12 = nI (jp_ord p a).2.2.length) ∧ G' 191 9 = nI (jq p a - 48) ∧ G' 191 10 = nI (jq p (a + 1))) ∧ mfX G G'
theorem mp_post_of {p : List Nat} {a verb : Nat} {r : Int32} {G G' : js_G} {t : Bool × Nat × List Nat} (ho : jp_ord p a = t) (h : mp_post t verb r G G') : mp_post (jp_ord p a) verb r G G' := by rw [ho]; exact h
theorem mr_T.N {G G' : js_G} {s : js_T} {k o : Nat} (h : mr_T G k o s) (hf : mfX G G') (h1 : k ≠ 191) (h2 : k ≠ 197) (h3 : k ≠ 198) : mr_T G' k o s := h.co (hf.1 k h1 h2 h3)
/-- what an order that is carried out may change -/
def mfD (G G' : js_G) : Prop := ∀ a, a ≠ 192 → a ≠ 197 → G' a = G a
theorem mfD.S {s : Nat} {G G' : js_G} (h : mfS s G G') : mfD G G' := fun a x _ => h.1 a x
theorem mfD.rf {G : js_G} : mfD G G := fun _ _ _ => rfl
theorem mfD.tr {G G1 G2 : js_G} (h : mfD G G1) (h2 : mfD G1 G2) : mfD G G2 := fun a x z => (h2 a x z).trans (h a x z)
theorem mfD.R {G G' : js_G} (h : mfR G G') : mfD G G' := fun a _ z => h a z
theorem jo_one_empty {i : Nat} {ns : List Nat} {s : js_T} {verb : Nat} (h : verb ≠ 58 ∧ verb ≠ 38 ∧ verb ≠ 42 ∧ verb ≠ 47) : jo_one verb i ns s = some (jm_sk s i (jm_e (s.2 i))) := by
  unfold jo_one; rw [if_neg h.1, if_neg h.2.1, if_neg h.2.2.1, if_neg h.2.2.2]
theorem jp_ns_len {p : List Nat} {a : Nat} (h : (jp_ord p a).1 = true) : (jp_ord p a).2.2.length ≤ 80 := (jp_ord_ok h).1
/-- a text without a fault: behind an order stands a ';' and another order, or the end -/
theorem jp_nofault {p : List Nat} {n b : Nat} (h : jp_fault p (n + 1) b = none) : (jp_ord p b).1 = true ∧ ((jq p (jp_ord p b).2.1 = 59 ∧ jp_fault p n ((jp_ord p b).2.1 + 1) = none) ∨ (¬ jq p (jp_ord p b).2.1 = 59 ∧ (jp_ord p b).2.1 = p.length)) := by
  rw [jp_fault] at h
  by_cases h1 : (jp_ord p b).1 = true
  · rw [if_pos h1] at h
    refine ⟨h1, ?_⟩
    by_cases h2 : jq p (jp_ord p b).2.1 = 59
    · rw [if_pos h2] at h; exact Or.inl ⟨h2, h⟩
    · rw [if_neg h2] at h
      by_cases h3 : (jp_ord p b).2.1 = p.length
      · exact Or.inr ⟨h2, h3⟩
      · rw [if_neg h3] at h; cases h
  · rw [if_neg h1] at h; cases h
theorem jp_nofault_lt {p : List Nat} {n b : Nat} (h : jp_fault p n b = none) : b < p.length := by
  cases n with
  | zero => cases h
  | succ n => exact jq_lt (by have := (jp_ord_s (jp_nofault h).1).1; omega)
/-- where the reference stands between two orders: k orders are done -/
def jk_inv (p : List Nat) (s0 : js_T) (k b : Nat) (s : js_T) (g : Nat) : Prop := (g = 1 ∧ 3 * k ≤ b ∧ jp_fault p (80 - k) b = none ∧ jo_run p 80 0 s0 0 = jo_run p (80 - k) b s k) ∨ ((g = 0 ∨ p.length ≤ b) ∧ jo_run p 80 0 s0 0 = (s, k))
/-- the order at b can't be carried out -/
theorem jk_none {p : List Nat} {s0 s : js_T} {k b b' : Nat} (h : jk_inv p s0 k b s 1) (hp : p.length ≤ 80) (hb : b < p.length) (o : jo_one (jq p (b + 1)) (jq p b - 48) (jp_ord p b).2.2 s = none) : jk_inv p s0 k b' s 0 := by
  rcases h with ⟨-, h1, h2, h3⟩ | ⟨h1, h2⟩
  · refine Or.inr ⟨Or.inl rfl, ?_⟩
    rw [show 80 - k = (79 - k) + 1 by omega] at h2 h3
    rw [h3, jo_run_none (jp_nofault h2).1 o]
  · omega
theorem jk_some {p : List Nat} {s0 s s' : js_T} {k b : Nat} (h : jk_inv p s0 k b s 1) (hp : p.length ≤ 80) (hb : b < p.length) (o : jo_one (jq p (b + 1)) (jq p b - 48) (jp_ord p b).2.2 s = some s') :
    jk_inv p s0 (k + 1) (if jq p (jp_ord p b).2.1 = 59 then (jp_ord p b).2.1 + 1 else (jp_ord p b).2.1) s' 1 := by
  rcases h with ⟨-, h1, h2, h3⟩ | ⟨h1, h2⟩
  · rw [show 80 - k = (79 - k) + 1 by omega] at h2 h3
    obtain ⟨l1, l2, l3⟩ := jp_ord_le (p := p) (a := b) (by omega)
    obtain ⟨f1, f2⟩ := jp_nofault h2
    rcases f2 with ⟨f2, f3⟩ | ⟨f2, f3⟩
    · rw [if_pos f2]
      have := l3 f1
      exact Or.inl ⟨rfl, by omega, by rw [show 80 - (k + 1) = 79 - k by omega]; exact f3, by rw [h3, jo_run_go f1 o f2, show 80 - (k + 1) = 79 - k by omega]⟩
    · rw [if_neg f2]
      exact Or.inr ⟨Or.inr (by omega), by rw [h3, jo_run_end f1 o f2]⟩
  · omega
theorem jk_ord {p : List Nat} {s0 s : js_T} {k b : Nat} (h : jk_inv p s0 k b s 1) (hp : p.length ≤ 80) (hb : b < p.length) : (jp_ord p b).1 = true := by
  rcases h with ⟨-, h1, h2, h3⟩ | ⟨h1, h2⟩
  · rw [show 80 - k = (79 - k) + 1 by omega] at h2
    exact (jp_nofault h2).1
  · omega
theorem jk_k {p : List Nat} {s0 s : js_T} {k b : Nat} (h : jk_inv p s0 k b s 1) (hb : b < p.length) : 3 * k ≤ b := by
  rcases h with ⟨-, h1, -, -⟩ | ⟨h1, -⟩
  · exact h1
  · omega
theorem jk_end {p : List Nat} {s0 s : js_T} {k b g : Nat} (h : jk_inv p s0 k b s g) (e : g = 0 ∨ p.length ≤ b) : jo_run p 80 0 s0 0 = (s, k) := by
  rcases h with ⟨h0, h1, h2, h3⟩ | ⟨h1, h2⟩
  · have := jp_nofault_lt h2
    omega
  · exact h2
/-! the characters of a number -/
theorem jn_landL (n : Nat) : lN n &&& lN 255 = lN (n % 256) := by
  apply Int64.toBitVec_inj.mp
  rw [Int64.toBitVec_and]
  apply BitVec.eq_of_toNat_eq
  rw [BitVec.toNat_and]
  show (BitVec.ofNat 64 n).toNat &&& (BitVec.ofNat 64 255).toNat = (BitVec.ofNat 64 (n % 256)).toNat
  rw [BitVec.toNat_ofNat, BitVec.toNat_ofNat, BitVec.toNat_ofNat, show 255 % 2 ^ 64 = 2 ^ 8 - 1 from rfl, Nat.and_two_pow_sub_one_eq_mod]
  omega
theorem jc_next (n k : Nat) : n / 2 ^ (8 * k) / 2 ^ 8 = n / 2 ^ (8 * (k + 1)) := by rw [Nat.div_div_eq_div_mul, ← Nat.pow_add]; rfl
/-- where the reference's count of characters stands -/
def jc_inv (n k e : Nat) : Prop := (e = 1 ∧ jc_many n 8 0 = jc_many n (8 - k) k) ∨ (e = 0 ∧ jc_many n 8 0 = 0)
theorem jc_ne {n k : Nat} (h : ¬ jc n k = 0) : ¬ n / 2 ^ (8 * k) = 0 := fun q => h (by unfold jc; rw [q])
theorem jc_yes {n k : Nat} (h : jc_inv n k 1) (hk : k < 8) (h0 : ¬ jc n k = 0) (hd : 33 ≤ jc n k ∧ jc n k ≤ 126) : jc_inv n (k + 1) 1 := by
  rcases h with ⟨-, h⟩ | ⟨h, -⟩
  · exact Or.inl ⟨rfl, by rw [h, show 8 - k = (8 - (k + 1)) + 1 by omega, jc_many_go (jc_ne h0) (by omega)]⟩
  · cases h
theorem jc_no {n k e : Nat} (h : jc_inv n k e) (hk : k < 8) (h0 : ¬ jc n k = 0) (hd : e = 0 ∨ ¬ (33 ≤ jc n k ∧ jc n k ≤ 126)) : jc_inv n (k + 1) 0 := by
  rcases h with ⟨h1, h⟩ | ⟨-, h⟩
  · exact Or.inr ⟨rfl, by rw [h, show 8 - k = (8 - (k + 1)) + 1 by omega, jc_many_bad (jc_ne h0) (by omega)]⟩
  · exact Or.inr ⟨rfl, h⟩
/-- the count is done: refused -/
theorem jc_bad {n k e : Nat} (h : jc_inv n k e) (hk : k ≤ 8) (hn : n < 2 ^ 64) (h0 : k = 8 ∨ jc n k = 0) (hd : k = 0 ∨ e = 0 ∨ ¬ n / 2 ^ (8 * k) = 0) : jc_many n 8 0 = 0 := by
  rcases h with ⟨h1, h⟩ | ⟨-, h⟩
  · rw [h]
    by_cases q : n / 2 ^ (8 * k) = 0
    · rw [jc_many_z q]; omega
    · rcases Nat.lt_or_ge k 8 with z | z
      · rw [show 8 - k = (8 - (k + 1)) + 1 by omega]
        exact jc_many_bad q (Or.inl (by have := h0.resolve_left (by omega); omega))
      · exfalso; apply q
        rw [show k = 8 by omega]
        exact Nat.div_eq_of_lt hn
  · exact h
theorem jc_good {n k e : Nat} (h : jc_inv n k e) (he : ¬ e = 0) (h2 : n / 2 ^ (8 * k) = 0) : jc_many n 8 0 = k := by
  rcases h with ⟨-, h⟩ | ⟨h, -⟩
  · rw [h, jc_many_z h2]
  · exact absurd h he
theorem mr_P.push {G : js_G} {p : List Nat} {q : Nat} (h : mr_P G p) (hl : p.length < 80) (hq : 33 ≤ q ∧ q ≤ 126) : mr_P (js_st (js_st G 196 p.length (nI q)) 191 6 (nI (p.length + 1))) (p ++ [q]) := by
  obtain ⟨a, b, d⟩ := h
  refine ⟨by rw [js_st_s]; simp [upd], by simp; omega, fun k hk => ?_⟩
  rw [js_st_n (by decide), js_st_s]
  simp only [List.length_append, List.length_cons, List.length_nil] at hk
  by_cases z : k = p.length
  · subst z; simp [upd, hq]
  · have hk' : k < p.length := by omega
    have := d k hk'
    rw [upd, if_neg z]
    simp only [List.getD, List.getElem?_append_left hk'] at this ⊢
    exact this
/-- changes of the text alone -/
def mfP (G G' : js_G) : Prop := (∀ a, a ≠ 191 → a ≠ 196 → G' a = G a) ∧ ∀ i, i ≠ 6 → G' 191 i = G 191 i
theorem mfP.rf {G : js_G} : mfP G G := ⟨fun _ _ _ => rfl, fun _ _ => rfl⟩
theorem mfP.tr {G G1 G2 : js_G} (h : mfP G G1) (h2 : mfP G1 G2) : mfP G G2 := ⟨fun a x z => (h2.1 a x z).trans (h.1 a x z), fun i x => (h2.2 i x).trans (h.2 i x)⟩
theorem mfP.two {G : js_G} {k : Nat} {v w : Int32} : mfP G (js_st (js_st G 196 k v) 191 6 w) := ⟨fun a x z => by rw [js_st_n x, js_st_n z], fun i x => by rw [js_st_s]; exact (if_neg x).trans (by rw [js_st_n (by decide)])⟩
theorem mr_C.P {G G' : js_G} {c : js_C} {p : List Nat} (h : mr_C G c) (hf : mfP G G') (hP : mr_P G' p) : mr_C G' (c.1, c.2.1, c.2.2.1, p) := by
  obtain ⟨h1, ⟨a, b, d⟩, h3, -⟩ := h
  exact ⟨h1.co (hf.1 192 (by decide) (by decide)), ⟨(hf.2 2 (by decide)).trans a, b, fun k s hk => (d k s hk).co (hf.1 193 (by decide) (by decide))⟩, fun i hi => ⟨by rw [hf.1 195 (by decide) (by decide)]; exact (h3 i hi).1, fun s hs => ((h3 i hi).2 s hs).co (hf.1 194 (by decide) (by decide))⟩, hP⟩
theorem js_frM.P {G G' : js_G} (h : mfP G G') : js_frM G G' := fun a x => h.1 a (by omega) (by omega)
/-- carryOut is done -/
theorem mo_end {h : List js_T} {v : Nat → Option js_T} {p : List Nat} {s0 s' : js_T} {d : Nat} {G G1 G' : js_G} (hfl : jp_fault p 80 0 = none) (hX : js_frM G G1) (hC1 : mr_C G1 (s0, jm_rec h s0, v, p)) (e : ∀ a, 193 ≤ a → a ≤ 196 → G' a = G1 a) (e2 : G' 191 2 = G1 191 2) (eM : js_frM G1 G') (hT : mr_T G' 192 0 s') (hr : jo_run p 80 0 s0 0 = (s', d)) : mP (ms_carryOut (s0, h, v, p)) (nI d) G (js_st G' 191 6 (nI 0)) := by
  unfold ms_carryOut
  rw [if_neg (fun q => q hfl)]
  simp only [hr]
  obtain ⟨-, ⟨a, b, f⟩, h3, -⟩ := hC1
  have n : ∀ a, a ≠ 191 → js_st G' 191 6 (nI 0) a = G' a := fun a ha => js_st_n ha
  refine ⟨rfl, ⟨hT.co (n 192 (by decide)), ⟨?_, b, fun k s hk => (f k s hk).co ((n 193 (by decide)).trans (e 193 (by decide) (by decide)))⟩, fun i hi => ⟨by rw [n 195 (by decide), e 195 (by decide) (by decide)]; exact (h3 i hi).1, fun s hs => ((h3 i hi).2 s hs).co ((n 194 (by decide)).trans (e 194 (by decide) (by decide)))⟩, ⟨by rw [js_st_s]; simp [upd], Nat.zero_le _, fun k hk => absurd hk (Nat.not_lt_zero _)⟩⟩, (hX.tr eM).tr (js_frM.st (by decide))⟩
  rw [js_st_s]
  exact (if_neg (by decide)).trans (e2.trans a)
