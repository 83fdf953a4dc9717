/-! the characters of a number; what a text's orders do -/
theorem jn_lshr {n k : Nat} (hn : n < 2 ^ 64) (hk : k < 64) : ((lN n).toUInt64 >>> ((nI k).toInt64.toUInt64 &&& Int64.toUInt64 63)).toInt64 = lN (n / 2 ^ k) := by
  have h1 : (nI k).toInt64.toUInt64 &&& Int64.toUInt64 63 = UInt64.ofNat k := by
    have : ∀ k : Fin 64, (nI k.1).toInt64.toUInt64 &&& Int64.toUInt64 63 = UInt64.ofNat k.1 := by decide +kernel
    exact this ⟨k, hk⟩
  rw [h1, show (lN n).toUInt64 = UInt64.ofNat n from rfl]
  have h2 : UInt64.ofNat n >>> UInt64.ofNat k = UInt64.ofNat (n / 2 ^ k) := by
    apply UInt64.toNat_inj.mp
    rw [UInt64.toNat_shiftRight]
    simp only [UInt64.toNat_ofNat']
    rw [Nat.mod_eq_of_lt hn, Nat.mod_eq_of_lt (show k < 2 ^ 64 by omega), Nat.mod_eq_of_lt hk, Nat.shiftRight_eq_div_pow, Nat.mod_eq_of_lt (Nat.lt_of_le_of_lt (Nat.div_le_self _ _) hn)]
  rw [h2]
  rfl
theorem jn_land (n : Nat) : (lN n &&& lN 255).toInt32 = nI (n % 256) := by
  have h : lN n &&& lN 255 = lN (n % 256) := by
    apply Int64.toBitVec_inj.mp
    rw [Int64.toBitVec_and]
    apply BitVec.eq_of_toNat_eq
    rw [BitVec.toNat_and]
    show (BitVec.ofNat 64 n).toNat &&& (BitVec.ofNat 64 255).toNat = (BitVec.ofNat 64 (n % 256)).toNat
    rw [BitVec.toNat_ofNat, BitVec.toNat_ofNat, BitVec.toNat_ofNat, show 255 % 2 ^ 64 = 2 ^ 8 - 1 from rfl, Nat.and_two_pow_sub_one_eq_mod]
    omega
  rw [h, lN_i]
theorem jn_i2c {q : Nat} (h : q < 65536) : ((nI q).toUInt32 % 65536).toInt32 = nI q := by
  have h1 : (nI q).toUInt32 % 65536 = UInt32.ofNat q := by
    apply UInt32.toNat_inj.mp
    rw [UInt32.toNat_mod]
    show (UInt32.ofNat q).toNat % (65536 : UInt32).toNat = (UInt32.ofNat q).toNat
    rw [UInt32.toNat_ofNat', show (65536 : UInt32).toNat = 65536 from rfl]
    omega
  rw [h1]; rfl
theorem jn_l0 {n : Nat} (hn : n < 2 ^ 64) : lg_cmp (lN n) (lN 0) = 0 ↔ n = 0 := by
  rw [lg_cmp_eq]
  constructor
  · intro h
    have h2 := congrArg (fun x : Int64 => x.toBitVec.toNat) h
    have h3 : (BitVec.ofNat 64 n).toNat = (BitVec.ofNat 64 0).toNat := h2
    rw [BitVec.toNat_ofNat, Nat.mod_eq_of_lt hn] at h3
    exact h3
  · rintro rfl; rfl
theorem jn_all (x : Int64) : ∃ n, n < 2 ^ 64 ∧ x = lN n := ⟨x.toBitVec.toNat, x.toBitVec.isLt, Int64.toBitVec_inj.mp (BitVec.eq_of_toNat_eq (by show _ = (BitVec.ofNat 64 x.toBitVec.toNat).toNat; rw [BitVec.toNat_ofNat, Nat.mod_eq_of_lt x.toBitVec.isLt]))⟩
abbrev jc (n l : Nat) : Nat := n / 2 ^ (8 * l) % 256
/-- how many characters stand in the number n; 0 if it is not made of such -/
def jc_many (n : Nat) : Nat → Nat → Nat
  | 0, m => m
  | f + 1, m => if n / 2 ^ (8 * m) = 0 then m else if jc n m < 33 ∨ 126 < jc n m then 0 else jc_many n f (m + 1)
theorem jc_many_le (n : Nat) : ∀ f m, jc_many n f m ≤ m + f
  | 0, m => Nat.le_refl _
  | f + 1, m => by
    have := jc_many_le n f (m + 1)
    unfold jc_many
    split
    · omega
    · split <;> omega
theorem jc_many_ok {n : Nat} : ∀ f m l, m ≤ l → l < jc_many n f m → 33 ≤ jc n l ∧ jc n l ≤ 126
  | 0, m, l, h1, h2 => by unfold jc_many at h2; omega
  | f + 1, m, l, h1, h2 => by
    unfold jc_many at h2
    split at h2
    · omega
    · split at h2
      · omega
      · rename_i a b
        rcases Nat.eq_or_lt_of_le h1 with e | e
        · subst e; omega
        · exact jc_many_ok f (m + 1) l e h2
def jc_by (n : Nat) : Nat → List Nat
  | 0 => []
  | l + 1 => jc n l :: jc_by n l
theorem jc_by_len (n : Nat) : ∀ l, (jc_by n l).length = l
  | 0 => rfl
  | l + 1 => by simp [jc_by, jc_by_len n l]
/-- changes of the pad alone -/
def js_fpp (G G' : js_G) : Prop := ∀ a, a ≠ 187 → a ≠ 188 → a ≠ 189 → G' a = G a
theorem js_fpp.rf {G : js_G} : js_fpp G G := fun _ _ _ _ => rfl
theorem js_fpp.tr {G G1 G2 : js_G} (h1 : js_fpp G G1) (h2 : js_fpp G1 G2) : js_fpp G G2 := fun a x y z => (h2 a x y z).trans (h1 a x y z)
theorem js_fpp.st {G : js_G} {k i : Nat} {v : Int32} (h : k = 187 ∨ k = 188 ∨ k = 189) : js_fpp G (js_st G k i v) := fun a x y z => js_st_n (by omega)
theorem js_fp.pp {G G' : js_G} (h : js_fp G G') : js_fpp G G' := fun a x _ z => h.1 a x z
theorem js_frX.pp {G G' : js_G} (h : js_fpp G G') : js_frX G G' := fun a x => h a (by omega) (by omega) (by omega)
theorem js_frX.n {G G' : js_G} (h : js_fn G G') : js_frX G G' := fun a x => h a (by omega) (by unfold js_kA; omega)
theorem jr_T.pp {G G' : js_G} {u : Nat} {s : js_T} (h : jr_T G u s) (hf : js_fpp G G') (hu : u < 9) : jr_T G' u s := by
  obtain ⟨a, b, d⟩ := h
  exact ⟨by rw [hf _ (by unfold js_kA; omega) (by unfold js_kA; omega) (by unfold js_kA; omega)]; exact a, b, fun i hi => (d i hi).co (hf _ (by unfold js_kS; omega) (by unfold js_kS; omega) (by unfold js_kS; omega)) (hf _ (by unfold js_kR; omega) (by unfold js_kR; omega) (by unfold js_kR; omega)) (hf _ (by unfold js_kT; omega) (by unfold js_kT; omega) (by unfold js_kT; omega))⟩
theorem jr_C.pp {G G' : js_G} {c : js_C} {p : List Nat} (h : jr_C G c) (hf : js_fpp G G') (hP : jr_P G' p) : jr_C G' (c.1, c.2.1, c.2.2.1, p) := by
  obtain ⟨h1, ⟨o, b1, b2, b3, b4, b5⟩, h3, -⟩ := h
  have e : ∀ a, a ≠ 187 → a ≠ 188 → a ≠ 189 → G' a = G a := hf
  refine ⟨h1.pp hf (by decide), ⟨o, b1, by rw [e 183 (by decide) (by decide) (by decide)]; exact b2, by rw [e 183 (by decide) (by decide) (by decide)]; exact b3, b4, fun k s hk => (b5 k s hk).pp hf ?_⟩, fun i hi => ⟨by rw [e 186 (by decide) (by decide) (by decide)]; exact (h3 i hi).1, fun s hs => ((h3 i hi).2 s hs).pp hf (by omega)⟩, hP⟩
  have : (o + k) % 6 < 6 := Nat.mod_lt _ (by decide)
  omega
theorem jr_P.push {G : js_G} {p : List Nat} {q : Nat} (h : jr_P G p) (hl : p.length < 80) (hq : 33 ≤ q ∧ q ≤ 126) : jr_P (js_st (js_st G 188 p.length (nI q)) 187 1 (nI (p.length + 1))) (p ++ [q]) := by
  obtain ⟨a, b, d⟩ := h
  refine ⟨by rw [js_st_s]; simp [upd], by simp; omega, fun k hk => ?_⟩
  rw [js_st_n (by decide), js_st_s]
  simp only [List.length_append, List.length_cons, List.length_nil] at hk
  by_cases z : k = p.length
  · subst z; simp [upd, hq]
  · have hk' : k < p.length := by omega
    have := d k hk'
    rw [upd, if_neg z]
    simp only [List.getD, List.getElem?_append_left hk'] at this ⊢
    exact this
theorem jr_P.nil {G : js_G} (h : G 187 1 = nI 0) : jr_P G [] := ⟨h, Nat.zero_le _, fun _ hk => absurd hk (Nat.not_lt_zero _)⟩
def ms_put (c : js_C) (n : Nat) : Int32 × js_C := if jc_many n 8 0 = 0 then (-2, c) else if 80 < c.2.2.2.length + jc_many n 8 0 then (-4, c) else (nI (c.2.2.2.length + jc_many n 8 0), (c.1, c.2.1, c.2.2.1, c.2.2.2 ++ jc_by n (jc_many n 8 0)))
/-- an order of a text, carried out; none if it can't be -/
def jo_tks (s : Nat) (S : js_K) (ns : List Nat) : js_K := ns.foldl (fun S t => jm_tkK s S t 1) S
theorem jo_tks_take {s : Nat} {S : js_K} {ns : List Nat} {k : Nat} (h : k < ns.length) : jo_tks s S (ns.take (k + 1)) = jm_tkK s (jo_tks s S (ns.take k)) (ns.getD k 0) 1 := by
  unfold jo_tks
  rw [List.take_succ, List.foldl_append]
  simp [List.getD, h]
def jo_one (verb i : Nat) (ns : List Nat) (s : js_T) : Option js_T :=
  if verb = 58 then some (jm_sk s i (jo_tks s.1 (s.2 i) ns))
  else if verb = 38 then (if i ≠ ns.getD 0 0 ∧ (s.2 i).1 = (s.2 (ns.getD 0 0)).1 then some (jm_sk s i (jm_joK (s.2 i) (s.2 (ns.getD 0 0)))) else none)
  else if verb = 42 then (if jm_rng (nI (ns.getD 0 0)) (nI (ns.getD 1 0)) then some (jm_sk s i (jm_tkK s.1 (s.2 i) (ns.getD 0 0) (ns.getD 1 0))) else none)
  else if verb = 47 then (if 2 < (s.2 i).1 then some (jm_sk s i (jm_foK (s.2 i))) else none)
  else some (jm_sk s i (jm_e (s.2 i)))
def jo_run (p : List Nat) : Nat → Nat → js_T → Nat → js_T × Nat
  | 0, _, s, d => (s, d)
  | f + 1, a, s, d => if (jp_ord p a).1 = true then (match jo_one (jq p (a + 1)) (jq p a - 48) (jp_ord p a).2.2 s with
      | none => (s, d)
      | some s' => if jq p (jp_ord p a).2.1 = 59 then jo_run p f ((jp_ord p a).2.1 + 1) s' (d + 1) else (s', d + 1)) else (s, d)
def ms_carryOut (c : js_C) : Int32 × js_C := if ¬ jp_fault c.2.2.2 80 0 = none then (-3, c) else (nI (jo_run c.2.2.2 80 0 c.1 0).2, ((jo_run c.2.2.2 80 0 c.1 0).1, jm_rec c.2.1 c.1, c.2.2.1, []))
/-- the numbers of an order that was read -/
def jo_ok (verb : Nat) (ns : List Nat) : Prop := ns.length ≤ 80 ∧ (∀ t, t ∈ ns → t < 100000) ∧ (verb = 38 → ns.length = 1 ∧ ns.getD 0 0 < 6) ∧ (verb = 42 → ns.length = 2)
theorem jp_things_ok {p : List Nat} : ∀ n a ns, (∀ t, t ∈ ns → t < 100000) → ∀ t, t ∈ (jp_things p n a ns).2.2 → t < 100000
  | 0, a, ns, h => h
  | n + 1, a, ns, h => by
    unfold jp_things
    cases e : jp_num p a with
    | none => exact h
    | some r =>
      have h3 := (jp_num_le e).2.2
      have h4 : ∀ t, t ∈ ns ++ [r.1] → t < 100000 := by
        intro t ht
        rcases List.mem_append.mp ht with q | q
        · exact h t q
        · simp at q; omega
      show ∀ t, t ∈ (if jq p r.2 = 44 then jp_things p n (r.2 + 1) (ns ++ [r.1]) else (true, r.2, ns ++ [r.1])).2.2 → t < 100000
      split
      · exact jp_things_ok n _ _ h4
      · exact h4
theorem jp_things_len {p : List Nat} : ∀ n a ns, (jp_things p n a ns).2.2.length ≤ ns.length + n
  | 0, a, ns => Nat.le_refl _
  | n + 1, a, ns => by
    unfold jp_things
    cases e : jp_num p a with
    | none => show ns.length ≤ ns.length + (n + 1); omega
    | some r =>
      show (if jq p r.2 = 44 then jp_things p n (r.2 + 1) (ns ++ [r.1]) else (true, r.2, ns ++ [r.1])).2.2.length ≤ ns.length + (n + 1)
      have := jp_things_len (p := p) n (r.2 + 1) (ns ++ [r.1])
      simp only [List.length_append, List.length_cons, List.length_nil] at this
      split
      · omega
      · simp
theorem jp_ord_s {p : List Nat} {a : Nat} (h : (jp_ord p a).1 = true) : jp_s (jq p a) := by
  by_cases q : jp_s (jq p a)
  · exact q
  · rw [show jp_ord p a = (false, a, []) from if_neg q] at h; cases h
theorem jp_ord_ok {p : List Nat} {a : Nat} (h : (jp_ord p a).1 = true) : jo_ok (jq p (a + 1)) (jp_ord p a).2.2 := by
  have hs := jp_ord_s h
  by_cases v1 : jq p (a + 1) = 58
  · rw [jp_ord_t hs v1, v1]
    have h1 := jp_things_len (p := p) 80 (a + 1 + 1) []
    have h2 := jp_things_ok (p := p) 80 (a + 1 + 1) [] (fun t ht => by cases ht)
    exact ⟨by simpa using h1, h2, fun q => by omega, fun q => by omega⟩
  · by_cases v2 : jq p (a + 1) = 38
    · rw [jp_ord_o hs v2] at h ⊢
      rw [v2]
      unfold jp_oth at h ⊢
      split
      · rename_i q
        refine ⟨by simp, fun t ht => ?_, fun _ => ⟨rfl, ?_⟩, fun q => by omega⟩
        · simp at ht; have := q.2; omega
        · have := q.2; show jq p (a + 1 + 1) - 48 < 6; omega
      · rename_i q; rw [if_neg q] at h; cases h
    · by_cases v3 : jq p (a + 1) = 42
      · cases e1 : jp_num p (a + 1 + 1) with
        | none => rw [jp_ord_r0 hs v3 e1] at h; cases h
        | some r =>
          obtain ⟨v, z⟩ := r
          by_cases e2 : jq p z = 43
          · cases e3 : jp_num p (z + 1) with
            | none => rw [jp_ord_r2 hs v3 e1 e2 e3] at h; cases h
            | some r2 =>
              obtain ⟨w, z2⟩ := r2
              rw [jp_ord_r3 hs v3 e1 e2 e3, v3]
              have k1 := (jp_num_le e1).2.2
              have k2 := (jp_num_le e3).2.2
              refine ⟨by simp, fun t ht => ?_, fun q => by omega, fun _ => rfl⟩
              simp at ht
              rcases ht with rfl | rfl <;> assumption
          · rw [jp_ord_r1 hs v3 e1 e2] at h; cases h
      · have e : (jp_ord p a).2.2 = [] := by
          by_cases v4 : jq p (a + 1) = 33
          · rw [jp_ord_e hs v4]
          · by_cases v5 : jq p (a + 1) = 47
            · rw [jp_ord_f hs v5]
            · rw [jp_ord_x hs ⟨v1, v2, v3, v4, v5⟩]
        rw [e]
        exact ⟨by simp, fun t ht => (by cases ht), fun q => absurd q v2, fun q => absurd q v3⟩
theorem jr_T.fn0 {G G' : js_G} {i : Nat} {s : js_T} {S : js_K} (h : jr_T G 0 s) (hi : i < 6) (hf : js_fr i G G') (hS : jr_K G' i S) : jr_T G' 0 (jm_sk s i S) := by
  refine ⟨by rw [hf.kA (by omega)]; exact h.1, h.2.1, fun k hk => ?_⟩
  rw [Nat.mul_zero, Nat.zero_add]
  show jr_K G' k (if k = i then S else s.2 k)
  by_cases q : k = i
  · subst q; rw [if_pos rfl]; exact hS
  · rw [if_neg q]
    have := h.2.2 k hk
    rw [Nat.mul_zero, Nat.zero_add] at this
    exact jr_S.fr this hf q
theorem jr_T.K0 {G : js_G} {s : js_T} (h : jr_T G 0 s) {i : Nat} (hi : i < 6) : jr_K G i (s.2 i) := by
  have := h.2.2 i hi
  rwa [Nat.mul_zero, Nat.zero_add] at this
theorem js_fn.rf {G : js_G} : js_fn G G := fun _ _ _ => rfl
theorem js_fn.tr {G G1 G2 : js_G} (h1 : js_fn G G1) (h2 : js_fn G1 G2) : js_fn G G2 := fun a x y => (h2 a x y).trans (h1 a x y)
theorem jr_N.fn {G G' : js_G} {ns : List Nat} (h : jr_N G ns) (hf : js_fn G G') : jr_N G' ns := ⟨by rw [hf 187 (by decide) (by decide)]; exact h.1, fun k hk => by rw [hf 189 (by decide) (by decide)]; exact h.2 k hk⟩
theorem jr_P.fn {G G' : js_G} {p : List Nat} (h : jr_P G p) (hf : js_fn G G') : jr_P G' p := h.co (by rw [hf 187 (by decide) (by decide)]) (hf 188 (by decide) (by decide))
theorem js_fp.T {G G' : js_G} {s : js_T} (h : js_fp G G') (hT : jr_T G 0 s) : jr_T G' 0 s := hT.pp h.pp (by decide)
def jo_post (o : Option js_T) (r : Int32) (G G' : js_G) : Prop := (o = none ∧ r = nI 0 ∧ G = G') ∨ ∃ s', o = some s' ∧ r = nI 1 ∧ jr_T G' 0 s' ∧ js_fn G G'
theorem jm_sk_self {s : js_T} {i : Nat} : jm_sk s i (s.2 i) = s := by
  unfold jm_sk
  obtain ⟨a, f⟩ := s
  congr 1
  funext k
  by_cases h : k = i
  · simp [h]
  · simp [h]
theorem jm_sk_at {s : js_T} {i : Nat} {S : js_K} : (jm_sk s i S).2 i = S := if_pos rfl
theorem jm_rng_nat {a m : Nat} (ha : a < 100000) (hm : m < 100000) (h : jm_rng (nI a) (nI m)) : 1 ≤ m ∧ m ≤ 999 ∧ a + m ≤ 100000 := by
  obtain ⟨a', m', e1, e2, h1, h2, h3⟩ := jm_rng_is h
  have := (nI_eq (by omega) (by omega)).mp e1
  have := (nI_eq (by omega) (by omega)).mp e2
  omega
theorem jp_fault_le {p : List Nat} : ∀ n a z, a ≤ p.length → jp_fault p n a = some z → z ≤ p.length
  | 0, a, z, h, e => by cases e; exact h
  | n + 1, a, z, h, e => by
    obtain ⟨l1, l2, l3⟩ := jp_ord_le (p := p) (a := a) h
    rw [jp_fault] at e
    split at e
    · split at e
      · rename_i q
        exact jp_fault_le n _ z (jq_lt (by omega)) e
      · split at e
        · cases e
        · cases e; exact l2
    · cases e; exact l2
theorem jp_fa_none {p : List Nat} (hp : p.length ≤ 80) : jp_fa p = -6 ↔ jp_fault p 80 0 = none := by
  unfold jp_fa
  constructor
  · intro h
    cases e : jp_fault p 80 0 with
    | none => rfl
    | some z =>
      rw [e] at h
      have h1 := jp_fault_le 80 0 z (Nat.zero_le _) e
      have h2 : (nI z).toInt = (-6 : Int32).toInt := congrArg Int32.toInt h
      rw [nI_toInt (by omega)] at h2
      have h3 : (-6 : Int32).toInt = -6 := rfl
      omega
  · intro h; rw [h]; rfl
/-- changes of the state 'now' and of the pad -/
def js_fo (G G' : js_G) : Prop := ∀ a, 18 ≤ a → a ≠ js_kA 0 → a ≠ 187 → a ≠ 188 → a ≠ 189 → G' a = G a
theorem js_fo.rf {G : js_G} : js_fo G G := fun _ _ _ _ _ _ => rfl
theorem js_fo.tr {G G1 G2 : js_G} (h1 : js_fo G G1) (h2 : js_fo G1 G2) : js_fo G G2 := fun a x y z u v => (h2 a x y z u v).trans (h1 a x y z u v)
theorem js_fo.pp {G G' : js_G} (h : js_fpp G G') : js_fo G G' := fun a _ _ z u v => h a z u v
theorem js_fo.n {G G' : js_G} (h : js_fn G G') : js_fo G G' := fun a x y _ _ _ => h a x y
theorem js_fo.X {G G' : js_G} (h : js_fo G G') : js_frX G G' := fun a x => h a (by omega) (by unfold js_kA; omega) (by omega) (by omega) (by omega)
theorem jr_C.fo {G G' : js_G} {c : js_C} {s : js_T} {p : List Nat} (h : jr_C G c) (hf : js_fo G G') (hT : jr_T G' 0 s) (hP : jr_P G' p) : jr_C G' (s, c.2.1, c.2.2.1, p) := by
  obtain ⟨-, ⟨o, b1, b2, b3, b4, b5⟩, h3, -⟩ := h
  have e : ∀ a, 18 ≤ a → a ≠ 165 → a ≠ 187 → a ≠ 188 → a ≠ 189 → G' a = G a := hf
  have eT : ∀ u s, 1 ≤ u → u < 9 → jr_T G u s → jr_T G' u s := fun u s hu hu9 ⟨a, b, d⟩ => ⟨by rw [e _ (by unfold js_kA; omega) (by unfold js_kA; omega) (by unfold js_kA; omega) (by unfold js_kA; omega) (by unfold js_kA; omega)]; exact a, b, fun i hi => (d i hi).co (e _ (by unfold js_kS; omega) (by unfold js_kS; omega) (by unfold js_kS; omega) (by unfold js_kS; omega) (by unfold js_kS; omega)) (e _ (by unfold js_kR; omega) (by unfold js_kR; omega) (by unfold js_kR; omega) (by unfold js_kR; omega) (by unfold js_kR; omega)) (e _ (by unfold js_kT; omega) (by unfold js_kT; omega) (by unfold js_kT; omega) (by unfold js_kT; omega) (by unfold js_kT; omega))⟩
  refine ⟨hT, ⟨o, b1, by rw [e 183 (by decide) (by decide) (by decide) (by decide) (by decide)]; exact b2, by rw [e 183 (by decide) (by decide) (by decide) (by decide) (by decide)]; exact b3, b4, fun k s hk => eT _ _ (by omega) ?_ (b5 k s hk)⟩, fun i hi => ⟨by rw [e 186 (by decide) (by decide) (by decide) (by decide) (by decide)]; exact (h3 i hi).1, fun s hs => eT _ _ (by omega) (by omega) ((h3 i hi).2 s hs)⟩, hP⟩
  have : (o + k) % 6 < 6 := Nat.mod_lt _ (by decide)
  omega
theorem jo_run_no {p : List Nat} {f a d : Nat} {s : js_T} (h : ¬ (jp_ord p a).1 = true) : jo_run p (f + 1) a s d = (s, d) := by rw [jo_run, if_neg h]
theorem jo_run_none {p : List Nat} {f a d : Nat} {s : js_T} (h : (jp_ord p a).1 = true) (o : jo_one (jq p (a + 1)) (jq p a - 48) (jp_ord p a).2.2 s = none) : jo_run p (f + 1) a s d = (s, d) := by rw [jo_run, if_pos h, o]
theorem jo_run_go {p : List Nat} {f a d : Nat} {s s' : js_T} (h : (jp_ord p a).1 = true) (o : jo_one (jq p (a + 1)) (jq p a - 48) (jp_ord p a).2.2 s = some s') (h2 : jq p (jp_ord p a).2.1 = 59) : jo_run p (f + 1) a s d = jo_run p f ((jp_ord p a).2.1 + 1) s' (d + 1) := by
  rw [jo_run, if_pos h, o]; simp only; rw [if_pos h2]
theorem jo_run_end {p : List Nat} {f a d : Nat} {s s' : js_T} (h : (jp_ord p a).1 = true) (o : jo_one (jq p (a + 1)) (jq p a - 48) (jp_ord p a).2.2 s = some s') (h2 : ¬ jq p (jp_ord p a).2.1 = 59) : jo_run p (f + 1) a s d = (s', d + 1) := by
  rw [jo_run, if_pos h, o]; simp only; rw [if_neg h2]
theorem jo_end {p : List Nat} {h : List js_T} {v : Nat → Option js_T} {s0 s' : js_T} {d : Nat} {G G1 G' : js_G} (hfl : jp_fault p 80 0 = none) (hX : js_frX G G1) (hC1 : jr_C G1 (s0, jm_rec h s0, v, p)) (hf : js_fo G1 G') (hT : jr_T G' 0 s') (hr : jo_run p 80 0 s0 0 = (s', d)) : jP (ms_carryOut (s0, h, v, p)) (nI d) G (js_st G' 187 1 (nI 0)) := by
  unfold ms_carryOut
  rw [if_neg (fun q => q hfl)]
  have hpp : js_fpp G' (js_st G' 187 1 (nI 0)) := js_fpp.st (Or.inl rfl)
  simp only [hr]
  refine ⟨rfl, ?_, hX.tr ((hf.tr (js_fo.pp hpp)).X)⟩
  exact jr_C.fo hC1 (hf.tr (js_fo.pp hpp)) (hT.pp hpp (by decide)) (jr_P.nil (by rw [js_st_s]; simp [upd]))
