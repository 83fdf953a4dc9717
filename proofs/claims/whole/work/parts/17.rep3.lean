/-! what each call answers, and what it makes of the state -/
def jm_sk (s : js_T) (i : Nat) (S : js_K) : js_T := (s.1, fun k => if k = i then S else s.2 k)
def jm_chg (c : js_C) (s : js_T) : js_C := (s, jm_rec c.2.1 c.1, c.2.2)
abbrev ix (x : Int32) : Nat := x.toNatClampNeg
def ms_salt (c : js_C) (x : Int32) : Int32 × js_C := if jb x 65536 then (-2, c) else (nI c.1.1, jm_chg c (ix x, fun i => jm_e (c.1.2 i)))
def ms_bits (c : js_C) (x b : Int32) : Int32 × js_C := if jb x 6 then (-1, c) else if b < nI 2 ∨ nI 6 < b then (-2, c) else (nI (c.1.2 (ix x)).1, jm_chg c (jm_sk c.1 (ix x) (ix b, fun _ => 0, some [])))
def jm_tkK (s : Nat) (S : js_K) (a n : Nat) : js_K := (S.1, (jm_takes s S.1 S.2.1 S.2.2 a n).1, (jm_takes s S.1 S.2.1 S.2.2 a n).2.1)
def jm_tkN (s : Nat) (S : js_K) (a n : Nat) : Nat := (jm_takes s S.1 S.2.1 S.2.2 a n).2.2
def ms_add (c : js_C) (x t : Int32) : Int32 × js_C := if jb x 6 then (-1, c) else if jb t 100000 then (-2, c) else (nI (jm_tkN c.1.1 (c.1.2 (ix x)) (ix t) 1), jm_chg c (jm_sk c.1 (ix x) (jm_tkK c.1.1 (c.1.2 (ix x)) (ix t) 1)))
def ms_addRange (c : js_C) (x a m : Int32) : Int32 × js_C := if jb x 6 then (-1, c) else if ¬ jm_rng a m then (-2, c) else (nI (jm_tkN c.1.1 (c.1.2 (ix x)) (ix a) (ix m)), jm_chg c (jm_sk c.1 (ix x) (jm_tkK c.1.1 (c.1.2 (ix x)) (ix a) (ix m))))
def jm_joK (S S2 : js_K) : js_K := (S.1, jm_mx S.2.1 S2.2.1, jm_jl S.2.2 S2.2.2)
def jm_esK (S : js_K) : Nat := jm_est S.2.1 (2 ^ S.1)
def ms_join (c : js_C) (x z : Int32) : Int32 × js_C := if jb x 6 ∨ jb z 6 then (-1, c) else if ¬ (ix x ≠ ix z ∧ (c.1.2 (ix x)).1 = (c.1.2 (ix z)).1) then (-5, c) else (nI (jm_esK (jm_joK (c.1.2 (ix x)) (c.1.2 (ix z)))), jm_chg c (jm_sk c.1 (ix x) (jm_joK (c.1.2 (ix x)) (c.1.2 (ix z)))))
def jm_foK (S : js_K) : js_K := (S.1 - 1, jm_fd S.1 S.2.1, S.2.2)
def ms_fold (c : js_C) (x : Int32) : Int32 × js_C := if jb x 6 then (-1, c) else if ¬ 2 < (c.1.2 (ix x)).1 then (-5, c) else (nI (2 ^ ((c.1.2 (ix x)).1 - 1)), jm_chg c (jm_sk c.1 (ix x) (jm_foK (c.1.2 (ix x)))))
def jm_fiK (S : js_K) : Nat := jm_fil S.2.1 (2 ^ S.1)
def ms_empty (c : js_C) (x : Int32) : Int32 × js_C := if jb x 6 then (-1, c) else (nI (jm_fiK (c.1.2 (ix x))), jm_chg c (jm_sk c.1 (ix x) (jm_e (c.1.2 (ix x)))))
def mq_thing (c : js_C) (x t w : Int32) : Int32 := if jb x 6 then -1 else if jb t 100000 then -2 else if w = nI 0 then nI (jm_hash (ix t) c.1.1) else if w = nI 1 then nI (jm_hash (ix t) c.1.1 % 2 ^ (c.1.2 (ix x)).1) else if w = nI 2 then nI (jm_rank (jm_hash (ix t) c.1.1) (c.1.2 (ix x)).1) else if w = nI 3 then nI (if (c.1.2 (ix x)).2.1 (jm_hash (ix t) c.1.1 % 2 ^ (c.1.2 (ix x)).1) < jm_rank (jm_hash (ix t) c.1.1) (c.1.2 (ix x)).1 then 1 else 0) else -2
def mq_bucket (c : js_C) (x b : Int32) : Int32 := if jb x 6 then -1 else if jb b (2 ^ (c.1.2 (ix x)).1) then -1 else nI ((c.1.2 (ix x)).2.1 (ix b))
def jm_len (ls : Option (List Nat)) : Int32 := match ls with
  | none => -6
  | some l => nI l.length
def jm_ofK (S : js_K) (w : Nat) : Int32 := if w = 0 then nI S.1 else if w = 1 then nI (2 ^ S.1) else if w = 2 then nI (jm_emp S.2.1 (2 ^ S.1)) else if w = 3 then nI (jm_max S.2.1 (2 ^ S.1)) else if w = 4 then nI (jm_S S.2.1 (2 ^ S.1)) else if w = 5 then nI (jm_raw (2 ^ S.1) (jm_S S.2.1 (2 ^ S.1))) else if w = 6 then nI (jm_est S.2.1 (2 ^ S.1)) else if w = 7 then nI (jm_err S.2.1 (2 ^ S.1)) else jm_len S.2.2
def mq_ofSketch (c : js_C) (x w : Int32) : Int32 := if jb x 6 then -1 else if jb w 9 then -2 else jm_ofK (c.1.2 (ix x)) (ix w)
def mq_withRank (c : js_C) (x q : Int32) : Int64 := if jb x 6 then -1 else if jb q 16 then -2 else jm_set (fun b => decide ((c.1.2 (ix x)).2.1 b = ix q)) (2 ^ (c.1.2 (ix x)).1)
def jm_lsK (ls : Option (List Nat)) (p : Int32) : Int32 := match ls with
  | none => -1
  | some l => if jb p l.length then -1 else nI (l.getD (ix p) 0)
def mq_listed (c : js_C) (x p : Int32) : Int32 := if jb x 6 then -1 else jm_lsK (c.1.2 (ix x)).2.2 p
def jm_aF (s : js_T) : Nat := jm_sum (fun i => jm_fil (s.2 i).2.1 (2 ^ (s.2 i).1)) 6
def jm_sF (s : js_T) : Nat := jm_sum (fun i => if 0 < jm_fil (s.2 i).2.1 (2 ^ (s.2 i).1) then 1 else 0) 6
def jm_fF (s : js_T) : Nat := jm_sum (fun i => if (s.2 i).2.2 = none then 1 else 0) 6
def mq_count (c : js_C) (w : Int32) : Int32 := if w = nI 0 then nI c.1.1 else if w = nI 1 then nI (jm_sF c.1) else if w = nI 2 then nI (jm_aF c.1) else if w = nI 3 then nI (jm_fF c.1) else if w = nI 4 then nI c.2.2.2.length else if w = nI 5 then nI c.2.1.length else -2
def mq_together (c : js_C) (x z : Int32) : Int32 := if jb x 6 ∨ jb z 6 then -1 else if ¬ (c.1.2 (ix x)).1 = (c.1.2 (ix z)).1 then -5 else nI (jm_est (jm_mx (c.1.2 (ix x)).2.1 (c.1.2 (ix z)).2.1) (2 ^ (c.1.2 (ix x)).1))
def jm_same (S S2 : js_K) : Nat := jm_sum (fun b => if S.2.1 b = S2.2.1 b then 1 else 0) (2 ^ S.1)
def mq_alike (c : js_C) (x z : Int32) : Int32 := if jb x 6 ∨ jb z 6 then -1 else if ¬ (c.1.2 (ix x)).1 = (c.1.2 (ix z)).1 then -5 else jm_share (jm_same (c.1.2 (ix x)) (c.1.2 (ix z))) (c.1.2 (ix x)).1
def jm_ofL (S : js_K) : Int32 := match S.2.2 with
  | none => -5
  | some l => nI (jm_esK S + 100000 - l.length)
def mq_off (c : js_C) (x : Int32) : Int32 := if jb x 6 then -1 else jm_ofL (c.1.2 (ix x))
def jm_nx (p : Nat → Bool) : Nat → Nat → Int32
  | 0, _ => -6
  | n + 1, t => if p t then nI t else jm_nx p n (t + 1)
def jm_wo (s : Nat) (S : js_K) (t : Nat) : Bool := decide (S.2.1 (jm_hash t s % 2 ^ S.1) < jm_rank (jm_hash t s) S.1)
def mq_nextNew (c : js_C) (x a : Int32) : Int32 := if jb x 6 then -1 else if jb a 100000 then -2 else jm_nx (jm_wo c.1.1 (c.1.2 (ix x))) (100000 - ix a) (ix a)
def jm_bs (f : Nat → Nat) : Nat → Nat
  | 0 => 0
  | n + 1 => if f (n + 1) < f (jm_bs f n) then n + 1 else jm_bs f n
def jm_bsK (S : js_K) : Int32 := match S.2.2 with
  | none => -5
  | some l => nI (jm_bs (fun s => jm_dist s S.1 l) 255)
def mq_bestSalt (c : js_C) (x : Int32) : Int32 := if jb x 6 then -1 else jm_bsK (c.1.2 (ix x))
def ms_wipe (c : js_C) : Int32 × js_C := (nI c.2.2.2.length, (c.1, c.2.1, c.2.2.1, []))
def ms_undo (c : js_C) : Int32 × js_C := match c.2.1.getLast? with
  | none => (-5, c)
  | some s => (nI (c.2.1.length - 1), (s, c.2.1.dropLast, c.2.2))
def ms_save (c : js_C) (x : Int32) : Int32 × js_C := if jb x 2 then (-2, c) else (nI (jm_aF c.1), (c.1, c.2.1, (fun k => if k = ix x then some c.1 else c.2.2.1 k), c.2.2.2))
def ms_restore (c : js_C) (x : Int32) : Int32 × js_C := if jb x 2 then (-2, c) else match c.2.2.1 (ix x) with
  | none => (-5, c)
  | some s => (nI (jm_aF s), jm_chg c s)
/-! frames -/
def js_frX (G G' : js_G) : Prop := ∀ a, 191 ≤ a → G' a = G a
theorem js_frX.rf {G : js_G} : js_frX G G := fun _ _ => rfl
theorem js_frX.tr {G G1 G2 : js_G} (h1 : js_frX G G1) (h2 : js_frX G1 G2) : js_frX G G2 := fun a x => (h2 a x).trans (h1 a x)
theorem js_frX.of {j : Nat} {G G' : js_G} (h : js_fr j G G') (hj : j < 55) : js_frX G G' := fun a x => h a (by unfold js_kS; omega) (by unfold js_kR; omega) (by unfold js_kT; omega)
theorem js_frX.ofT {t : Nat} {G G' : js_G} (h : js_frT t G G') (ht : t < 9) : js_frX G G' := fun a x => h a (by unfold js_kA; omega) (by omega)
theorem js_frX.ofH {G G' : js_G} (h : js_frH G G') : js_frX G G' := fun a x => h a (by omega) (by omega) (fun t h1 h2 => by unfold js_kA; omega)
theorem js_frX.st {k i : Nat} {v : Int32} {G : js_G} (h : k < 191) : js_frX G (js_st G k i v) := fun a x => js_st_n (by omega)
def jP (f : Int32 × js_C) (r : Int32) (G G' : js_G) : Prop := r = f.1 ∧ jr_C G' f.2 ∧ js_frX G G'
/-- changes of the state 'now' (its sketches' cells 0 to 17, its own cell) alone -/
def js_fn (G G' : js_G) : Prop := ∀ a, 18 ≤ a → a ≠ js_kA 0 → G' a = G a
theorem js_fn.of {j : Nat} {G G' : js_G} (h : js_fr j G G') (hj : j < 6) : js_fn G G' := fun a x _ => h a (by unfold js_kS; omega) (by unfold js_kR; omega) (by unfold js_kT; omega)
theorem js_fn.ofT {G G' : js_G} (h : js_frT 0 G G') : js_fn G G' := fun a x z => h a z (by omega)
theorem jr_T.fn {G G' : js_G} {u : Nat} {s : js_T} (h : jr_T G u s) (hf : js_fn G G') (h1 : 1 ≤ u) (h2 : u < 9) : jr_T G' u s := by
  obtain ⟨a, b, c⟩ := h
  exact ⟨by rw [hf _ (by unfold js_kA; omega) (by unfold js_kA; omega)]; exact a, b, fun i hi => (c i hi).co (hf _ (by unfold js_kS; omega) (by unfold js_kS js_kA; omega)) (hf _ (by unfold js_kR; omega) (by unfold js_kR js_kA; omega)) (hf _ (by unfold js_kT; omega) (by unfold js_kT js_kA; omega))⟩
theorem jr_H.fn {G G' : js_G} {h : List js_T} (hh : jr_H G h) (hf : js_fn G G') : jr_H G' h := by
  obtain ⟨o, a, b, c, d, e⟩ := hh
  have h3 := hf 183 (by omega) (by unfold js_kA; omega)
  refine ⟨o, a, by rw [h3]; exact b, by rw [h3]; exact c, d, fun k s hk => (e k s hk).fn hf (by omega) ?_⟩
  have : (o + k) % 6 < 6 := Nat.mod_lt _ (by decide)
  omega
theorem jr_V.fn {G G' : js_G} {v : Nat → Option js_T} (h : jr_V G v) (hf : js_fn G G') : jr_V G' v := fun i hi =>
  ⟨by rw [hf 186 (by omega) (by unfold js_kA; omega)]; exact (h i hi).1, fun s hs => ((h i hi).2 s hs).fn hf (by omega) (by omega)⟩
theorem jr_P.co {G G' : js_G} {p : List Nat} (h : jr_P G p) (h1 : G' 187 1 = G 187 1) (h2 : G' 188 = G 188) : jr_P G' p := ⟨h1.trans h.1, h.2.1, fun k hk => by rw [h2]; exact h.2.2 k hk⟩
theorem jr_C.now {G G' : js_G} {c : js_C} {s : js_T} (h : jr_C G c) (hf : js_fn G G') (hT : jr_T G' 0 s) : jr_C G' (s, c.2) :=
  ⟨hT, h.2.1.fn hf, h.2.2.1.fn hf, h.2.2.2.co (by rw [hf 187 (by omega) (by unfold js_kA; omega)]) (hf 188 (by omega) (by unfold js_kA; omega))⟩
theorem jr_C.rec {G G' : js_G} {c : js_C} (h : jr_C G c) (hH : jr_H G' (jm_rec c.2.1 c.1)) (hf : js_frH G G') : jr_C G' (c.1, jm_rec c.2.1 c.1, c.2.2) := by
  obtain ⟨h1, h2, h3, h4⟩ := h
  have e : ∀ a, 184 ≤ a → G' a = G a := fun a ha => hf a (by omega) (by omega) (fun t h1 h2 => by unfold js_kA; omega)
  exact ⟨h1.frH hf (by omega), hH, fun i hi => ⟨by rw [e 186 (by omega)]; exact (h3 i hi).1, fun s hs => ((h3 i hi).2 s hs).frH hf (by omega)⟩, h4.co (by rw [e 187 (by omega)]) (e 188 (by omega))⟩
theorem jr_C.K {G : js_G} {c : js_C} (h : jr_C G c) {i : Nat} (hi : i < 6) : jr_K G i (c.1.2 i) := by
  have := h.1.2.2 i hi
  rwa [Nat.mul_zero, Nat.zero_add] at this
theorem jr_C.sk {G G' : js_G} {c : js_C} {i : Nat} {S : js_K} (h : jr_C G c) (hi : i < 6) (hf : js_fr i G G') (hS : jr_K G' i S) : jr_C G' (jm_sk c.1 i S, c.2) := by
  refine h.now (js_fn.of hf hi) ⟨?_, h.1.2.1, fun k hk => ?_⟩
  · rw [hf.kA (by omega)]; exact h.1.1
  · rw [Nat.mul_zero, Nat.zero_add]
    show jr_K G' k (if k = i then S else c.1.2 k)
    by_cases q : k = i
    · subst q; rw [if_pos rfl]; exact hS
    · rw [if_neg q]; exact jr_S.fr (h.K hk) hf q
/-- changes of the sketch for trials alone -/
theorem jr_C.tri {G G' : js_G} {c : js_C} (h : jr_C G c) (hf : js_fr 54 G G') : jr_C G' c := by
  have e : ∀ a, a < 162 ∨ 165 ≤ a → G' a = G a := fun a ha => hf a (by unfold js_kS; omega) (by unfold js_kR; omega) (by unfold js_kT; omega)
  have eT : ∀ u s, u < 9 → jr_T G u s → jr_T G' u s := fun u s hu ⟨a, b, d⟩ => ⟨by rw [e _ (by unfold js_kA; omega)]; exact a, b, fun i hi => (d i hi).co (e _ (by unfold js_kS; omega)) (e _ (by unfold js_kR; omega)) (e _ (by unfold js_kT; omega))⟩
  obtain ⟨h1, ⟨o, b1, b2, b3, b4, b5⟩, h3, h4⟩ := h
  refine ⟨eT _ _ (by omega) h1, ⟨o, b1, by rw [e 183 (by omega)]; exact b2, by rw [e 183 (by omega)]; exact b3, b4, fun k s hk => eT _ _ ?_ (b5 k s hk)⟩, fun i hi => ⟨by rw [e 186 (by omega)]; exact (h3 i hi).1, fun s hs => eT _ _ (by omega) ((h3 i hi).2 s hs)⟩, h4.co (by rw [e 187 (by omega)]) (e 188 (by omega))⟩
  have : (o + k) % 6 < 6 := Nat.mod_lt _ (by decide)
  omega
theorem jn_off {e l k : Nat} (h : l ≤ e + k) : nI e - nI l + nI k = nI (e + k - l) := by
  rw [← pk_sub h, ← nI_add, Int32.sub_eq_add_neg, Int32.sub_eq_add_neg, Int32.add_assoc, Int32.add_assoc, Int32.add_comm (-nI l)]
theorem jm_sk_sk {s : js_T} {i : Nat} {S S' : js_K} : jm_sk (jm_sk s i S) i S' = jm_sk s i S' := by
  unfold jm_sk
  congr 1
  funext k
  by_cases h : k = i
  · simp [h]
  · simp [h]
theorem jx {n : Nat} (h : n < 2 ^ 31) : ix (nI n) = n := nI_clamp h
theorem jb_sw {x : Int32} {n : Nat} (hn : n < 2 ^ 31) (h : jb x n) : x.toInt < 0 ∨ (n : Int) ≤ x.toInt := by
  rcases h with q | q
  · exact Or.inl (Int32.lt_iff_toInt_lt.mp q)
  · have := Int32.le_iff_toInt_le.mp q
    rw [nI_toInt hn] at this
    exact Or.inr this
theorem jb_ne {x : Int32} {n k : Nat} (h : jb x n) (hk : k < n) (hn : n < 2 ^ 31) : ¬ x = nI k := fun q => jb_no hk hn (q ▸ h)
theorem jm_rs_le {rk : Nat → Nat} {b r c : Nat} (h : ∀ k, rk k ≤ c) (hr : r ≤ c) : ∀ k, jm_rs rk b r k ≤ c := by
  intro k
  unfold jm_rs jm_up
  split
  · show (if k = b then r else rk k) ≤ c
    split
    · exact hr
    · exact h k
  · exact h k
theorem jm_rkl_le {s B : Nat} (hB : B ≤ 6) (l : List Nat) : ∀ k, jm_rkl s B l k ≤ 17 - B := by
  have key : ∀ (l : List Nat) (rk : Nat → Nat), (∀ k, rk k ≤ 17 - B) → ∀ k, l.foldl (fun rk t => jm_rs rk (jm_hash t s % 2 ^ B) (jm_rank (jm_hash t s) B)) rk k ≤ 17 - B := by
    intro l
    induction l with
    | nil => intro rk h; exact h
    | cons t l ih => intro rk h; exact ih _ (jm_rs_le h (jm_rank_le (jm_hash_lt _ _) hB))
  exact key l _ (fun _ => Nat.zero_le _)
theorem jm_dist_lt {s B : Nat} {l : List Nat} (hB2 : 2 ≤ B) (hB : B ≤ 6) (hl : l.length ≤ 40) : jm_dist s B l ≤ 3000000 := by
  have h := jm_est_le (rk := jm_rkl s B l) (m := 2 ^ B) (Nat.two_pow_pos B) (jm_p6 hB) (fun b _ => Nat.le_trans (jm_rkl_le hB l b) (by omega))
  unfold jm_dist jm_ad
  split <;> omega
theorem jm_nx_s {p : Nat → Bool} {n t : Nat} (h : t < n) : jm_nx p (n - t) t = if p t then nI t else jm_nx p (n - (t + 1)) (t + 1) := by
  rw [show n - t = (n - (t + 1)) + 1 by omega]
  rfl
theorem jm_same_le (S S2 : js_K) : jm_same S S2 ≤ 2 ^ S.1 := by
  have := jm_sum_le (f := fun b => if S.2.1 b = S2.2.1 b then 1 else 0) (c := 1) (2 ^ S.1) (fun b _ => by show (if _ then 1 else 0) ≤ 1; split <;> omega)
  unfold jm_same; omega
theorem js_frX.of54 {G G' : js_G} (h : js_fr 54 G G') : js_frX G G' := js_frX.of h (by decide)
theorem jr_C.save {G G1 : js_G} {c : js_C} {i : Nat} (h : jr_C G c) (hi : i < 2) (p1 : jr_T G1 (1 + i) c.1) (p2 : js_frT (1 + i) G G1) : jr_C (js_st G1 186 i (nI 1)) (c.1, c.2.1, (fun k => if k = i then some c.1 else c.2.2.1 k), c.2.2.2) := by
  have e : ∀ a, a ≠ 186 → js_st G1 186 i (nI 1) a = G1 a := fun a ha => js_st_n ha
  have eT : ∀ u s, u < 9 → jr_T G1 u s → jr_T (js_st G1 186 i (nI 1)) u s := fun u s hu ⟨a, b, d⟩ => ⟨by rw [e _ (by unfold js_kA; omega)]; exact a, b, fun k hk => (d k hk).co (e _ (by unfold js_kS; omega)) (e _ (by unfold js_kR; omega)) (e _ (by unfold js_kT; omega))⟩
  obtain ⟨h1, ⟨o, b1, b2, b3, b4, b5⟩, h3, h4⟩ := h
  have q : ∀ a, 183 ≤ a → G1 a = G a := fun a ha => p2 a (by unfold js_kA; omega) (by omega)
  refine ⟨eT _ _ (by omega) (h1.frT p2 (by omega) (by omega) (by omega)), ⟨o, b1, by rw [e 183 (by decide), q 183 (by decide)]; exact b2, by rw [e 183 (by decide), q 183 (by decide)]; exact b3, b4, fun k s hk => ?_⟩, fun k hk => ⟨?_, fun s hs => ?_⟩, h4.co (by rw [e 187 (by decide), q 187 (by decide)]) (by rw [e 188 (by decide), q 188 (by decide)])⟩
  · have h6 : (o + k) % 6 < 6 := Nat.mod_lt _ (by decide)
    exact eT _ _ (by omega) ((b5 k s hk).frT p2 (by omega) (by omega) (by omega))
  · rw [js_st_s]
    unfold upd
    by_cases z : k = i
    · rw [if_pos z]; simp [z]
    · rw [if_neg z, q 186 (by decide), (h3 k hk).1]; simp [z]
  · by_cases z : k = i
    · subst z
      simp at hs
      subst hs
      exact eT _ _ (by omega) p1
    · simp only [if_neg z] at hs
      exact eT _ _ (by omega) (((h3 k hk).2 s hs).frT p2 (by omega) (by omega) (by omega))
