/-! texts: what is read off the pad -/
def jq (p : List Nat) (a : Nat) : Nat := p.getD a 0
abbrev jp_d (q : Nat) : Prop := 48 ≤ q ∧ q ≤ 57
abbrev jp_s (q : Nat) : Prop := 48 ≤ q ∧ q ≤ 53
def jp_more (p : List Nat) : Nat → Nat → Nat → Nat × Nat
  | 0, v, a => (v, a)
  | n + 1, v, a => if 0 < v ∧ jp_d (jq p a) ∧ v * 10 + (jq p a - 48) < 100000 then jp_more p n (v * 10 + (jq p a - 48)) (a + 1) else (v, a)
def jp_num (p : List Nat) (a : Nat) : Option (Nat × Nat) := if jp_d (jq p a) then some (jp_more p 79 (jq p a - 48) (a + 1)) else none
def jp_things (p : List Nat) : Nat → Nat → List Nat → Bool × Nat × List Nat
  | 0, a, ns => (false, a, ns)
  | n + 1, a, ns => match jp_num p a with
    | none => (false, a, ns)
    | some r => if jq p r.2 = 44 then jp_things p n (r.2 + 1) (ns ++ [r.1]) else (true, r.2, ns ++ [r.1])
def jp_two (p : List Nat) (a : Nat) : Bool × Nat × List Nat := match jp_num p a with
  | none => (false, a, [])
  | some r => if jq p r.2 = 43 then (match jp_num p (r.2 + 1) with
      | none => (false, r.2 + 1, [r.1])
      | some z => (true, z.2, [r.1, z.1])) else (false, r.2, [r.1])
def jp_rest (p : List Nat) (verb a : Nat) : Bool × Nat × List Nat :=
  if verb = 58 then jp_things p 80 (a + 1) []
  else if verb = 38 then (if jp_s (jq p (a + 1)) then (true, a + 2, [jq p (a + 1) - 48]) else (false, a + 1, []))
  else if verb = 42 then jp_two p (a + 1)
  else if verb = 33 ∨ verb = 47 then (true, a + 1, []) else (false, a, [])
def jp_ord (p : List Nat) (a : Nat) : Bool × Nat × List Nat := if jp_s (jq p a) then jp_rest p (jq p (a + 1)) (a + 1) else (false, a, [])
def jp_fault (p : List Nat) : Nat → Nat → Option Nat
  | 0, a => some a
  | n + 1, a => if (jp_ord p a).1 = true then (if jq p (jp_ord p a).2.1 = 59 then jp_fault p n ((jp_ord p a).2.1 + 1) else if (jp_ord p a).2.1 = p.length then none else some (jp_ord p a).2.1) else some (jp_ord p a).2.1
theorem jq_lt {p : List Nat} {a : Nat} (h : 0 < jq p a) : a < p.length := by
  rcases Nat.lt_or_ge a p.length with q | q
  · exact q
  · unfold jq at h; simp [List.getD, q] at h
theorem jp_more_le {p : List Nat} : ∀ n v a, a ≤ p.length → a ≤ (jp_more p n v a).2 ∧ (jp_more p n v a).2 ≤ p.length
  | 0, v, a, h => ⟨Nat.le_refl _, h⟩
  | n + 1, v, a, h => by
    unfold jp_more
    split
    · rename_i q
      have h1 : a < p.length := jq_lt (by have := q.2.1.1; omega)
      have := jp_more_le n (v * 10 + (jq p a - 48)) (a + 1) h1
      exact ⟨by omega, this.2⟩
    · exact ⟨Nat.le_refl _, h⟩
theorem jp_more_v {p : List Nat} : ∀ n v a, v < 100000 → (jp_more p n v a).1 < 100000
  | 0, v, a, h => h
  | n + 1, v, a, h => by
    unfold jp_more
    split
    · rename_i q; exact jp_more_v n _ _ q.2.2
    · exact h
theorem jp_num_le {p : List Nat} {a : Nat} {r : Nat × Nat} (h : jp_num p a = some r) : a + 1 ≤ r.2 ∧ r.2 ≤ p.length ∧ r.1 < 100000 := by
  unfold jp_num at h
  split at h
  · rename_i q
    cases h
    have h1 : a < p.length := jq_lt (by have := q.1; omega)
    have := jp_more_le 79 (jq p a - 48) (a + 1) h1 (p := p)
    exact ⟨this.1, this.2, jp_more_v _ _ _ (by have := q.2; omega)⟩
  · cases h
theorem jp_things_le {p : List Nat} : ∀ n a ns, a ≤ p.length → a ≤ (jp_things p n a ns).2.1 ∧ (jp_things p n a ns).2.1 ≤ p.length
  | 0, a, ns, h => ⟨Nat.le_refl _, h⟩
  | n + 1, a, ns, h => by
    unfold jp_things
    cases e : jp_num p a with
    | none => exact ⟨Nat.le_refl _, h⟩
    | some r =>
      obtain ⟨h1, h2, -⟩ := jp_num_le e
      show a ≤ (if jq p r.2 = 44 then jp_things p n (r.2 + 1) (ns ++ [r.1]) else (true, r.2, ns ++ [r.1])).2.1 ∧ (if jq p r.2 = 44 then jp_things p n (r.2 + 1) (ns ++ [r.1]) else (true, r.2, ns ++ [r.1])).2.1 ≤ p.length
      split
      · rename_i q
        have h3 : r.2 < p.length := jq_lt (by omega)
        have := jp_things_le n (r.2 + 1) (ns ++ [r.1]) h3
        exact ⟨by omega, this.2⟩
      · exact ⟨by show a ≤ r.2; omega, h2⟩
theorem jp_two_le {p : List Nat} {a : Nat} (h : a ≤ p.length) : a ≤ (jp_two p a).2.1 ∧ (jp_two p a).2.1 ≤ p.length := by
  unfold jp_two
  cases e : jp_num p a with
  | none => exact ⟨Nat.le_refl _, h⟩
  | some r =>
    obtain ⟨h1, h2, -⟩ := jp_num_le e
    simp only
    split
    · rename_i q
      have h3 : r.2 < p.length := jq_lt (by omega)
      cases e2 : jp_num p (r.2 + 1) with
      | none => exact ⟨by show a ≤ r.2 + 1; omega, by show r.2 + 1 ≤ p.length; omega⟩
      | some z =>
        obtain ⟨k1, k2, -⟩ := jp_num_le e2
        exact ⟨by show a ≤ z.2; omega, k2⟩
    · exact ⟨by show a ≤ r.2; omega, h2⟩
theorem jp_ord_le {p : List Nat} {a : Nat} (h : a ≤ p.length) : a ≤ (jp_ord p a).2.1 ∧ (jp_ord p a).2.1 ≤ p.length ∧ ((jp_ord p a).1 = true → a + 2 ≤ (jp_ord p a).2.1) := by
  unfold jp_ord
  split
  · rename_i q
    have h1 : a < p.length := jq_lt (by have := q.1; omega)
    unfold jp_rest
    split
    · rename_i v
      have h2 : a + 1 < p.length := jq_lt (by omega)
      have := jp_things_le 80 (a + 1 + 1) [] (p := p) h2
      exact ⟨by omega, this.2, fun _ => this.1⟩
    · split
      · rename_i v
        have h2 : a + 1 < p.length := jq_lt (by omega)
        split
        · rename_i z
          have h3 : a + 1 + 1 < p.length := jq_lt (by have := z.1; omega)
          exact ⟨by show a ≤ a + 1 + 2; omega, by show a + 1 + 2 ≤ _; omega, fun _ => by show a + 2 ≤ a + 1 + 2; omega⟩
        · exact ⟨by show a ≤ a + 1 + 1; omega, by show a + 1 + 1 ≤ _; omega, fun z => by cases z⟩
      · split
        · rename_i v
          have h2 : a + 1 < p.length := jq_lt (by omega)
          have := jp_two_le (p := p) (a := a + 1 + 1) h2
          exact ⟨by omega, this.2, fun _ => this.1⟩
        · split
          · rename_i v
            have h2 : a + 1 < p.length := jq_lt (by omega)
            exact ⟨by show a ≤ a + 1 + 1; omega, by show a + 1 + 1 ≤ _; omega, fun _ => Nat.le_refl _⟩
          · exact ⟨by show a ≤ a + 1; omega, by show a + 1 ≤ _; omega, fun z => by cases z⟩
  · exact ⟨Nat.le_refl _, h, fun z => by cases z⟩
/-- the numbers that were read -/
def jr_N (G : js_G) (ns : List Nat) : Prop := G 187 6 = nI ns.length ∧ ∀ k, k < ns.length → G 189 k = nI (ns.getD k 0)
/-- a reading changes the pad's own cell and its numbers alone, and not the length -/
def js_fp (G G' : js_G) : Prop := (∀ a, a ≠ 187 → a ≠ 189 → G' a = G a) ∧ G' 187 1 = G 187 1
theorem js_fp.rf {G : js_G} : js_fp G G := ⟨fun _ _ _ => rfl, rfl⟩
theorem js_fp.tr {G G1 G2 : js_G} (h : js_fp G G1) (h2 : js_fp G1 G2) : js_fp G G2 := ⟨fun a x y => (h2.1 a x y).trans (h.1 a x y), h2.2.trans h.2⟩
theorem js_fp.st {G : js_G} {i : Nat} {v : Int32} (h : i ≠ 1) : js_fp G (js_st G 187 i v) := ⟨fun a x _ => js_st_n x, by rw [js_st_s]; exact if_neg (Ne.symm h)⟩
theorem js_fp.stn {G : js_G} {i : Nat} {v : Int32} : js_fp G (js_st G 189 i v) := ⟨fun a _ x => js_st_n x, by rw [js_st_n (by decide)]⟩
theorem js_fp.P {G G' : js_G} {p : List Nat} (h : js_fp G G') (hP : jr_P G p) : jr_P G' p := hP.co h.2 (h.1 188 (by decide) (by decide))
theorem jr_P.at {G : js_G} {p : List Nat} {a : Nat} (h : jr_P G p) (ha : a < p.length) : G 188 a = nI (jq p a) := (h.2.2 a ha).1
theorem jr_P.q {G : js_G} {p : List Nat} (h : jr_P G p) (a : Nat) : jq p a ≤ 126 := by
  rcases Nat.lt_or_ge a p.length with q | q
  · exact (h.2.2 a q).2.2
  · unfold jq; simp [List.getD, q]
theorem jr_P.q0 {p : List Nat} {a : Nat} (h : p.length ≤ a) : jq p a = 0 := by unfold jq; simp [List.getD, h]
theorem jr_N.st {G : js_G} {ns : List Nat} {i : Nat} {v : Int32} (h : jr_N G ns) (hi : i ≠ 6) : jr_N (js_st G 187 i v) ns := ⟨by rw [js_st_s]; exact (if_neg (Ne.symm hi)).trans h.1, fun k hk => by rw [js_st_n (by decide)]; exact h.2 k hk⟩
theorem jr_N.push {G : js_G} {ns : List Nat} {v : Nat} (h : jr_N G ns) : jr_N (js_st (js_st G 189 ns.length (nI v)) 187 6 (nI (ns.length + 1))) (ns ++ [v]) := by
  refine ⟨by rw [js_st_s]; simp [upd], fun k hk => ?_⟩
  rw [js_st_n (by decide), js_st_s]
  simp only [List.length_append, List.length_cons, List.length_nil] at hk
  by_cases q : k = ns.length
  · subst q; simp [upd]
  · rw [upd, if_neg q, h.2 k (by omega)]
    congr 1
    simp [List.getD, List.getElem?_append_left (show k < ns.length by omega)]
theorem jn_narC {q : Nat} (h : q ≤ 126) : narrow .char (.int (nI q)) = .int (nI q) := (pk_charN (by omega)).1
theorem jr_N.nil {G : js_G} (h : G 187 6 = nI 0) : jr_N G [] := ⟨h, fun _ hk => absurd hk (Nat.not_lt_zero _)⟩
/-- what a reading leaves: whether it went through, where it stands, the numbers -/
def jp_post (t : Bool × Nat × List Nat) (r : Int32) (G G' : js_G) : Prop := r = nI (if t.1 = true then 1 else 0) ∧ G' 187 2 = nI t.2.1 ∧ (t.1 = true → jr_N G' t.2.2) ∧ js_fp G G' ∧ G' 187 3 = G 187 3 ∧ G' 187 4 = G 187 4
def jp_po (p : List Nat) (a : Nat) (r : Int32) (G G' : js_G) : Prop := r = nI (if (jp_ord p a).1 = true then 1 else 0) ∧ G' 187 2 = nI (jp_ord p a).2.1 ∧ ((jp_ord p a).1 = true → jr_N G' (jp_ord p a).2.2 ∧ G' 187 3 = nI (jq p a - 48) ∧ G' 187 4 = nI (jq p (a + 1))) ∧ js_fp G G'
theorem jp_po_of {p : List Nat} {a : Nat} {r : Int32} {G G' : js_G} {t : Bool × Nat × List Nat} (ho : jp_ord p a = t) (h : r = nI (if t.1 = true then 1 else 0) ∧ G' 187 2 = nI t.2.1 ∧ (t.1 = true → jr_N G' t.2.2 ∧ G' 187 3 = nI (jq p a - 48) ∧ G' 187 4 = nI (jq p (a + 1))) ∧ js_fp G G') : jp_po p a r G G' := by
  unfold jp_po
  rw [ho]
  exact h
def jp_oth (p : List Nat) (a : Nat) : Bool × Nat × List Nat := if jp_s (jq p a) then (true, a + 1, [jq p a - 48]) else (false, a, [])
theorem jp_things_no {p : List Nat} {n a : Nat} {ns : List Nat} (h : jp_num p a = none) : jp_things p (n + 1) a ns = (false, a, ns) := by simp only [jp_things, h]
theorem jp_things_go {p : List Nat} {n a v z : Nat} {ns : List Nat} (h : jp_num p a = some (v, z)) (h2 : jq p z = 44) : jp_things p (n + 1) a ns = jp_things p n (z + 1) (ns ++ [v]) := by simp only [jp_things, h]; rw [if_pos h2]
theorem jp_things_end {p : List Nat} {n a v z : Nat} {ns : List Nat} (h : jp_num p a = some (v, z)) (h2 : ¬ jq p z = 44) : jp_things p (n + 1) a ns = (true, z, ns ++ [v]) := by simp only [jp_things, h]; rw [if_neg h2]
theorem jp_ord_t {p : List Nat} {a : Nat} (hs : jp_s (jq p a)) (hv : jq p (a + 1) = 58) : jp_ord p a = jp_things p 80 (a + 1 + 1) [] := by
  unfold jp_ord jp_rest; rw [if_pos hs, if_pos hv]
theorem jp_ord_o {p : List Nat} {a : Nat} (hs : jp_s (jq p a)) (hv : jq p (a + 1) = 38) : jp_ord p a = jp_oth p (a + 1 + 1) := by
  unfold jp_ord jp_rest jp_oth; rw [if_pos hs, if_neg (by omega), if_pos hv]
theorem jp_ord_r {p : List Nat} {a : Nat} (hs : jp_s (jq p a)) (hv : jq p (a + 1) = 42) : jp_ord p a = jp_two p (a + 1 + 1) := by
  unfold jp_ord jp_rest; rw [if_pos hs, if_neg (by omega), if_neg (by omega), if_pos hv]
theorem jp_ord_e {p : List Nat} {a : Nat} (hs : jp_s (jq p a)) (hv : jq p (a + 1) = 33) : jp_ord p a = (true, a + 1 + 1, []) := by
  unfold jp_ord jp_rest; rw [if_pos hs, if_neg (by omega), if_neg (by omega), if_neg (by omega), if_pos (Or.inl hv)]
theorem jp_ord_f {p : List Nat} {a : Nat} (hs : jp_s (jq p a)) (hv : jq p (a + 1) = 47) : jp_ord p a = (true, a + 1 + 1, []) := by
  unfold jp_ord jp_rest; rw [if_pos hs, if_neg (by omega), if_neg (by omega), if_neg (by omega), if_pos (Or.inr hv)]
theorem jp_ord_x {p : List Nat} {a : Nat} (hs : jp_s (jq p a)) (hv : jq p (a + 1) ≠ 58 ∧ jq p (a + 1) ≠ 38 ∧ jq p (a + 1) ≠ 42 ∧ jq p (a + 1) ≠ 33 ∧ jq p (a + 1) ≠ 47) : jp_ord p a = (false, a + 1, []) := by
  unfold jp_ord jp_rest; rw [if_pos hs, if_neg (by omega), if_neg (by omega), if_neg (by omega), if_neg (by omega)]
theorem jp_ord_r0 {p : List Nat} {a : Nat} (hs : jp_s (jq p a)) (hv : jq p (a + 1) = 42) (h1 : jp_num p (a + 1 + 1) = none) : jp_ord p a = (false, a + 1 + 1, []) := by
  rw [jp_ord_r hs hv]; simp only [jp_two, h1]
theorem jp_ord_r1 {p : List Nat} {a : Nat} {v z : Nat} (hs : jp_s (jq p a)) (hv : jq p (a + 1) = 42) (h1 : jp_num p (a + 1 + 1) = some (v, z)) (h2 : ¬ jq p z = 43) : jp_ord p a = (false, z, [v]) := by
  rw [jp_ord_r hs hv]; simp only [jp_two, h1]; rw [if_neg h2]
theorem jp_ord_r2 {p : List Nat} {a : Nat} {v z : Nat} (hs : jp_s (jq p a)) (hv : jq p (a + 1) = 42) (h1 : jp_num p (a + 1 + 1) = some (v, z)) (h2 : jq p z = 43) (h3 : jp_num p (z + 1) = none) : jp_ord p a = (false, z + 1, [v]) := by
  rw [jp_ord_r hs hv]; simp only [jp_two, h1, h3]; rw [if_pos h2]
theorem jp_ord_r3 {p : List Nat} {a : Nat} {v z v2 z2 : Nat} (hs : jp_s (jq p a)) (hv : jq p (a + 1) = 42) (h1 : jp_num p (a + 1 + 1) = some (v, z)) (h2 : jq p z = 43) (h3 : jp_num p (z + 1) = some (v2, z2)) : jp_ord p a = (true, z2, [v, v2]) := by
  rw [jp_ord_r hs hv]; simp only [jp_two, h1, h3]; rw [if_pos h2]
/-- the answer of fault -/
def jp_fz (o : Option Nat) : Int32 := match o with
  | none => -6
  | some z => nI z
def jp_fa (p : List Nat) : Int32 := jp_fz (jp_fault p 80 0)
theorem jp_fault_no {p : List Nat} {n a : Nat} (h : ¬ (jp_ord p a).1 = true) : jp_fault p (n + 1) a = some (jp_ord p a).2.1 := by unfold jp_fault; rw [if_neg h]
theorem jp_fault_go {p : List Nat} {n a : Nat} (h : (jp_ord p a).1 = true) (h2 : jq p (jp_ord p a).2.1 = 59) : jp_fault p (n + 1) a = jp_fault p n ((jp_ord p a).2.1 + 1) := by
  rw [jp_fault, if_pos h, if_pos h2]
theorem jp_fault_end {p : List Nat} {n a : Nat} (h : (jp_ord p a).1 = true) (h2 : ¬ jq p (jp_ord p a).2.1 = 59) : jp_fault p (n + 1) a = if (jp_ord p a).2.1 = p.length then none else some (jp_ord p a).2.1 := by
  rw [jp_fault, if_pos h, if_neg h2]
