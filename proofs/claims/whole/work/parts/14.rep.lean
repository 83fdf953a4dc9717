/-! what a sketch of the class is, read off the store -/
def jm_add1 (ls : Option (List Nat)) (t : Nat) : Option (List Nat) := match ls with
  | none => none
  | some l => if t ∈ l then some l else if l.length = 40 then none else some (l ++ [t])
def jm_addL (ls : Option (List Nat)) (ts : List Nat) : Option (List Nat) := ts.foldl jm_add1 ls
def jm_rs (rk : Nat → Nat) (b r : Nat) : Nat → Nat := if rk b < r then jm_up rk b r else rk
def jm_mx (rk rk2 : Nat → Nat) : Nat → Nat := fun b => if rk b < rk2 b then rk2 b else rk b
def jm_fd (B : Nat) (rk : Nat → Nat) : Nat → Nat := fun b => if rk b = 0 then (if rk (b + 2 ^ (B - 1)) = 0 then 0 else 1) else rk b + 1
def jr_L (G : js_G) (j : Nat) (ls : Option (List Nat)) : Prop := match ls with
  | none => G (js_kS j) 3 = nI 0 ∧ G (js_kS j) 4 = nI 1
  | some l => G (js_kS j) 3 = nI l.length ∧ G (js_kS j) 4 = nI 0 ∧ l.length ≤ 40 ∧ (∀ t, t ∈ l → t < 100000) ∧ ∀ k, k < l.length → G (js_kT j) k = nI (l.getD k 0)
def jr_S (G : js_G) (j B : Nat) (rk : Nat → Nat) (ls : Option (List Nat)) : Prop :=
  2 ≤ B ∧ B ≤ 6 ∧ G (js_kS j) 0 = nI B ∧ (∀ b, b < 2 ^ B → G (js_kR j) b = nI (rk b)) ∧ (∀ b, b < 2 ^ B → rk b ≤ 17 - B) ∧ jr_L G j ls
def js_fr (j : Nat) (G G' : js_G) : Prop := ∀ a, a ≠ js_kS j → a ≠ js_kR j → a ≠ js_kT j → G' a = G a
theorem js_fr.rf {j : Nat} {G : js_G} : js_fr j G G := fun _ _ _ _ => rfl
theorem js_fr.tr {j : Nat} {G G1 G2 : js_G} (h1 : js_fr j G G1) (h2 : js_fr j G1 G2) : js_fr j G G2 := fun a x y z => (h2 a x y z).trans (h1 a x y z)
theorem js_fr.at {j k : Nat} {G G' : js_G} (h : js_fr j G G') (hk : k ≠ j) : G' (js_kS k) = G (js_kS k) ∧ G' (js_kR k) = G (js_kR k) ∧ G' (js_kT k) = G (js_kT k) :=
  ⟨h _ (by unfold js_kS; omega) (by unfold js_kS js_kR; omega) (by unfold js_kS js_kT; omega), h _ (by unfold js_kS js_kR; omega) (by unfold js_kR; omega) (by unfold js_kR js_kT; omega), h _ (by unfold js_kS js_kT; omega) (by unfold js_kR js_kT; omega) (by unfold js_kT; omega)⟩
theorem js_fr.st {j k i : Nat} {v : Int32} {G : js_G} (h : k = js_kS j ∨ k = js_kR j ∨ k = js_kT j) : js_fr j G (js_st G k i v) := fun a x y z => js_st_n (by rcases h with rfl | rfl | rfl <;> assumption)
theorem js_fr.up {j k : Nat} {f : Nat → Int32} {G : js_G} (h : k = js_kS j ∨ k = js_kR j ∨ k = js_kT j) : js_fr j G (js_up G k f) := fun a x y z => js_up_n (by rcases h with rfl | rfl | rfl <;> assumption)
theorem jr_L.co {G G' : js_G} {j : Nat} {ls : Option (List Nat)} (h : jr_L G j ls) (h3 : G' (js_kS j) 3 = G (js_kS j) 3) (h4 : G' (js_kS j) 4 = G (js_kS j) 4) (hT : ls ≠ none → ∀ k, k < 40 → G' (js_kT j) k = G (js_kT j) k) : jr_L G' j ls := by
  cases ls with
  | none => exact ⟨h3.trans h.1, h4.trans h.2⟩
  | some l =>
    obtain ⟨a, b, c, d, e⟩ := h
    exact ⟨h3.trans a, h4.trans b, c, d, fun k hk => (hT (by simp) k (by omega)).trans (e k hk)⟩
theorem jr_S.co {G G' : js_G} {j B : Nat} {rk : Nat → Nat} {ls : Option (List Nat)} (h : jr_S G j B rk ls) (h0 : G' (js_kS j) = G (js_kS j)) (hR : G' (js_kR j) = G (js_kR j)) (hT : G' (js_kT j) = G (js_kT j)) : jr_S G' j B rk ls := by
  obtain ⟨a, b, c, d, e, f⟩ := h
  exact ⟨a, b, by rw [h0]; exact c, fun b hb => by rw [hR]; exact d b hb, e, f.co (by rw [h0]) (by rw [h0]) (fun _ k _ => by rw [hT])⟩
theorem jr_S.fr {G G' : js_G} {j k B : Nat} {rk : Nat → Nat} {ls : Option (List Nat)} (h : jr_S G k B rk ls) (hf : js_fr j G G') (hk : k ≠ j) : jr_S G' k B rk ls := by
  obtain ⟨a, b, c⟩ := hf.at hk
  exact h.co a b c
theorem jn_nar2 {f : Nat} (h : f < 2) : narrow .boolean (.int (nI f)) = .int (nI f) := by
  rcases (show f = 0 ∨ f = 1 by omega) with rfl | rfl <;> rfl
theorem jn_fit2 {f : Nat} (h : f < 2) : fits .boolean (.int (nI f)) = true := by
  rcases (show f = 0 ∨ f = 1 by omega) with rfl | rfl <;> rfl
theorem jn_narB {p : Prop} [Decidable p] : narrow .boolean (.int (nI (if p then 1 else 0))) = .int (nI (if p then 1 else 0)) := by
  split <;> rfl
theorem jm_add1_mem {l : List Nat} {t : Nat} (h : t ∈ l) : jm_add1 (some l) t = some l := if_pos h
theorem jm_add1_full {l : List Nat} {t : Nat} (h : ¬ t ∈ l) (h2 : l.length = 40) : jm_add1 (some l) t = none := (if_neg h).trans (if_pos h2)
theorem jm_add1_new {l : List Nat} {t : Nat} (h : ¬ t ∈ l) (h2 : ¬ l.length = 40) : jm_add1 (some l) t = some (l ++ [t]) := (if_neg h).trans (if_neg h2)
theorem jm_not_mem {l : List Nat} {t i : Nat} (h : ∀ k, k < i → l.getD k 0 ≠ t) (hi : i = l.length) : ¬ t ∈ l := by
  intro hm
  obtain ⟨k, hk, e⟩ := List.getElem_of_mem hm
  exact h k (by omega) (by simp [List.getD, hk, e])
/-- a thing behind the others -/
theorem jr_L_push {G G' : js_G} {j : Nat} {l : List Nat} {t : Nat} (h : jr_L G j (some l)) (hl : l.length < 40) (ht : t < 100000) (e : js_st (js_st G (js_kT j) l.length (nI t)) (js_kS j) 3 (nI (l.length + 1)) = G') : jr_L G' j (some (l ++ [t])) := by
  obtain ⟨a, b, c, d, f⟩ := h
  have n1 : js_kS j ≠ js_kT j := by unfold js_kS js_kT; omega
  have n2 : js_kT j ≠ js_kS j := by unfold js_kS js_kT; omega
  subst e
  refine ⟨?_, ?_, ?_, ?_, ?_⟩
  · rw [js_st_s]; simp [upd]
  · rw [js_st_s, js_st_n n1]; simp [upd]; exact b
  · simp; omega
  · intro z hz
    rcases List.mem_append.mp hz with q | q
    · exact d z q
    · simp at q; omega
  · intro k hk
    rw [js_st_n n2, js_st_s]
    simp only [List.length_append, List.length_cons, List.length_nil] at hk
    by_cases hkl : k = l.length
    · subst hkl; simp [upd]
    · rw [upd, if_neg hkl, f k (by omega)]
      congr 1
      simp [List.getD, List.getElem?_append_left (show k < l.length by omega)]
theorem jm_addL_take {ls : Option (List Nat)} {l : List Nat} {k : Nat} (h : k < l.length) : jm_addL ls (l.take (k + 1)) = jm_add1 (jm_addL ls (l.take k)) (l.getD k 0) := by
  unfold jm_addL
  rw [List.take_succ, List.foldl_append]
  simp [List.getD, h]
theorem jm_half {B : Nat} (h : 1 ≤ B) : 2 ^ B / 2 = 2 ^ (B - 1) ∧ 2 ^ B = 2 ^ (B - 1) + 2 ^ (B - 1) := by
  obtain ⟨b, rfl⟩ : ∃ b, B = b + 1 := ⟨B - 1, by omega⟩
  rw [Nat.pow_succ, Nat.add_sub_cancel]
  omega
theorem jr_S_raise {G : js_G} {j B b r : Nat} {rk : Nat → Nat} {ls : Option (List Nat)} (h : jr_S G j B rk ls) (hb : b < 2 ^ B) (hr : r ≤ 17 - B) : jr_S (if rk b < r then js_st G (js_kR j) b (nI r) else G) j B (jm_rs rk b r) ls := by
  unfold jm_rs
  by_cases q : rk b < r
  · rw [if_pos q, if_pos q]
    obtain ⟨h1, h2, h3, h4, h5, h6⟩ := h
    have n1 : js_kS j ≠ js_kR j := by unfold js_kS js_kR; omega
    have n2 : js_kT j ≠ js_kR j := by unfold js_kT js_kR; omega
    refine ⟨h1, h2, by rw [js_st_n n1]; exact h3, fun c hc => ?_, fun c hc => ?_, h6.co (by rw [js_st_n n1]) (by rw [js_st_n n1]) (fun _ k _ => by rw [js_st_n n2])⟩
    · rw [js_st_s]
      unfold upd jm_up
      split
      · rfl
      · exact h4 c hc
    · unfold jm_up
      split
      · exact hr
      · exact h5 c hc
  · rw [if_neg q, if_neg q]; exact h
theorem js_fr_if {j : Nat} {G G1 : js_G} {p : Prop} [Decidable p] (h : js_fr j G G1) : js_fr j G (if p then G1 else G) := by
  split
  · exact h
  · exact js_fr.rf
theorem jm_fd_le {B : Nat} {rk : Nat → Nat} (hB : 3 ≤ B) (hB6 : B ≤ 6) (h : ∀ b, b < 2 ^ B → rk b ≤ 17 - B) {b : Nat} (hb : b < 2 ^ (B - 1)) : jm_fd B rk b ≤ 17 - (B - 1) := by
  have h1 := (jm_half (B := B) (by omega)).2
  have h2 := h b (by omega)
  unfold jm_fd
  split
  · split <;> omega
  · omega
def jm_jl (ls ls2 : Option (List Nat)) : Option (List Nat) := match ls2 with
  | none => none
  | some l2 => jm_addL ls l2
theorem jl_st {G1 : js_G} {k i n v : Nat} {f g : Nat → Nat} (h1 : ∀ b, b < n → G1 k b = nI (if b < i then f b else g b)) (hv : v = f i) : ∀ b, b < n → js_st G1 k i (nI v) k b = nI (if b < i + 1 then f b else g b) := by
  intro b hb
  rw [js_st_s]
  unfold upd
  by_cases q : b = i
  · subst q; rw [if_pos rfl, if_pos (by omega), hv]
  · rw [if_neg q, h1 b hb]
    by_cases q2 : b < i
    · rw [if_pos q2, if_pos (by omega)]
    · rw [if_neg q2, if_neg (by omega)]
theorem jl_mx {G1 Gr : js_G} {k i n : Nat} {rk rk2 : Nat → Nat} (h1 : ∀ b, b < n → G1 k b = nI (if b < i then jm_mx rk rk2 b else rk b)) (e : (if rk i < rk2 i then js_st G1 k i (nI (rk2 i)) else G1) = Gr) : (∀ b, b < n → Gr k b = nI (if b < i + 1 then jm_mx rk rk2 b else rk b)) ∧ ∀ a, a ≠ k → Gr a = G1 a := by
  subst e
  by_cases q : rk i < rk2 i
  · rw [if_pos q]
    exact ⟨jl_st h1 (by unfold jm_mx; rw [if_pos q]), fun a ha => js_st_n ha⟩
  · rw [if_neg q]
    refine ⟨fun b hb => ?_, fun _ _ => rfl⟩
    rw [h1 b hb]
    by_cases q1 : b < i
    · rw [if_pos q1, if_pos (by omega)]
    · rw [if_neg q1]
      by_cases q2 : b < i + 1
      · rw [if_pos q2, show b = i by omega]
        unfold jm_mx; rw [if_neg q]
      · rw [if_neg q2]
theorem jm_mx_le {rk rk2 : Nat → Nat} {b c : Nat} (h : rk b ≤ c) (h2 : rk2 b ≤ c) : jm_mx rk rk2 b ≤ c := by unfold jm_mx; split <;> assumption
/-- a state of the class: its salt and its six sketches -/
abbrev jr_K (G : js_G) (j : Nat) (S : js_K) : Prop := jr_S G j S.1 S.2.1 S.2.2
abbrev js_T : Type := Nat × (Nat → js_K)
def jr_T (G : js_G) (t : Nat) (s : js_T) : Prop := G (js_kA t) 0 = nI s.1 ∧ s.1 < 65536 ∧ ∀ i, i < 6 → jr_K G (6 * t + i) (s.2 i)
def js_frT (t : Nat) (G G' : js_G) : Prop := ∀ a, a ≠ js_kA t → (a < 18 * t ∨ 18 * t + 18 ≤ a) → G' a = G a
theorem js_frT.rf {t : Nat} {G : js_G} : js_frT t G G := fun _ _ _ => rfl
theorem js_frT.tr {t : Nat} {G G1 G2 : js_G} (h1 : js_frT t G G1) (h2 : js_frT t G1 G2) : js_frT t G G2 := fun a x y => (h2 a x y).trans (h1 a x y)
theorem js_frT.of {t j : Nat} {G G1 : js_G} (h : js_fr j G G1) (h1 : 6 * t ≤ j) (h2 : j < 6 * t + 6) : js_frT t G G1 := fun a _ y => h a (by unfold js_kS; omega) (by unfold js_kR; omega) (by unfold js_kT; omega)
theorem js_fr.kA {t j : Nat} {G G1 : js_G} (h : js_fr j G G1) (hj : j < 55) : G1 (js_kA t) = G (js_kA t) := h _ (by unfold js_kA js_kS; omega) (by unfold js_kA js_kR; omega) (by unfold js_kA js_kT; omega)
theorem js_frT.st {t i : Nat} {v : Int32} {G : js_G} : js_frT t G (js_st G (js_kA t) i v) := fun a x _ => js_st_n x
def jm_e (S : js_K) : js_K := (S.1, fun _ => 0, some [])
theorem jr_K.frT {G G' : js_G} {t j : Nat} {S : js_K} (h : jr_K G j S) (hf : js_frT t G G') (hj : j < 55) (ht : t < 9) (hn : j < 6 * t ∨ 6 * t + 6 ≤ j) : jr_K G' j S :=
  h.co (hf _ (by unfold js_kS js_kA; omega) (by unfold js_kS; omega)) (hf _ (by unfold js_kR js_kA; omega) (by unfold js_kR; omega)) (hf _ (by unfold js_kT js_kA; omega) (by unfold js_kT; omega))
theorem jr_T.frT {G G' : js_G} {t u : Nat} {s : js_T} (h : jr_T G u s) (hf : js_frT t G G') (ht : t < 9) (hu : u < 9) (hn : u ≠ t) : jr_T G' u s := by
  obtain ⟨h1, h2, h3⟩ := h
  refine ⟨by rw [hf _ (by unfold js_kA; omega) (by unfold js_kA; omega)]; exact h1, h2, fun i hi => (h3 i hi).frT hf (by omega) ht (by omega)⟩
def jm_sket (p : Nat → Nat) : Nat := jm_sum p 6
