/-! what the reference is, read off the store: its state's cells 0 to 636, a sketch in 106 of them -/
def jz (B : Nat) (rk : Nat → Nat) (b : Nat) : Nat := if b < 2 ^ B then rk b else 0
theorem jz_lt {B : Nat} {rk : Nat → Nat} {b : Nat} (h : b < 2 ^ B) : jz B rk b = rk b := if_pos h
theorem jz_le {B : Nat} {rk : Nat → Nat} (h : ∀ b, b < 2 ^ B → rk b ≤ 17 - B) (b : Nat) : jz B rk b ≤ 17 - B := by
  unfold jz; split
  · rename_i q; exact h b q
  · exact Nat.zero_le _
def mr_L (G : js_G) (k o : Nat) (ls : Option (List Nat)) : Prop := match ls with
  | none => G k (o + 1) = -6
  | some l => G k (o + 1) = nI l.length ∧ l.length ≤ 40 ∧ (∀ t, t ∈ l → t < 100000) ∧ ∀ i, i < l.length → G k (o + (66 + i)) = nI (l.getD i 0)
def mr_S (G : js_G) (k o B : Nat) (rk : Nat → Nat) (ls : Option (List Nat)) : Prop :=
  2 ≤ B ∧ B ≤ 6 ∧ G k (o + 0) = nI B ∧ (∀ b, b < 64 → G k (o + (2 + b)) = nI (jz B rk b)) ∧ (∀ b, b < 2 ^ B → rk b ≤ 17 - B) ∧ mr_L G k o ls
abbrev mr_K (G : js_G) (k o : Nat) (S : js_K) : Prop := mr_S G k o S.1 S.2.1 S.2.2
def mr_T (G : js_G) (k o : Nat) (s : js_T) : Prop := G k (o + 0) = nI s.1 ∧ s.1 < 65536 ∧ ∀ i, i < 6 → mr_K G k (o + (1 + 106 * i)) (s.2 i)
theorem mr_L.mv {G G' : js_G} {k o k' o' : Nat} {ls : Option (List Nat)} (h : mr_L G k o ls) (e : ∀ i, i < 106 → G' k' (o' + i) = G k (o + i)) : mr_L G' k' o' ls := by
  cases ls with
  | none => exact (e 1 (by decide)).trans h
  | some l =>
    obtain ⟨a, b, c, d⟩ := h
    exact ⟨(e 1 (by decide)).trans a, b, c, fun i hi => (e _ (by omega)).trans (d i hi)⟩
theorem mr_S.mv {G G' : js_G} {k o k' o' B : Nat} {rk : Nat → Nat} {ls : Option (List Nat)} (h : mr_S G k o B rk ls) (e : ∀ i, i < 106 → G' k' (o' + i) = G k (o + i)) : mr_S G' k' o' B rk ls := by
  obtain ⟨a, b, c, d, f, g⟩ := h
  exact ⟨a, b, (e 0 (by decide)).trans c, fun b hb => (e _ (by omega)).trans (d b hb), f, g.mv e⟩
theorem mr_T.mv {G G' : js_G} {k o k' o' : Nat} {s : js_T} (h : mr_T G k o s) (e : ∀ i, i < 637 → G' k' (o' + i) = G k (o + i)) : mr_T G' k' o' s := by
  obtain ⟨a, b, c⟩ := h
  refine ⟨(e 0 (by decide)).trans a, b, fun i hi => (c i hi).mv (fun j hj => ?_)⟩
  have := e (1 + 106 * i + j) (by omega)
  rw [Nat.add_assoc o', Nat.add_assoc o]
  exact this
/-- changes of one sketch's cells of the state -/
def mfS (s : Nat) (G G' : js_G) : Prop := (∀ a, a ≠ 192 → G' a = G a) ∧ ∀ i, i < 1 + 106 * s ∨ 1 + 106 * s + 106 ≤ i → G' 192 i = G 192 i
theorem mfS.rf {s : Nat} {G : js_G} : mfS s G G := ⟨fun _ _ => rfl, fun _ _ => rfl⟩
theorem mfS.tr {s : Nat} {G G1 G2 : js_G} (h : mfS s G G1) (h2 : mfS s G1 G2) : mfS s G G2 := ⟨fun a x => (h2.1 a x).trans (h.1 a x), fun i x => (h2.2 i x).trans (h.2 i x)⟩
theorem mfS.st {s p : Nat} {G : js_G} {v : Int32} (hp : p < 106) : mfS s G (js_st G 192 ((1 + 106 * s) + p) v) := ⟨fun a x => js_st_n x, fun i x => by rw [js_st_s]; exact if_neg (by omega)⟩
theorem mr_S.fr {G G' : js_G} {s k B : Nat} {rk : Nat → Nat} {ls : Option (List Nat)} (h : mr_S G 192 (1 + 106 * k) B rk ls) (hf : mfS s G G') (hk : k ≠ s) : mr_S G' 192 (1 + 106 * k) B rk ls :=
  h.mv (fun i hi => hf.2 _ (by omega))
theorem mr_S.co {G G' : js_G} {k o B : Nat} {rk : Nat → Nat} {ls : Option (List Nat)} (h : mr_S G k o B rk ls) (e : G' k = G k) : mr_S G' k o B rk ls := h.mv (fun _ _ => by rw [e])
theorem mr_T.co {G G' : js_G} {k o : Nat} {s : js_T} (h : mr_T G k o s) (e : G' k = G k) : mr_T G' k o s := h.mv (fun _ _ => by rw [e])
/-- changes of the row for ranks alone -/
def mfR (G G' : js_G) : Prop := ∀ a, a ≠ 197 → G' a = G a
theorem mfR.rf {G : js_G} : mfR G G := fun _ _ => rfl
theorem mfR.tr {G G1 G2 : js_G} (h : mfR G G1) (h2 : mfR G1 G2) : mfR G G2 := fun a x => (h2 a x).trans (h a x)
theorem mfR.st {G : js_G} {i : Nat} {v : Int32} : mfR G (js_st G 197 i v) := fun a x => js_st_n x
theorem jw_jb {x : Int32} {k : Nat} (hk : k + 1 < 2 ^ 31) : (nI 0 ≤ x ∧ x ≤ nI k) ↔ ¬ jb x (k + 1) := by
  unfold jb
  rw [Int32.lt_iff_toInt_lt, Int32.le_iff_toInt_le, Int32.le_iff_toInt_le, Int32.le_iff_toInt_le, nI_toInt (show k < 2 ^ 31 by omega), nI_toInt hk, nI_toInt (show 0 < 2 ^ 31 by decide)]
  have : (0 : Int32).toInt = 0 := rfl
  omega
theorem jw_if {x : Int32} {k : Nat} (hk : k + 1 < 2 ^ 31) : (if nI 0 ≤ x ∧ x ≤ nI k then 1 else 0) = (if ¬ jb x (k + 1) then 1 else 0) := by
  by_cases h : nI 0 ≤ x ∧ x ≤ nI k
  · rw [if_pos h, if_pos ((jw_jb hk).mp h)]
  · rw [if_neg h, if_neg (fun q => h ((jw_jb hk).mpr q))]
theorem jm_ctz_odd {x : Nat} (h : ¬ x % 2 = 0) : jm_ctz 16 x = 0 := by unfold jm_ctz; rw [if_pos (by omega)]
theorem jm_ctz_even {x : Nat} (h : x % 2 = 0) (h0 : 0 < x) (hx : x < 65536) : jm_ctz 16 x = jm_ctz 16 (x / 2) + 1 := by
  rw [jm_ctz, if_neg (by omega), jm_ctz_fuel 15 16 (x / 2) (by omega) (by omega) (by decide)]
/-- a sketch's rank is raised -/
theorem mr_S_raise {G : js_G} {s B b r : Nat} {rk : Nat → Nat} {ls : Option (List Nat)} (h : mr_S G 192 (1 + 106 * s) B rk ls) (hb : b < 2 ^ B) (hr : r ≤ 17 - B) (q : rk b < r) : mr_S (js_st G 192 ((1 + 106 * s) + (2 + b)) (nI r)) 192 (1 + 106 * s) B (jm_rs rk b r) ls := by
  obtain ⟨h1, h2, h3, h4, h5, h6⟩ := h
  have hp := jm_p6 h2
  unfold jm_rs
  rw [if_pos q]
  refine ⟨h1, h2, ?_, fun c hc => ?_, fun c hc => ?_, ?_⟩
  · rw [js_st_s]; exact (if_neg (by omega)).trans h3
  · rw [js_st_s]
    unfold upd jz jm_up
    by_cases e : c = b
    · subst e; rw [if_pos rfl, if_pos hb, if_pos rfl]
    · rw [if_neg (by omega), if_neg e, h4 c hc]; rfl
  · unfold jm_up; split
    · exact hr
    · exact h5 c hc
  · cases ls with
    | none => show js_st G 192 _ _ 192 _ = _; rw [js_st_s]; exact (if_neg (by omega)).trans h6
    | some l =>
      obtain ⟨a, b', c, d⟩ := h6
      refine ⟨?_, b', c, fun i hi => ?_⟩
      · rw [js_st_s]; exact (if_neg (by omega)).trans a
      · rw [js_st_s]; exact (if_neg (by omega)).trans (d i hi)
/-- a thing behind the others -/
theorem mr_S_push {G : js_G} {s B t : Nat} {rk : Nat → Nat} {l : List Nat} (h : mr_S G 192 (1 + 106 * s) B rk (some l)) (hl : l.length < 40) (ht : t < 100000) : mr_S (js_st (js_st G 192 ((1 + 106 * s) + (66 + l.length)) (nI t)) 192 ((1 + 106 * s) + 1) (nI (l.length + 1))) 192 (1 + 106 * s) B rk (some (l ++ [t])) := by
  obtain ⟨h1, h2, h3, h4, h5, a, b, c, d⟩ := h
  refine ⟨h1, h2, ?_, fun b' hb => ?_, h5, ?_, by simp; omega, fun z hz => ?_, fun k hk => ?_⟩
  · rw [js_st_s, js_st_s]; exact (if_neg (by omega)).trans ((if_neg (by omega)).trans h3)
  · rw [js_st_s, js_st_s]; exact (if_neg (by omega)).trans ((if_neg (by omega)).trans (h4 b' hb))
  · rw [js_st_s]; simp [upd]
  · rcases List.mem_append.mp hz with q | q
    · exact c z q
    · simp at q; omega
  · simp only [List.length_append, List.length_cons, List.length_nil] at hk
    rw [js_st_s, js_st_s]
    unfold upd
    rw [if_neg (by omega)]
    by_cases e : k = l.length
    · subst e; simp
    · rw [if_neg (by omega), d k (by omega)]
      congr 1
      simp [List.getD, List.getElem?_append_left (show k < l.length by omega)]
/-- the list is full -/
theorem mr_S_full {G G' : js_G} {s B : Nat} {rk : Nat → Nat} {ls : Option (List Nat)} (h : mr_S G 192 (1 + 106 * s) B rk ls) (e1 : G' 192 ((1 + 106 * s) + 1) = -6) (e : ∀ i, i < 66 → i ≠ 1 → G' 192 ((1 + 106 * s) + i) = G 192 ((1 + 106 * s) + i)) : mr_S G' 192 (1 + 106 * s) B rk none := by
  obtain ⟨h1, h2, h3, h4, h5, h6⟩ := h
  exact ⟨h1, h2, (e 0 (by decide) (by decide)).trans h3, fun b hb => (e _ (by omega) (by omega)).trans (h4 b hb), h5, e1⟩
/-- a sketch is emptied -/
theorem mr_S_e {G' : js_G} {k o B : Nat} (h2 : 2 ≤ B) (h6 : B ≤ 6) (e0 : G' k (o + 0) = nI B) (e : ∀ i, 1 ≤ i → i < 106 → G' k (o + i) = nI 0) : mr_S G' k o B (fun _ => 0) (some []) := by
  refine ⟨h2, h6, e0, fun b hb => ?_, fun _ _ => Nat.zero_le _, (e 1 (by decide) (by decide)), by decide, fun t ht => (by cases ht), fun i hi => (by cases hi)⟩
  rw [e _ (by omega) (by omega)]
  unfold jz; split <;> rfl
theorem js_st_id {G : js_G} {k i : Nat} {v : Int32} (h : G k i = v) : js_st G k i v = G := by
  funext a
  by_cases q : a = k
  · subst q
    rw [js_st_s]; funext j
    unfold upd
    by_cases z : j = i
    · subst z; rw [if_pos rfl]; exact h.symm
    · rw [if_neg z]
  · exact js_st_n q
/-- a row is moved into another -/
def js_mv (G : js_G) (ka f kb t n : Nat) : js_G := js_up G kb (fun j => if t ≤ j ∧ j < t + n then G ka (f + (j - t)) else G kb j)
theorem js_mv_0 {G : js_G} {ka f kb t : Nat} : js_mv G ka f kb t 0 = G := by
  funext a
  unfold js_mv js_up
  split
  · rename_i h; subst h; funext j; rw [if_neg (by omega)]
  · rfl
theorem js_mv_s {G : js_G} {ka f kb t n : Nat} : js_st (js_mv G ka f kb t n) kb (t + n) (G ka (f + n)) = js_mv G ka f kb t (n + 1) := by
  funext a
  by_cases h : a = kb
  · subst h
    rw [js_st_s]
    unfold js_mv
    rw [js_up_s, js_up_s]
    funext j
    unfold upd
    by_cases hj : j = t + n
    · subst hj; rw [if_pos rfl, if_pos (by omega)]; congr 1; omega
    · rw [if_neg hj]
      show (if t ≤ j ∧ j < t + n then G ka (f + (j - t)) else G a j) = _
      by_cases h2 : t ≤ j ∧ j < t + n
      · rw [if_pos h2, if_pos (by omega)]
      · rw [if_neg h2, if_neg (by omega)]
  · rw [js_st_n h]; unfold js_mv; rw [js_up_n h, js_up_n h]
theorem js_mv_n {G : js_G} {ka f kb t n a : Nat} (h : a ≠ kb) : js_mv G ka f kb t n a = G a := js_up_n h
theorem js_mv_in {G : js_G} {ka f kb t n i : Nat} (h : i < n) : js_mv G ka f kb t n kb (t + i) = G ka (f + i) := by
  unfold js_mv; rw [js_up_s, if_pos (by omega)]; congr 1; omega
theorem js_mv_out {G : js_G} {ka f kb t n j : Nat} (h : j < t ∨ t + n ≤ j) : js_mv G ka f kb t n kb j = G kb j := by
  unfold js_mv; rw [js_up_s, if_neg (by omega)]
/-! the whole of the reference -/
def mr_H (G : js_G) (h : List js_T) : Prop := G 191 2 = nI h.length ∧ h.length ≤ 6 ∧ ∀ k s, h[k]? = some s → mr_T G 193 (637 * k) s
def mr_V (G : js_G) (v : Nat → Option js_T) : Prop := ∀ i, i < 2 → G 195 i = nI (if v i = none then 0 else 1) ∧ ∀ s, v i = some s → mr_T G 194 (637 * i) s
def mr_P (G : js_G) (p : List Nat) : Prop := G 191 6 = nI p.length ∧ p.length ≤ 80 ∧ ∀ k, k < p.length → G 196 k = nI (p.getD k 0) ∧ 33 ≤ p.getD k 0 ∧ p.getD k 0 ≤ 126
def mr_C (G : js_G) (c : js_C) : Prop := mr_T G 192 0 c.1 ∧ mr_H G c.2.1 ∧ mr_V G c.2.2.1 ∧ mr_P G c.2.2.2
def js_frM (G G' : js_G) : Prop := ∀ a, a < 191 → G' a = G a
theorem js_frM.rf {G : js_G} : js_frM G G := fun _ _ => rfl
theorem js_frM.tr {G G1 G2 : js_G} (h : js_frM G G1) (h2 : js_frM G1 G2) : js_frM G G2 := fun a x => (h2 a x).trans (h a x)
theorem js_frM.S {s : Nat} {G G' : js_G} (h : mfS s G G') : js_frM G G' := fun a x => h.1 a (by omega)
theorem js_frM.R {G G' : js_G} (h : mfR G G') : js_frM G G' := fun a x => h a (by omega)
theorem js_frM.st {G : js_G} {k i : Nat} {v : Int32} (h : 191 ≤ k) : js_frM G (js_st G k i v) := fun a x => js_st_n (by omega)
def mP (f : Int32 × js_C) (r : Int32) (G G' : js_G) : Prop := r = f.1 ∧ mr_C G' f.2 ∧ js_frM G G'
/-- what a call may change that leaves the reference's meaning: the rows for ranks and numbers, and the reading's own fields -/
def mfX (G G' : js_G) : Prop := (∀ a, a ≠ 191 → a ≠ 197 → a ≠ 198 → G' a = G a) ∧ G' 191 2 = G 191 2 ∧ G' 191 6 = G 191 6
theorem mfX.rf {G : js_G} : mfX G G := ⟨fun _ _ _ _ => rfl, rfl, rfl⟩
theorem mfX.tr {G G1 G2 : js_G} (h : mfX G G1) (h2 : mfX G1 G2) : mfX G G2 := ⟨fun a x y z => (h2.1 a x y z).trans (h.1 a x y z), h2.2.1.trans h.2.1, h2.2.2.trans h.2.2⟩
theorem mfX.R {G G' : js_G} (h : mfR G G') : mfX G G' := ⟨fun a _ y _ => h a y, by rw [h 191 (by decide)], by rw [h 191 (by decide)]⟩
theorem mfX.st {G : js_G} {i : Nat} {v : Int32} (h : i ≠ 2) (h2 : i ≠ 6) : mfX G (js_st G 191 i v) := ⟨fun a x _ _ => js_st_n x, by rw [js_st_s]; exact if_neg (Ne.symm h), by rw [js_st_s]; exact if_neg (Ne.symm h2)⟩
theorem mfX.stn {G : js_G} {i : Nat} {v : Int32} : mfX G (js_st G 198 i v) := ⟨fun a _ _ z => js_st_n z, by rw [js_st_n (by decide)], by rw [js_st_n (by decide)]⟩
theorem js_frM.X {G G' : js_G} (h : mfX G G') : js_frM G G' := fun a x => h.1 a (by omega) (by omega) (by omega)
theorem mr_P.mfX {G G' : js_G} {p : List Nat} (h : mr_P G p) (hf : mfX G G') : mr_P G' p := ⟨hf.2.2.trans h.1, h.2.1, fun k hk => by rw [hf.1 196 (by decide) (by decide) (by decide)]; exact h.2.2 k hk⟩
theorem mr_C.cong {G G' : js_G} {c : js_C} (h : mr_C G c) (e : ∀ a, 192 ≤ a → a ≤ 196 → G' a = G a) (e2 : G' 191 2 = G 191 2) (e6 : G' 191 6 = G 191 6) : mr_C G' c := by
  obtain ⟨h1, ⟨a, b, d⟩, h3, h4⟩ := h
  exact ⟨h1.co (e 192 (by decide) (by decide)), ⟨e2.trans a, b, fun k s hk => (d k s hk).co (e 193 (by decide) (by decide))⟩, fun i hi => ⟨by rw [e 195 (by decide) (by decide)]; exact (h3 i hi).1, fun s hs => ((h3 i hi).2 s hs).co (e 194 (by decide) (by decide))⟩, ⟨e6.trans h4.1, h4.2.1, fun k hk => by rw [e 196 (by decide) (by decide)]; exact h4.2.2 k hk⟩⟩
theorem mr_C.mfX {G G' : js_G} {c : js_C} (h : mr_C G c) (hf : mfX G G') : mr_C G' c := h.cong (fun a x y => hf.1 a (by omega) (by omega) (by omega)) hf.2.1 hf.2.2
theorem mr_C.R {G G' : js_G} {c : js_C} (h : mr_C G c) (hf : mfR G G') : mr_C G' c := h.mfX (mfX.R hf)
/-- the class's calls leave the reference alone, and the other way round -/
theorem mr_C.frX {G G' : js_G} {c : js_C} (h : mr_C G c) (hf : js_frX G G') : mr_C G' c := h.cong (fun a x _ => hf a (by omega)) (by rw [hf 191 (by decide)]) (by rw [hf 191 (by decide)])
theorem jr_C.frM {G G' : js_G} {c : js_C} (h : jr_C G c) (hf : js_frM G G') : jr_C G' c := by
  obtain ⟨h1, ⟨o, b1, b2, b3, b4, b5⟩, h3, h4⟩ := h
  have eT : ∀ u s, u < 9 → jr_T G u s → jr_T G' u s := fun u s hu ⟨a, b, d⟩ => ⟨by rw [hf _ (by unfold js_kA; omega)]; exact a, b, fun i hi => (d i hi).co (hf _ (by unfold js_kS; omega)) (hf _ (by unfold js_kR; omega)) (hf _ (by unfold js_kT; omega))⟩
  refine ⟨eT _ _ (by decide) h1, ⟨o, b1, by rw [hf 183 (by decide)]; exact b2, by rw [hf 183 (by decide)]; exact b3, b4, fun k s hk => eT _ _ ?_ (b5 k s hk)⟩, fun i hi => ⟨by rw [hf 186 (by decide)]; exact (h3 i hi).1, fun s hs => eT _ _ (by omega) ((h3 i hi).2 s hs)⟩, h4.co (by rw [hf 187 (by decide)]) (hf 188 (by decide))⟩
  have : (o + k) % 6 < 6 := Nat.mod_lt _ (by decide)
  omega
theorem mr_C.K {G : js_G} {c : js_C} (h : mr_C G c) {i : Nat} (hi : i < 6) : mr_K G 192 (1 + 106 * i) (c.1.2 i) := by
  have := h.1.2.2 i hi
  rwa [Nat.zero_add] at this
theorem mr_T.K {G : js_G} {s : js_T} (h : mr_T G 192 0 s) {i : Nat} (hi : i < 6) : mr_K G 192 (1 + 106 * i) (s.2 i) := by
  have := h.2.2 i hi
  rwa [Nat.zero_add] at this
theorem mr_T.salt {G : js_G} {s : js_T} (h : mr_T G 192 0 s) : G 192 0 = nI s.1 := h.1
theorem mr_T.sk {G G' : js_G} {s : js_T} {i : Nat} {S : js_K} (h : mr_T G 192 0 s) (hi : i < 6) (hf : mfS i G G') (hS : mr_K G' 192 (1 + 106 * i) S) : mr_T G' 192 0 (jm_sk s i S) := by
  refine ⟨(hf.2 0 (Or.inl (by omega))).trans h.1, h.2.1, fun k hk => ?_⟩
  rw [Nat.zero_add]
  show mr_K G' 192 (1 + 106 * k) (if k = i then S else s.2 k)
  by_cases q : k = i
  · subst q; rw [if_pos rfl]; exact hS
  · rw [if_neg q]; exact mr_S.fr (h.K hk) hf q
theorem mr_C.now {G G' : js_G} {c : js_C} {s : js_T} (h : mr_C G c) (hf : ∀ a, 193 ≤ a → a ≤ 196 → G' a = G a) (e2 : G' 191 2 = G 191 2) (e6 : G' 191 6 = G 191 6) (hT : mr_T G' 192 0 s) : mr_C G' (s, c.2) := by
  obtain ⟨-, ⟨a, b, d⟩, h3, h4⟩ := h
  exact ⟨hT, ⟨e2.trans a, b, fun k s hk => (d k s hk).co (hf 193 (by decide) (by decide))⟩, fun i hi => ⟨by rw [hf 195 (by decide) (by decide)]; exact (h3 i hi).1, fun s hs => ((h3 i hi).2 s hs).co (hf 194 (by decide) (by decide))⟩, ⟨e6.trans h4.1, h4.2.1, fun k hk => by rw [hf 196 (by decide) (by decide)]; exact h4.2.2 k hk⟩⟩
theorem mr_C.sk {G G' : js_G} {c : js_C} {i : Nat} {S : js_K} (h : mr_C G c) (hi : i < 6) (hf : mfS i G G') (hS : mr_K G' 192 (1 + 106 * i) S) : mr_C G' (jm_sk c.1 i S, c.2) :=
  h.now (fun a x y => hf.1 a (by omega)) (by rw [hf.1 191 (by decide)]) (by rw [hf.1 191 (by decide)]) (h.1.sk hi hf hS)
theorem jn_ne6 {n : Nat} (h : n < 2 ^ 31) (e : nI n = -6) : False := by
  have h2 : (nI n).toInt = (-6 : Int32).toInt := congrArg Int32.toInt e
  rw [nI_toInt h, show (-6 : Int32).toInt = -6 from rfl] at h2
  omega
theorem jw_rng1 {x m : Int32} (h1 : ¬ jb x 100000) (h2 : nI 1 ≤ m ∧ m ≤ nI 999) (h3 : ¬ nI 100000 - x < m) : jm_rng x m := by
  rcases jb_or x (n := 100000) (by decide) with q | ⟨a, ha, rfl⟩
  · exact absurd q h1
  · rcases pk_ix m (n := 1000) (by decide) with q | q | ⟨n, hn, rfl⟩
    · exfalso; have a := Int32.lt_iff_toInt_lt.mp q; have b := Int32.le_iff_toInt_le.mp h2.1; rw [nI_toInt (by decide)] at b; have c : (0 : Int32).toInt = 0 := rfl; omega
    · exfalso; have a := Int32.le_iff_toInt_le.mp q; have b := Int32.le_iff_toInt_le.mp h2.2; rw [nI_toInt (by decide)] at a b; omega
    · refine jm_rng_of ?_ (by omega) ?_
      · have := (nI_leI (by decide) (by omega)).mp h2.1; omega
      · rw [pk_sub (by omega)] at h3
        have : ¬ (100000 - a < n) := fun q => h3 ((nI_ltI (by omega) (by omega)).mpr q)
        omega
theorem jw_rng2 {x m : Int32} (h : jm_rng x m) : ¬ jb x 100000 ∧ (nI 1 ≤ m ∧ m ≤ nI 999) ∧ ¬ nI 100000 - x < m := by
  obtain ⟨a, n, rfl, rfl, h1, h2, h3⟩ := jm_rng_is h
  refine ⟨h.1, ⟨(nI_leI (by decide) (by omega)).mpr h1, (nI_leI (by omega) (by decide)).mpr h2⟩, fun q => ?_⟩
  rw [pk_sub (by omega)] at q
  have := (nI_ltI (by omega) (by omega)).mp q
  omega
theorem mr_S.rk {G : js_G} {k o B : Nat} {rk rk' : Nat → Nat} {ls : Option (List Nat)} (h : mr_S G k o B rk ls) (e : ∀ b, b < 2 ^ B → rk b = rk' b) : mr_S G k o B rk' ls := by
  obtain ⟨a, b, c, d, f, g⟩ := h
  refine ⟨a, b, c, fun x hx => (d x hx).trans (congrArg nI ?_), fun x hx => by rw [← e x hx]; exact f x hx, g⟩
  unfold jz; split
  · rename_i q; exact e x q
  · rfl
theorem mr_S_set {G : js_G} {s B b r : Nat} {rk : Nat → Nat} {ls : Option (List Nat)} (h : mr_S G 192 (1 + 106 * s) B rk ls) (hb : b < 2 ^ B) (hr : r ≤ 17 - B) : mr_S (js_st G 192 ((1 + 106 * s) + (2 + b)) (nI r)) 192 (1 + 106 * s) B (jm_up rk b r) ls := by
  obtain ⟨h1, h2, h3, h4, h5, h6⟩ := h
  have hp := jm_p6 h2
  refine ⟨h1, h2, ?_, fun c hc => ?_, fun c hc => ?_, ?_⟩
  · rw [js_st_s]; exact (if_neg (by omega)).trans h3
  · rw [js_st_s]
    unfold upd jz jm_up
    by_cases e : c = b
    · subst e; rw [if_pos rfl, if_pos hb, if_pos rfl]
    · rw [if_neg (by omega), if_neg e, h4 c hc]; rfl
  · unfold jm_up; split
    · exact hr
    · exact h5 c hc
  · cases ls with
    | none => show js_st G 192 _ _ 192 _ = _; rw [js_st_s]; exact (if_neg (by omega)).trans h6
    | some l =>
      obtain ⟨a, b', c, d⟩ := h6
      refine ⟨?_, b', c, fun i hi => ?_⟩
      · rw [js_st_s]; exact (if_neg (by omega)).trans a
      · rw [js_st_s]; exact (if_neg (by omega)).trans (d i hi)
/-- ranks on the way to the greater of two -/
def jm_mi (rk rk2 : Nat → Nat) (i : Nat) : Nat → Nat := fun b => if b < i then jm_mx rk rk2 b else rk b
theorem jm_mi_self {rk rk2 : Nat → Nat} {i : Nat} : jm_mi rk rk2 i i = rk i := if_neg (Nat.lt_irrefl i)
theorem mr_S_mi {G : js_G} {s B i v : Nat} {rk rk2 : Nat → Nat} {ls : Option (List Nat)} (h : mr_S G 192 (1 + 106 * s) B (jm_mi rk rk2 i) ls) (h2 : ∀ b, b < 2 ^ B → rk2 b ≤ 17 - B) (hi : i < 2 ^ B) (hv : v = jm_mx rk rk2 i) : mr_S (js_st G 192 ((1 + 106 * s) + (2 + i)) (nI v)) 192 (1 + 106 * s) B (jm_mi rk rk2 (i + 1)) ls := by
  have h5 := h.2.2.2.2.1 i hi
  rw [jm_mi_self] at h5
  have hm := jm_mx_le h5 (h2 i hi)
  have := mr_S_set (r := v) h hi (by rw [hv]; exact hm)
  refine this.rk (fun b _ => ?_)
  unfold jm_up jm_mi
  by_cases e : b = i
  · subst e; rw [if_pos rfl, if_pos (by omega), hv]
  · rw [if_neg e]
    by_cases q : b < i
    · rw [if_pos q, if_pos (by omega)]
    · rw [if_neg q, if_neg (by omega)]
theorem jm_mi_end {rk rk2 : Nat → Nat} {n b : Nat} (h : b < n) : jm_mi rk rk2 n b = jm_mx rk rk2 b := if_pos h
/-- ranks on the way to half the buckets -/
def jm_fi (B : Nat) (rk : Nat → Nat) (i b : Nat) : Nat := if b < i then jm_fd B rk b else if 2 ^ (B - 1) ≤ b ∧ b < 2 ^ (B - 1) + i then 0 else jz B rk b
theorem jm_fi_0 {B : Nat} {rk : Nat → Nat} {b : Nat} : jm_fi B rk 0 b = jz B rk b := by unfold jm_fi; rw [if_neg (Nat.not_lt_zero _), if_neg (by omega)]
theorem jm_fi_lo {B i : Nat} {rk : Nat → Nat} (h : i < 2 ^ (B - 1)) (h2 : i < 2 ^ B) : jm_fi B rk i i = rk i := by unfold jm_fi; rw [if_neg (by omega), if_neg (by omega), jz_lt h2]
theorem jm_fi_hi {B i : Nat} {rk : Nat → Nat} (h2 : 2 ^ (B - 1) + i < 2 ^ B) (h : i < 2 ^ (B - 1)) : jm_fi B rk i (2 ^ (B - 1) + i) = rk (i + 2 ^ (B - 1)) := by unfold jm_fi; rw [if_neg (by omega), if_neg (by omega), jz_lt h2, Nat.add_comm]
theorem jm_fi_end {B : Nat} {rk : Nat → Nat} (hB : 1 ≤ B) (b : Nat) : jm_fi B rk (2 ^ (B - 1)) b = jz (B - 1) (jm_fd B rk) b := by
  have h1 := (jm_half hB).2
  unfold jm_fi
  by_cases q : b < 2 ^ (B - 1)
  · rw [if_pos q, jz_lt q]
  · rw [if_neg q]
    unfold jz
    rw [if_neg (show ¬ b < 2 ^ (B - 1) from q)]
    split
    · rfl
    · exact if_neg (by omega)
theorem jm_fi_s {G : js_G} {s B i v : Nat} {rk : Nat → Nat} (hi : i < 2 ^ (B - 1)) (hB : 1 ≤ B) (hv : v = jm_fd B rk i) (h1 : ∀ b, b < 64 → G 192 ((1 + 106 * s) + (2 + b)) = nI (jm_fi B rk i b)) (hB6 : 2 ^ B ≤ 64) :
    ∀ b, b < 64 → js_st (js_st G 192 ((1 + 106 * s) + (2 + i)) (nI v)) 192 ((1 + 106 * s) + (2 + 2 ^ (B - 1) + i)) (nI 0) 192 ((1 + 106 * s) + (2 + b)) = nI (jm_fi B rk (i + 1) b) := by
  intro b hb
  have hh := (jm_half hB).2
  rw [js_st_s, js_st_s]
  unfold upd
  by_cases q : b = 2 ^ (B - 1) + i
  · rw [if_pos (by omega)]
    unfold jm_fi; rw [if_neg (by omega), if_pos (by omega)]
  · rw [if_neg (by omega)]
    by_cases q2 : b = i
    · subst q2
      rw [if_pos rfl, hv]; unfold jm_fi; rw [if_pos (by omega)]
    · rw [if_neg (by omega), h1 b hb]
      unfold jm_fi
      by_cases q3 : b < i
      · rw [if_pos q3, if_pos (by omega)]
      · rw [if_neg q3, if_neg (show ¬ b < i + 1 by omega)]
        by_cases q4 : 2 ^ (B - 1) ≤ b ∧ b < 2 ^ (B - 1) + i
        · rw [if_pos q4, if_pos (by omega)]
        · rw [if_neg q4, if_neg (by omega)]
/-- the bits of a share, as the reference puts them together -/
def jm_shr (m B q : Nat) : Int32 := ((nI (127 + q) - nI B) <<< (nI 23 &&& 31)) + ((nI m - (nI 1 <<< (nI q &&& 31))) <<< ((nI 23 - nI q) &&& 31))
theorem jm_share_fin : ∀ m : Fin 65, ∀ B : Fin 7, ∀ q : Fin 7, m.1 = 0 ∨ 1 < m.1 / 2 ^ q.1 ∨ (q.1 ≠ 0 ∧ m.1 / 2 ^ (q.1 - 1) ≤ 1) ∨ jm_shr m.1 B.1 q.1 = jm_share m.1 B.1 := by decide +kernel
theorem jm_share_eq {m B q : Nat} (hm : m < 65) (hB : B < 7) (hq : q < 7) (h1 : m ≠ 0) (h2 : m / 2 ^ q ≤ 1) (h3 : q = 0 ∨ 1 < m / 2 ^ (q - 1)) : jm_shr m B q = jm_share m B := by
  rcases jm_share_fin ⟨m, hm⟩ ⟨B, hB⟩ ⟨q, hq⟩ with h | h | h | h
  · exact absurd h h1
  · exact absurd h (by show ¬ 1 < m / 2 ^ q; omega)
  · have a : q ≠ 0 := h.1
    have b : m / 2 ^ (q - 1) ≤ 1 := h.2
    omega
  · exact h
/-- what record may change: the history's row and its length -/
def mfH (G G' : js_G) : Prop := (∀ a, a ≠ 191 → a ≠ 193 → G' a = G a) ∧ ∀ i, i ≠ 2 → G' 191 i = G 191 i
theorem js_frM.H {G G' : js_G} (h : mfH G G') : js_frM G G' := fun a x => h.1 a (by omega) (by omega)
theorem mr_H_push {Ga Gb : js_G} {h : List js_T} {s : js_T} (hl : h.length ≤ 5) (hh : ∀ k s, h[k]? = some s → mr_T Ga 193 (637 * k) s) (hT : mr_T Ga 192 0 s) (eb : js_mv Ga 192 0 193 (h.length * 637) 637 = Gb) : mr_H (js_st Gb 191 2 (nI (h.length + 1))) (h ++ [s]) := by
  subst eb
  refine ⟨by rw [js_st_s]; simp [upd], by simp; omega, fun k q hq => ?_⟩
  rcases Nat.lt_trichotomy k h.length with z | z | z
  · rw [List.getElem?_append_left z] at hq
    refine (hh k q hq).mv (fun i hi => ?_)
    rw [js_st_n (by decide)]
    exact js_mv_out (Or.inl (by omega))
  · subst z
    simp at hq
    subst hq
    refine hT.mv (fun i hi => ?_)
    have := js_mv_in (G := Ga) (ka := 192) (f := 0) (kb := 193) (t := h.length * 637) (n := 637) (i := i) hi
    rw [js_st_n (by decide), show 637 * h.length = h.length * 637 by omega]
    exact this
  · rw [List.getElem?_eq_none (by simp; omega)] at hq; cases hq
theorem mr_C.rec {G G' : js_G} {c : js_C} (h : mr_C G c) (hH : mr_H G' (jm_rec c.2.1 c.1)) (hf : mfH G G') : mr_C G' (c.1, jm_rec c.2.1 c.1, c.2.2) := by
  obtain ⟨h1, -, h3, h4⟩ := h
  exact ⟨h1.co (hf.1 192 (by decide) (by decide)), hH, fun i hi => ⟨by rw [hf.1 195 (by decide) (by decide)]; exact (h3 i hi).1, fun s hs => ((h3 i hi).2 s hs).co (hf.1 194 (by decide) (by decide))⟩, ⟨(hf.2 6 (by decide)).trans h4.1, h4.2.1, fun k hk => by rw [hf.1 196 (by decide) (by decide)]; exact h4.2.2 k hk⟩⟩
/-- the best of the first salts: what the reference has when it comes to salt k -/
def jb_inv (f : Nat → Nat) (k : Nat) (be le : Int32) : Prop := (k = 0 ∧ be = -6 ∧ le = nI 0) ∨ ∃ j, k = j + 1 ∧ be = nI (jm_bs f j) ∧ le = nI (f (jm_bs f j))
theorem jm_bs_le (f : Nat → Nat) : ∀ n, jm_bs f n ≤ n
  | 0 => Nat.le_refl 0
  | n + 1 => by have := jm_bs_le f n; unfold jm_bs; split <;> omega
/-- salt k becomes the best -/
theorem jb_yes {f : Nat → Nat} {k : Nat} {be le : Int32} (h : jb_inv f k be le) (hk : k < 256) (hf : ∀ s, f s ≤ 3000000) (hc : be = -6 ∨ ¬ le ≤ nI (f k)) : jb_inv f (k + 1) (nI k) (nI (f k)) := by
  rcases h with ⟨rfl, rfl, rfl⟩ | ⟨j, rfl, rfl, rfl⟩
  · exact Or.inr ⟨0, rfl, rfl, rfl⟩
  · refine Or.inr ⟨j + 1, rfl, ?_⟩
    have hb := jm_bs_le f j
    have h1 := hf (jm_bs f j)
    have h2 := hf (j + 1)
    have hlt : f (j + 1) < f (jm_bs f j) := by
      rcases hc with q | q
      · exact (jn_ne6 (by omega) q).elim
      · exact Nat.lt_of_not_le (fun z => q ((nI_leI (by omega) (by omega)).mpr z))
    have e : jm_bs f (j + 1) = j + 1 := if_pos hlt
    rw [e]
    exact ⟨rfl, rfl⟩
theorem jb_nay {f : Nat → Nat} {k : Nat} {be le : Int32} (h : jb_inv f k be le) (hk : k < 256) (hf : ∀ s, f s ≤ 3000000) (hc : ¬ be = -6) (hc2 : le ≤ nI (f k)) : jb_inv f (k + 1) be le := by
  rcases h with ⟨rfl, rfl, rfl⟩ | ⟨j, rfl, rfl, rfl⟩
  · exact absurd rfl hc
  · refine Or.inr ⟨j + 1, rfl, ?_⟩
    have h1 := hf (jm_bs f j)
    have h2 := hf (j + 1)
    have e : jm_bs f (j + 1) = jm_bs f j := if_neg (fun z => by have := (nI_leI (by omega) (by omega)).mp hc2; omega)
    rw [e]
    exact ⟨rfl, rfl⟩
theorem jn_far1 {a b : Nat} (ha : a < 2 ^ 30) (hb : b < 2 ^ 30) (h : 0 ≤ nI a - nI b) : nI a - nI b = nI (jm_ad b a) := by rw [← jn_abs ha hb, if_pos h]
theorem jn_far2 {a b : Nat} (ha : a < 2 ^ 30) (hb : b < 2 ^ 30) (h : ¬ 0 ≤ nI a - nI b) : -(nI a - nI b) = nI (jm_ad b a) := by rw [← jn_abs ha hb, if_neg h, Int32.zero_sub]
theorem mr_L_st {G : js_G} {s p : Nat} {v : Int32} {ls : Option (List Nat)} (h : mr_L G 192 (1 + 106 * s) ls) (hp : p < 66) (hp1 : p ≠ 1) : mr_L (js_st G 192 ((1 + 106 * s) + p) v) 192 (1 + 106 * s) ls := by
  cases ls with
  | none => show js_st G 192 _ _ 192 _ = _; rw [js_st_s]; exact (if_neg (by omega)).trans h
  | some l =>
    obtain ⟨a, b', c, d⟩ := h
    refine ⟨?_, b', c, fun i hi => ?_⟩
    · rw [js_st_s]; exact (if_neg (by omega)).trans a
    · rw [js_st_s]; exact (if_neg (by omega)).trans (d i hi)
