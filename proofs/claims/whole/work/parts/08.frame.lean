/-! the judgement over a store: every cell of the class and of the reference by its number; what a cell holds is the store's row of that number -/
abbrev js_G : Type := Nat → Nat → Int32
abbrev js_L : Type := Nat × (Nat → Nat) × va_G × (ClassId × ClassId × ClassId × ClassId × ClassId)
def js_ad (y : js_L) (k : Nat) : Nat := y.2.1 k
def js_kS (j : Nat) : Nat := 3 * j
def js_kR (j : Nat) : Nat := 3 * j + 1
def js_kT (j : Nat) : Nat := 3 * j + 2
def js_kA (t : Nat) : Nat := 165 + 2 * t
def js_kB (t : Nat) : Nat := 166 + 2 * t
abbrev js_cI (y : js_L) : ClassId := y.2.2.2.1
abbrev js_cC (y : js_L) : ClassId := y.2.2.2.2.1
abbrev js_cZ (y : js_L) : ClassId := y.2.2.2.2.2.1
abbrev js_cK (y : js_L) : ClassId := y.2.2.2.2.2.2.1
abbrev js_cT (y : js_L) : ClassId := y.2.2.2.2.2.2.2
def js_q (f : Nat → Nat) (y : js_L) : (Nat → Int32) ⊕ (Nat → Int64) ⊕ (Nat → UInt32) ⊕ (Nat → UInt64) ⊕ (Nat → Option Nat) := .inr (.inr (.inr (.inr (fun i => some (js_ad y (f i))))))
def js_ct (y : js_L) (G : js_G) (k : Nat) : va_E :=
  if k < 165 then
    if k % 3 = 0 then .inr (2, [.int (G k 0), .ref (js_ad y (k + 1)), .ref (js_ad y (k + 2)), .int (G k 3), .int (G k 4)])
    else if k % 3 = 1 then .inl (js_cI y, 64, .inl (G k)) else .inl (js_cI y, 40, .inl (G k))
  else if k < 183 then
    if k % 2 = 1 then .inr (3, [.int (G k 0), .ref (js_ad y (k + 1))])
    else .inl (js_cK y, 6, js_q (fun i => js_kS (6 * ((k - 166) / 2) + i)) y)
  else if k = 183 then .inr (0, [.ref (js_ad y 184), .int (G k 1), .int (G k 2)])
  else if k = 184 then .inl (js_cT y, 6, js_q (fun i => js_kA (3 + i)) y)
  else if k = 185 then .inl (js_cT y, 2, js_q (fun i => js_kA (1 + i)) y)
  else if k = 186 then .inl (js_cZ y, 2, .inl (G k))
  else if k = 187 then .inr (1, [.ref (js_ad y 188), .int (G k 1), .int (G k 2), .int (G k 3), .int (G k 4), .ref (js_ad y 189), .int (G k 6)])
  else if k = 188 then .inl (js_cC y, 80, .inl (G k))
  else if k = 189 then .inl (js_cI y, 80, .inl (G k))
  else if k = 190 then .inr (4, [.ref (js_ad y (js_kA 0)), .ref (js_ad y 183), .ref (js_ad y 185), .ref (js_ad y 186), .ref (js_ad y 187), .ref (js_ad y (js_kS 54))])
  else if k = 191 then .inr (5, [.ref (js_ad y 192), .ref (js_ad y 193), .int (G k 2), .ref (js_ad y 194), .ref (js_ad y 195), .ref (js_ad y 196), .int (G k 6), .ref (js_ad y 197), .int (G k 8), .int (G k 9), .int (G k 10), .ref (js_ad y 198), .int (G k 12)])
  else if k = 192 then .inl (js_cI y, 637, .inl (G k))
  else if k = 193 then .inl (js_cI y, 3822, .inl (G k))
  else if k = 194 then .inl (js_cI y, 1274, .inl (G k))
  else if k = 195 then .inl (js_cI y, 2, .inl (G k))
  else if k = 196 then .inl (js_cI y, 80, .inl (G k))
  else if k = 197 then .inl (js_cI y, 64, .inl (G k))
  else .inl (js_cI y, 80, .inl (G k))
def js_up (G : js_G) (k : Nat) (f : Nat → Int32) : js_G := fun a => if a = k then f else G a
def js_st (G : js_G) (k i : Nat) (v : Int32) : js_G := js_up G k (upd (G k) i v)
def js_wl (y : js_L) (G : js_G) : va_W := (List.range 199).map (fun k => (js_ad y k, js_ct y G k))
def js_A (y : js_L) : Nat → Prop := fun q => y.1 ≤ q
def js_Dy (y : js_L) : Prop := (∀ i j, i < 199 → j < 199 → js_ad y i = js_ad y j → i = j) ∧ ∀ k, k < 199 → y.1 ≤ js_ad y k
def js_tys (y : js_L) : List (ClassId × FieldType) := [(js_cI y, .int), (js_cC y, .char), (js_cZ y, .boolean), (js_cK y, .object RX2), (js_cT y, .object RX3)]
theorem js_up_s {G : js_G} {k : Nat} {f : Nat → Int32} : js_up G k f k = f := by simp [js_up]
theorem js_up_n {G : js_G} {k a : Nat} {f : Nat → Int32} (h : a ≠ k) : js_up G k f a = G a := by simp [js_up, h]
theorem js_st_s {G : js_G} {k i : Nat} {v : Int32} : js_st G k i v k = upd (G k) i v := js_up_s
theorem js_st_n {G : js_G} {k a i : Nat} {v : Int32} (h : a ≠ k) : js_st G k i v a = G a := js_up_n h
theorem js_ct_S {y : js_L} {G : js_G} {j : Nat} (h : j < 55) : js_ct y G (js_kS j) = .inr (2, [.int (G (js_kS j) 0), .ref (js_ad y (js_kR j)), .ref (js_ad y (js_kT j)), .int (G (js_kS j) 3), .int (G (js_kS j) 4)]) := by
  unfold js_ct
  rw [if_pos (by unfold js_kS; omega), if_pos (by unfold js_kS; omega)]
  rfl
theorem js_ct_R {y : js_L} {G : js_G} {j : Nat} (h : j < 55) : js_ct y G (js_kR j) = .inl (js_cI y, 64, .inl (G (js_kR j))) := by
  unfold js_ct
  rw [if_pos (by unfold js_kR; omega), if_neg (by unfold js_kR; omega), if_pos (by unfold js_kR; omega)]
theorem js_ct_T {y : js_L} {G : js_G} {j : Nat} (h : j < 55) : js_ct y G (js_kT j) = .inl (js_cI y, 40, .inl (G (js_kT j))) := by
  unfold js_ct
  rw [if_pos (by unfold js_kT; omega), if_neg (by unfold js_kT; omega), if_neg (by unfold js_kT; omega)]
theorem js_ct_A {y : js_L} {G : js_G} {t : Nat} (h : t < 9) : js_ct y G (js_kA t) = .inr (3, [.int (G (js_kA t) 0), .ref (js_ad y (js_kB t))]) := by
  unfold js_ct
  rw [if_neg (by unfold js_kA; omega), if_pos (by unfold js_kA; omega), if_pos (by unfold js_kA; omega)]
  rw [show js_kA t + 1 = js_kB t by unfold js_kA js_kB; omega]
theorem js_ct_B {y : js_L} {G : js_G} {t : Nat} (h : t < 9) : js_ct y G (js_kB t) = .inl (js_cK y, 6, js_q (fun i => js_kS (6 * t + i)) y) := by
  unfold js_ct
  rw [if_neg (by unfold js_kB; omega), if_pos (by unfold js_kB; omega), if_neg (by unfold js_kB; omega)]
  rw [show (js_kB t - 166) / 2 = t by unfold js_kB; omega]
theorem js_ct_H {y : js_L} {G : js_G} : js_ct y G 183 = .inr (0, [.ref (js_ad y 184), .int (G 183 1), .int (G 183 2)]) := rfl
theorem js_ct_Ri {y : js_L} {G : js_G} : js_ct y G 184 = .inl (js_cT y, 6, js_q (fun i => js_kA (3 + i)) y) := rfl
theorem js_ct_Sl {y : js_L} {G : js_G} : js_ct y G 185 = .inl (js_cT y, 2, js_q (fun i => js_kA (1 + i)) y) := rfl
theorem js_ct_Sv {y : js_L} {G : js_G} : js_ct y G 186 = .inl (js_cZ y, 2, .inl (G 186)) := rfl
theorem js_ct_P {y : js_L} {G : js_G} : js_ct y G 187 = .inr (1, [.ref (js_ad y 188), .int (G 187 1), .int (G 187 2), .int (G 187 3), .int (G 187 4), .ref (js_ad y 189), .int (G 187 6)]) := rfl
theorem js_ct_Sg {y : js_L} {G : js_G} : js_ct y G 188 = .inl (js_cC y, 80, .inl (G 188)) := rfl
theorem js_ct_Nu {y : js_L} {G : js_G} : js_ct y G 189 = .inl (js_cI y, 80, .inl (G 189)) := rfl
theorem js_ct_X {y : js_L} {G : js_G} : js_ct y G 190 = .inr (4, [.ref (js_ad y (js_kA 0)), .ref (js_ad y 183), .ref (js_ad y 185), .ref (js_ad y 186), .ref (js_ad y 187), .ref (js_ad y (js_kS 54))]) := rfl
theorem js_ct_M {y : js_L} {G : js_G} : js_ct y G 191 = .inr (5, [.ref (js_ad y 192), .ref (js_ad y 193), .int (G 191 2), .ref (js_ad y 194), .ref (js_ad y 195), .ref (js_ad y 196), .int (G 191 6), .ref (js_ad y 197), .int (G 191 8), .int (G 191 9), .int (G 191 10), .ref (js_ad y 198), .int (G 191 12)]) := rfl
theorem js_ct_Ms {y : js_L} {G : js_G} : js_ct y G 192 = .inl (js_cI y, 637, .inl (G 192)) := rfl
theorem js_ct_Mh {y : js_L} {G : js_G} : js_ct y G 193 = .inl (js_cI y, 3822, .inl (G 193)) := rfl
theorem js_ct_Ml {y : js_L} {G : js_G} : js_ct y G 194 = .inl (js_cI y, 1274, .inl (G 194)) := rfl
theorem js_ct_Mi {y : js_L} {G : js_G} : js_ct y G 195 = .inl (js_cI y, 2, .inl (G 195)) := rfl
theorem js_ct_Mp {y : js_L} {G : js_G} : js_ct y G 196 = .inl (js_cI y, 80, .inl (G 196)) := rfl
theorem js_ct_Mr {y : js_L} {G : js_G} : js_ct y G 197 = .inl (js_cI y, 64, .inl (G 197)) := rfl
theorem js_ct_Mn {y : js_L} {G : js_G} : js_ct y G 198 = .inl (js_cI y, 80, .inl (G 198)) := rfl
theorem js_ct_c {y : js_L} {G G' : js_G} {k : Nat} (h : G' k = G k) : js_ct y G' k = js_ct y G k := by
  simp only [js_ct, h]
theorem js_wl_at {y : js_L} {G : js_G} {k : Nat} (h : k < 199) : (js_wl y G)[k]? = some (js_ad y k, js_ct y G k) := by
  simp [js_wl, h]
theorem js_wl_set {y : js_L} {G G' : js_G} {k : Nat} {e : va_E} (hk : k < 199) (he : js_ct y G' k = e) (ho : ∀ j, j ≠ k → G' j = G j) : (js_wl y G).set k (js_ad y k, e) = js_wl y G' := by
  apply List.ext_getElem?
  intro i
  by_cases hi : i = k
  · subst hi
    rw [List.getElem?_set_self (by simp [js_wl]; exact hk), js_wl_at hk, he]
  · rw [List.getElem?_set_ne (fun q => hi q.symm)]
    simp only [js_wl, List.getElem?_map]
    rcases Nat.lt_or_ge i 199 with q | q
    · simp [q, js_ct_c (y := y) (ho i hi)]
    · simp [q]
theorem js_D {y : js_L} {G : js_G} (h : js_Dy y) : va_D (js_A y) (js_wl y G) := by
  have key : ∀ (k : Nat) (q : Nat × va_E), (js_wl y G)[k]? = some q → k < 199 ∧ q.1 = js_ad y k := by
    intro k q hq
    rcases Nat.lt_or_ge k 199 with z | z
    · rw [js_wl_at z] at hq
      cases hq
      exact ⟨z, rfl⟩
    · simp [js_wl, z] at hq
  refine ⟨fun i j p q hi hj hpq => ?_, fun k q hk => ?_⟩
  · obtain ⟨a1, a2⟩ := key i p hi
    obtain ⟨b1, b2⟩ := key j q hj
    exact h.1 i j a1 b1 (by rw [← a2, ← b2, hpq])
  · obtain ⟨a1, a2⟩ := key k q hk
    show y.1 ≤ q.1
    rw [a2]
    exact h.2 k a1
/-- the links of nest mates: private fields that another class of the nest reads -/
def js_nwl : List (String × Nat × String × String × String) := [(RX4, 140, "JoinedSketches$Sketch", "full", "Z"), (RX4, 144, "JoinedSketches$Sketch", "listLength", "I"), (RX4, 168, "JoinedSketches$Pad", "length", "I"), (RX4, 171, "JoinedSketches$History", "size", "I"), (RX4, 238, "JoinedSketches$Pad", "sketch", "I"), (RX4, 241, "JoinedSketches$Pad", "verb", "I"), (RX4, 256, "JoinedSketches$Pad", "many", "I"), (RX4, 50, "JoinedSketches$State", "salt", "I"), (RX4, 62, "JoinedSketches$Sketch", "bits", "I"), (RX3, 22, "JoinedSketches$Sketch", "bits", "I"), (RX3, 37, "JoinedSketches$Sketch", "full", "Z")]
def js_NW (U : State) : Prop := ∀ q ∈ js_nwl, va_Nw (.fieldLinkNest q.1 q.2.1 q.2.2.1 q.2.2.2.1 q.2.2.2.2 "JoinedSketches") U
theorem js_NW.warm {s U : State} (hW : s.WarmedH U.vm) (h : js_NW s) : js_NW U := fun q hq => va_Nw.warmF hW (h q hq)
theorem js_NW.same {s U : State} (hv : s.vm = U.vm) (h : js_NW s) : js_NW U := fun q hq => va_Nw.same rfl hv (h q hq)
abbrev js_PB (y : js_L) (G : js_G) (U : State) : Prop := va_P y.2.2.1 vwCl (js_wl y G) U.heap
abbrev js_PU (y : js_L) (G : js_G) (U : State) : Prop := va_P y.2.2.1 vwCl (js_wl y G) U.heap ∧ va_K y.2.2.1 vwCl (js_tys y) U ∧ js_NW U
abbrev js_rm (f n : Nat) : Room := { frames := f, cells := 0, slots := 0, locals := n }
/-- a contract over the store: int or boolean answers, none, a long, a reference or null -/
def js_Ci (l : Launch) (y : js_L) (nm : MethodName) (ws : List Cond) (rf rl : Nat) (args : List Value) (G : js_G) (post : Int32 → js_G → Prop) : Prop :=
  Met l nm ws (js_rm rf rl) (va_Pc args (js_PU y G)) (va_Qi post (fun G' t => js_PB y G' t) (js_A y)) 0 0 (js_A y)
def js_Cv (l : Launch) (y : js_L) (nm : MethodName) (ws : List Cond) (rf rl : Nat) (args : List Value) (G : js_G) (post : js_G → Prop) : Prop :=
  Met l nm ws (js_rm rf rl) (va_Pc args (js_PU y G)) (va_Qv post (fun G' t => js_PB y G' t) (js_A y)) 0 0 (js_A y)
def js_Cl (l : Launch) (y : js_L) (nm : MethodName) (ws : List Cond) (rf rl : Nat) (args : List Value) (G : js_G) (post : Int64 → js_G → Prop) : Prop :=
  Met l nm ws (js_rm rf rl) (va_Pc args (js_PU y G)) (va_Ql post (fun G' t => js_PB y G' t) (js_A y)) 0 0 (js_A y)
def js_Cq (l : Launch) (y : js_L) (nm : MethodName) (ws : List Cond) (rf rl : Nat) (args : List Value) (G : js_G) (post : Option Nat → js_G → Prop) : Prop :=
  Met l nm ws (js_rm rf rl) (va_Pc args (js_PU y G)) (va_Qq post (fun G' t => js_PB y G' t) (js_A y)) 0 0 (js_A y)
abbrev js_X : Type := Program × Launch × Env × Room × State × MethodId × Array Value × List Frame × Method × Code × Nat × Nat
abbrev js_Xs (X : js_X) : State := X.2.2.2.2.1
abbrev js_Xm (X : js_X) : MethodId := X.2.2.2.2.2.1
abbrev js_Xa (X : js_X) : Array Value := X.2.2.2.2.2.2.1
abbrev js_Xb (X : js_X) : List Frame := X.2.2.2.2.2.2.2.1
abbrev js_Xt (X : js_X) : Method := X.2.2.2.2.2.2.2.2.1
abbrev js_Xc (X : js_X) : Code := X.2.2.2.2.2.2.2.2.2.1
abbrev js_Xn (X : js_X) : Nat := X.2.2.2.2.2.2.2.2.2.2.1
abbrev js_Xk (X : js_X) : Nat := X.2.2.2.2.2.2.2.2.2.2.2
/-- the machine at X, with the store G, at pc, with these locals and this stack, comes to Q -/
def js_W (X : js_X) (y : js_L) (nL : Nat) (Q : State → Prop) (G : js_G) (pc : Nat) (lv : List (Nat × Value)) (st : List Value) : Prop :=
  ∀ (H : Heap) (locs : List Loc) (ls : Array Slot), va_P y.2.2.1 vwCl (js_wl y G) H → va_S (js_A y) (js_Xs X).heap H locs → lv_has ls nL lv → W X.1 X.2.1 X.2.2.1 X.2.2.2.1 (js_Xs X) (js_Xm X) (js_Xa X) (js_Xb X) (js_Xt X) (js_Xc X) H locs (js_Xn X) (js_Xk X) Q (F0 (js_Xm X) pc ls st)
/-- what holds all along a method: the machine, its code, its words, its room -/
def js_F (X : js_X) (y : js_L) (cc : ByteArray) (nL : Nat) (own : String) (Ts : List Cond) (fr lo : Nat) : Prop :=
  CallFix X.1 (js_Xm X) (js_Xc X) cc nL (js_Xs X) (js_Xa X) Ts own ∧ (js_Xt X).locks = false ∧ va_K y.2.2.1 vwCl (js_tys y) (js_Xs X) ∧ js_Dy y ∧ js_NW (js_Xs X) ∧ (fr ≤ X.2.2.2.1.frames ∧ lo ≤ X.2.2.2.1.locals) ∧ (js_Xn X ≤ X.2.2.2.1.cells ∧ js_Xk X ≤ X.2.2.2.1.slots)
def js_Qi (X : js_X) (y : js_L) (post : Int32 → js_G → Prop) : State → Prop := MQ (js_Xb X) (va_Qi post (fun G' t => js_PB y G' t) (js_A y)) (js_Xa X) (js_Xs X) (js_Xn X) (js_Xk X) (js_A y)
def js_Qv (X : js_X) (y : js_L) (post : js_G → Prop) : State → Prop := MQ (js_Xb X) (va_Qv post (fun G' t => js_PB y G' t) (js_A y)) (js_Xa X) (js_Xs X) (js_Xn X) (js_Xk X) (js_A y)
def js_Ql (X : js_X) (y : js_L) (post : Int64 → js_G → Prop) : State → Prop := MQ (js_Xb X) (va_Ql post (fun G' t => js_PB y G' t) (js_A y)) (js_Xa X) (js_Xs X) (js_Xn X) (js_Xk X) (js_A y)
def js_Qq (X : js_X) (y : js_L) (post : Option Nat → js_G → Prop) : State → Prop := MQ (js_Xb X) (va_Qq post (fun G' t => js_PB y G' t) (js_A y)) (js_Xa X) (js_Xs X) (js_Xn X) (js_Xk X) (js_A y)
/-- what is said of a method once: its words begin with its code, its name is plain, how many arguments -/
def js_M (nm : MethodName) (bytes : ByteArray) (maxL : Nat) (ret : Option FieldType) (ws : List Cond) (n : Nat) : Prop :=
  (∃ ws', ws = Cond.code nm bytes maxL ret :: ws') ∧ plainFor nm = true ∧ nm.cls ≠ "java/lang/invoke/MethodHandle" ∧ nm.cls ≠ "java/lang/invoke/VarHandle" ∧ (parseMethodDescriptor nm.desc).map (fun d => d.parameters.length) = some n
theorem js_body {l : Launch} {y : js_L} {nm : MethodName} {bytes : ByteArray} {maxL n rf rl : Nat} {ret : Option FieldType} {ws : List Cond} {args : List Value} {G : js_G} {Qc : Array Value → State → Outcome → State → Prop} (mf : js_M nm bytes maxL ret ws n) (hsz : (lg_sl args).length ≤ maxL) (hy : js_Dy y)
    (body : ∀ X : js_X, js_F X y bytes maxL nm.cls ws rf rl → (js_Xt X).sig.returnType = ret → js_W X y maxL (MQ (js_Xb X) Qc (js_Xa X) (js_Xs X) (js_Xn X) (js_Xk X) (js_A y)) G 0 (lv_args 0 args) []) :
    Met l nm ws (js_rm rf rl) (va_Pc args (js_PU y G)) Qc 0 0 (js_A y) := by
  obtain ⟨⟨ws', hw⟩, hpl, -, -, -⟩ := mf
  refine va_MetF (cc := bytes) (maxL := maxL) (ret := ret) hpl hw ?_
  intro p e s m as below meth c s₁ B hml hv
  obtain ⟨rfl, hP, hK, hNW⟩ := hv
  have hts := atoms_spec (ws := ws) B.pre
  have hown : s.vm.findClass nm.cls = some m.cls := findClass_of_methodNamed B.named
  have hl := lv_entry args (n := maxL) hsz
  rw [lg_entry_eq]
  exact body (p, l, e, (headSpec ws (js_rm rf rl)).room, s, m, args.toArray, below, meth, c, 0, 0) ⟨⟨B.exec, B.bytes, hml, hown, hts⟩, B.notSynchronized, hK, hy, hNW, ⟨Nat.le_refl _, Nat.le_refl _⟩, ⟨Nat.le_refl _, Nat.le_refl _⟩⟩ B.returns s.heap [] _ hP va_S.rf hl
theorem js_ofi {l : Launch} {y : js_L} {nm : MethodName} {bytes : ByteArray} {maxL n rf rl : Nat} {ret : Option FieldType} {ws : List Cond} {args : List Value} {G : js_G} {post : Int32 → js_G → Prop} (mf : js_M nm bytes maxL ret ws n) (hsz : (lg_sl args).length ≤ maxL) (hy : js_Dy y)
    (body : ∀ X : js_X, js_F X y bytes maxL nm.cls ws rf rl → (js_Xt X).sig.returnType = ret → js_W X y maxL (js_Qi X y post) G 0 (lv_args 0 args) []) : js_Ci l y nm ws rf rl args G post := js_body mf hsz hy body
theorem js_ofv {l : Launch} {y : js_L} {nm : MethodName} {bytes : ByteArray} {maxL n rf rl : Nat} {ret : Option FieldType} {ws : List Cond} {args : List Value} {G : js_G} {post : js_G → Prop} (mf : js_M nm bytes maxL ret ws n) (hsz : (lg_sl args).length ≤ maxL) (hy : js_Dy y)
    (body : ∀ X : js_X, js_F X y bytes maxL nm.cls ws rf rl → (js_Xt X).sig.returnType = ret → js_W X y maxL (js_Qv X y post) G 0 (lv_args 0 args) []) : js_Cv l y nm ws rf rl args G post := js_body mf hsz hy body
theorem js_ofl {l : Launch} {y : js_L} {nm : MethodName} {bytes : ByteArray} {maxL n rf rl : Nat} {ret : Option FieldType} {ws : List Cond} {args : List Value} {G : js_G} {post : Int64 → js_G → Prop} (mf : js_M nm bytes maxL ret ws n) (hsz : (lg_sl args).length ≤ maxL) (hy : js_Dy y)
    (body : ∀ X : js_X, js_F X y bytes maxL nm.cls ws rf rl → (js_Xt X).sig.returnType = ret → js_W X y maxL (js_Ql X y post) G 0 (lv_args 0 args) []) : js_Cl l y nm ws rf rl args G post := js_body mf hsz hy body
theorem js_ofq {l : Launch} {y : js_L} {nm : MethodName} {bytes : ByteArray} {maxL n rf rl : Nat} {ret : Option FieldType} {ws : List Cond} {args : List Value} {G : js_G} {post : Option Nat → js_G → Prop} (mf : js_M nm bytes maxL ret ws n) (hsz : (lg_sl args).length ≤ maxL) (hy : js_Dy y)
    (body : ∀ X : js_X, js_F X y bytes maxL nm.cls ws rf rl → (js_Xt X).sig.returnType = ret → js_W X y maxL (js_Qq X y post) G 0 (lv_args 0 args) []) : js_Cq l y nm ws rf rl args G post := js_body mf hsz hy body
theorem js_Ci.mono {l : Launch} {y : js_L} {nm : MethodName} {ws : List Cond} {rf rl : Nat} {args : List Value} {G : js_G} {post post' : Int32 → js_G → Prop} (h : js_Ci l y nm ws rf rl args G post) (hp : ∀ r G', post r G' → post' r G') : js_Ci l y nm ws rf rl args G post' := by
  intro p e ha hc hk s m as below hf happ hPc hT
  obtain ⟨k, o, h1, h2, h3, ⟨⟨r, u, e1, e2, e3⟩, hF⟩, hL⟩ := h p e ha hc hk s m as below hf happ hPc hT
  exact ⟨k, o, h1, h2, h3, ⟨⟨r, u, e1, hp r u e2, e3⟩, hF⟩, hL⟩
