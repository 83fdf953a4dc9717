/-! the cells of the store in the order of their making -/
def sb (t : Nat) : Nat := if t = 0 then 1 else if t ≤ 2 then 144 + 20 * (t - 1) else 23 + 20 * (t - 3)
def px (k : Nat) : Nat := if k < 165 then (if k / 3 = 54 then 188 + k % 3 else sb (k / 3 / 6) + 2 + 3 * (k / 3 % 6) + k % 3) else if k < 183 then sb ((k - 165) / 2) + (k - 165) % 2 else if k = 183 then 21 else if k = 184 then 22 else if k = 185 then 143 else if k = 186 then 184 else if k = 187 then 185 else if k = 188 then 186 else if k = 189 then 187 else if k = 190 then 0 else k
def qx : List Nat := [190, 165, 166, 0, 1, 2, 3, 4, 5, 6, 7, 8, 9, 10, 11, 12, 13, 14, 15, 16, 17, 183, 184, 171, 172, 54, 55, 56, 57, 58, 59, 60, 61, 62, 63, 64, 65, 66, 67, 68, 69, 70, 71, 173, 174, 72, 73, 74, 75, 76, 77, 78, 79, 80, 81, 82, 83, 84, 85, 86, 87, 88, 89, 175, 176, 90, 91, 92, 93, 94, 95, 96, 97, 98, 99, 100, 101, 102, 103, 104, 105, 106, 107, 177, 178, 108, 109, 110, 111, 112, 113, 114, 115, 116, 117, 118, 119, 120, 121, 122, 123, 124, 125, 179, 180, 126, 127, 128, 129, 130, 131, 132, 133, 134, 135, 136, 137, 138, 139, 140, 141, 142, 143, 181, 182, 144, 145, 146, 147, 148, 149, 150, 151, 152, 153, 154, 155, 156, 157, 158, 159, 160, 161, 185, 167, 168, 18, 19, 20, 21, 22, 23, 24, 25, 26, 27, 28, 29, 30, 31, 32, 33, 34, 35, 169, 170, 36, 37, 38, 39, 40, 41, 42, 43, 44, 45, 46, 47, 48, 49, 50, 51, 52, 53, 186, 187, 188, 189, 162, 163, 164, 191, 192, 193, 194, 195, 196, 197, 198]
theorem px_lt : ∀ k, k < 199 → px k < 199 := by decide +kernel
theorem qx_px : ∀ k, k < 199 → qx.getD (px k) 0 = k := by decide +kernel
theorem px_inj {i j : Nat} (hi : i < 199) (hj : j < 199) (h : px i = px j) : i = j := by rw [← qx_px i hi, ← qx_px j hj, h]
abbrev y5 (y : js_L) (a : Nat → Nat) : js_L := (y.1, fun k => a (px k), y.2.2)
def js_G0 : js_G := fun k i => if k < 165 then (if k % 3 = 0 then (if i = 0 then nI 4 else nI 0) else nI 0) else if k < 183 then (if i = 0 then (if k % 2 = 1 then nI 12345 else nI 0) else nI 0) else if k = 187 then (if i = 4 then nI 33 else nI 0) else nI 0
/-- the reference's fields, the first t arrays set -/
def mF (a : Nat → Nat) (t : Nat) : List Value := [if 1 ≤ t then .ref (a 192) else .null, if 2 ≤ t then .ref (a 193) else .null, .int (nI 0), if 3 ≤ t then .ref (a 194) else .null, if 4 ≤ t then .ref (a 195) else .null, if 5 ≤ t then .ref (a 196) else .null, .int (nI 0), if 6 ≤ t then .ref (a 197) else .null, .int (nI 0), .int (nI 0), .int (nI 0), if 7 ≤ t then .ref (a 198) else .null, .int (nI 0)]
def mN (i : Nat) : Nat := if i = 192 then 637 else if i = 193 then 3822 else if i = 194 then 1274 else if i = 195 then 2 else if i = 196 then 80 else if i = 197 then 64 else 80
def mQ (y : js_L) (a : Nat → Nat) (t i : Nat) : va_E := if i < 191 then xP y a 6 2 i else if i = 191 then .inr (5, mF a t) else .inl (js_cI y, mN i, .inl (fun _ => nI 0))
theorem mF_c {a a2 : Nat → Nat} {t m : Nat} (h : ∀ j, j < m → a j = a2 j) (hm : 192 + t ≤ m) : mF a t = mF a2 t := by
  have g : ∀ (c : Nat), (if c ≤ t then Value.ref (a (191 + c)) else .null) = (if c ≤ t then Value.ref (a2 (191 + c)) else .null) := by
    intro c
    split
    · rw [h _ (by omega)]
    · rfl
  have g1 := g 1; have g2 := g 2; have g3 := g 3; have g4 := g 4; have g5 := g 5; have g6 := g 6; have g7 := g 7
  simp only [show 191 + 1 = 192 from rfl, show 191 + 2 = 193 from rfl, show 191 + 3 = 194 from rfl, show 191 + 4 = 195 from rfl, show 191 + 5 = 196 from rfl, show 191 + 6 = 197 from rfl, show 191 + 7 = 198 from rfl] at g1 g2 g3 g4 g5 g6 g7
  unfold mF
  rw [g1, g2, g3, g4, g5, g6, g7]
theorem mQ_c {y : js_L} {a a2 : Nat → Nat} {t i m : Nat} (h : ∀ j, j < m → a j = a2 j) (hm : 192 + t ≤ m) : mQ y a t i = mQ y a2 t i := by
  unfold mQ
  by_cases q : i < 191
  · rw [if_pos q, if_pos q]
    exact xP_c (m := 191) (fun j hj => h j (by omega)) q (by omega) (by omega) (by omega) q
  · rw [if_neg q, if_neg q, mF_c h hm]
theorem mQ_new {y : js_L} {a : Nat → Nat} {t q : Nat} {e : va_E} (he : e = .inl (js_cI y, mN (192 + t), .inl (fun _ => nI 0))) (i : Nat) : eu (mQ y a t) (192 + t) e i = mQ y (au a (192 + t) q) t i := by
  by_cases z : i = 192 + t
  · subst z
    rw [eu_s, he]
    unfold mQ
    rw [if_neg (by omega), if_neg (by omega)]
  · rw [eu_n z]
    exact mQ_c (m := 192 + t) (fun j hj => (au_n (by omega)).symm) (Nat.le_refl _)
theorem mQ_put {y : js_L} {a : Nat → Nat} {t i : Nat} {fs : List Value} (h : fs = mF a (t + 1)) : eu (mQ y a t) 191 (.inr (5, fs)) i = mQ y a (t + 1) i := by
  by_cases q : i = 191
  · subst q; rw [eu_s, h]; rfl
  · rw [eu_n q]
    unfold mQ
    by_cases z : i < 191
    · rw [if_pos z, if_pos z]
    · rw [if_neg z, if_neg z, if_neg q, if_neg q]
theorem mQ_191 {y : js_L} {a : Nat → Nat} {t : Nat} : mQ y a t 191 = .inr (5, mF a t) := rfl
/-- the same entry, but for what an array of references holds behind its end -/
def eqE (e e2 : va_E) : Prop := e = e2 ∨ ∃ (c : ClassId) (n : Nat) (f g : Nat → Option Nat), e = .inl (c, n, .inr (.inr (.inr (.inr f)))) ∧ e2 = .inl (c, n, .inr (.inr (.inr (.inr g)))) ∧ ∀ j, j < n → f j = g j
theorem arrV_c {c : ClassId} {n : Nat} {f g : Nat → Value} (h : ∀ j, j < n → f j = g j) : arrV c n f = arrV c n g := by
  unfold arrV
  congr 1
  exact congrArg _ (funext (fun j => h j.val j.isLt))
theorem eqE.at {e e2 : va_E} (h : eqE e e2) {D : va_G} {q : Nat} {H : Heap} (k : va_at D vwCl (q, e) H) : va_at D vwCl (q, e2) H := by
  rcases h with rfl | ⟨c, n, f, g, rfl, rfl, hj⟩
  · exact k
  · have e : arrV c n (fun j => va_rf (f j)) = arrV c n (fun j => va_rf (g j)) := arrV_c (fun j hjn => by rw [hj j hjn])
    have k2 : H[q]? = some (arrV c n (fun j => va_rf (f j))) := k
    rw [e] at k2
    exact k2
abbrev rwE (y : js_L) (a : Nat → Nat) (k : Nat) : Prop := eqE (mQ y a 7 (px k)) (js_ct (y5 y a) js_G0 k)
theorem rw_0 (y : js_L) (a : Nat → Nat) : rwE y a 0 := Or.inl rfl
theorem rw_1 (y : js_L) (a : Nat → Nat) : rwE y a 1 := Or.inl rfl
theorem rw_2 (y : js_L) (a : Nat → Nat) : rwE y a 2 := Or.inl rfl
theorem rw_3 (y : js_L) (a : Nat → Nat) : rwE y a 3 := Or.inl rfl
theorem rw_4 (y : js_L) (a : Nat → Nat) : rwE y a 4 := Or.inl rfl
theorem rw_5 (y : js_L) (a : Nat → Nat) : rwE y a 5 := Or.inl rfl
theorem rw_6 (y : js_L) (a : Nat → Nat) : rwE y a 6 := Or.inl rfl
theorem rw_7 (y : js_L) (a : Nat → Nat) : rwE y a 7 := Or.inl rfl
theorem rw_8 (y : js_L) (a : Nat → Nat) : rwE y a 8 := Or.inl rfl
theorem rw_9 (y : js_L) (a : Nat → Nat) : rwE y a 9 := Or.inl rfl
theorem rw_10 (y : js_L) (a : Nat → Nat) : rwE y a 10 := Or.inl rfl
theorem rw_11 (y : js_L) (a : Nat → Nat) : rwE y a 11 := Or.inl rfl
theorem rw_12 (y : js_L) (a : Nat → Nat) : rwE y a 12 := Or.inl rfl
theorem rw_13 (y : js_L) (a : Nat → Nat) : rwE y a 13 := Or.inl rfl
theorem rw_14 (y : js_L) (a : Nat → Nat) : rwE y a 14 := Or.inl rfl
theorem rw_15 (y : js_L) (a : Nat → Nat) : rwE y a 15 := Or.inl rfl
theorem rw_16 (y : js_L) (a : Nat → Nat) : rwE y a 16 := Or.inl rfl
theorem rw_17 (y : js_L) (a : Nat → Nat) : rwE y a 17 := Or.inl rfl
theorem rw_18 (y : js_L) (a : Nat → Nat) : rwE y a 18 := Or.inl rfl
theorem rw_19 (y : js_L) (a : Nat → Nat) : rwE y a 19 := Or.inl rfl
theorem rw_20 (y : js_L) (a : Nat → Nat) : rwE y a 20 := Or.inl rfl
theorem rw_21 (y : js_L) (a : Nat → Nat) : rwE y a 21 := Or.inl rfl
theorem rw_22 (y : js_L) (a : Nat → Nat) : rwE y a 22 := Or.inl rfl
theorem rw_23 (y : js_L) (a : Nat → Nat) : rwE y a 23 := Or.inl rfl
theorem rw_24 (y : js_L) (a : Nat → Nat) : rwE y a 24 := Or.inl rfl
theorem rw_25 (y : js_L) (a : Nat → Nat) : rwE y a 25 := Or.inl rfl
theorem rw_26 (y : js_L) (a : Nat → Nat) : rwE y a 26 := Or.inl rfl
theorem rw_27 (y : js_L) (a : Nat → Nat) : rwE y a 27 := Or.inl rfl
theorem rw_28 (y : js_L) (a : Nat → Nat) : rwE y a 28 := Or.inl rfl
theorem rw_29 (y : js_L) (a : Nat → Nat) : rwE y a 29 := Or.inl rfl
theorem rw_30 (y : js_L) (a : Nat → Nat) : rwE y a 30 := Or.inl rfl
theorem rw_31 (y : js_L) (a : Nat → Nat) : rwE y a 31 := Or.inl rfl
theorem rw_32 (y : js_L) (a : Nat → Nat) : rwE y a 32 := Or.inl rfl
theorem rw_33 (y : js_L) (a : Nat → Nat) : rwE y a 33 := Or.inl rfl
theorem rw_34 (y : js_L) (a : Nat → Nat) : rwE y a 34 := Or.inl rfl
theorem rw_35 (y : js_L) (a : Nat → Nat) : rwE y a 35 := Or.inl rfl
theorem rw_36 (y : js_L) (a : Nat → Nat) : rwE y a 36 := Or.inl rfl
theorem rw_37 (y : js_L) (a : Nat → Nat) : rwE y a 37 := Or.inl rfl
theorem rw_38 (y : js_L) (a : Nat → Nat) : rwE y a 38 := Or.inl rfl
theorem rw_39 (y : js_L) (a : Nat → Nat) : rwE y a 39 := Or.inl rfl
theorem rw_40 (y : js_L) (a : Nat → Nat) : rwE y a 40 := Or.inl rfl
theorem rw_41 (y : js_L) (a : Nat → Nat) : rwE y a 41 := Or.inl rfl
theorem rw_42 (y : js_L) (a : Nat → Nat) : rwE y a 42 := Or.inl rfl
theorem rw_43 (y : js_L) (a : Nat → Nat) : rwE y a 43 := Or.inl rfl
theorem rw_44 (y : js_L) (a : Nat → Nat) : rwE y a 44 := Or.inl rfl
theorem rw_45 (y : js_L) (a : Nat → Nat) : rwE y a 45 := Or.inl rfl
theorem rw_46 (y : js_L) (a : Nat → Nat) : rwE y a 46 := Or.inl rfl
theorem rw_47 (y : js_L) (a : Nat → Nat) : rwE y a 47 := Or.inl rfl
theorem rw_48 (y : js_L) (a : Nat → Nat) : rwE y a 48 := Or.inl rfl
theorem rw_49 (y : js_L) (a : Nat → Nat) : rwE y a 49 := Or.inl rfl
theorem rw_50 (y : js_L) (a : Nat → Nat) : rwE y a 50 := Or.inl rfl
theorem rw_51 (y : js_L) (a : Nat → Nat) : rwE y a 51 := Or.inl rfl
theorem rw_52 (y : js_L) (a : Nat → Nat) : rwE y a 52 := Or.inl rfl
theorem rw_53 (y : js_L) (a : Nat → Nat) : rwE y a 53 := Or.inl rfl
theorem rw_54 (y : js_L) (a : Nat → Nat) : rwE y a 54 := Or.inl rfl
theorem rw_55 (y : js_L) (a : Nat → Nat) : rwE y a 55 := Or.inl rfl
theorem rw_56 (y : js_L) (a : Nat → Nat) : rwE y a 56 := Or.inl rfl
theorem rw_57 (y : js_L) (a : Nat → Nat) : rwE y a 57 := Or.inl rfl
theorem rw_58 (y : js_L) (a : Nat → Nat) : rwE y a 58 := Or.inl rfl
theorem rw_59 (y : js_L) (a : Nat → Nat) : rwE y a 59 := Or.inl rfl
theorem rw_60 (y : js_L) (a : Nat → Nat) : rwE y a 60 := Or.inl rfl
theorem rw_61 (y : js_L) (a : Nat → Nat) : rwE y a 61 := Or.inl rfl
theorem rw_62 (y : js_L) (a : Nat → Nat) : rwE y a 62 := Or.inl rfl
theorem rw_63 (y : js_L) (a : Nat → Nat) : rwE y a 63 := Or.inl rfl
theorem rw_64 (y : js_L) (a : Nat → Nat) : rwE y a 64 := Or.inl rfl
theorem rw_65 (y : js_L) (a : Nat → Nat) : rwE y a 65 := Or.inl rfl
theorem rw_66 (y : js_L) (a : Nat → Nat) : rwE y a 66 := Or.inl rfl
theorem rw_67 (y : js_L) (a : Nat → Nat) : rwE y a 67 := Or.inl rfl
theorem rw_68 (y : js_L) (a : Nat → Nat) : rwE y a 68 := Or.inl rfl
theorem rw_69 (y : js_L) (a : Nat → Nat) : rwE y a 69 := Or.inl rfl
theorem rw_70 (y : js_L) (a : Nat → Nat) : rwE y a 70 := Or.inl rfl
theorem rw_71 (y : js_L) (a : Nat → Nat) : rwE y a 71 := Or.inl rfl
theorem rw_72 (y : js_L) (a : Nat → Nat) : rwE y a 72 := Or.inl rfl
theorem rw_73 (y : js_L) (a : Nat → Nat) : rwE y a 73 := Or.inl rfl
theorem rw_74 (y : js_L) (a : Nat → Nat) : rwE y a 74 := Or.inl rfl
theorem rw_75 (y : js_L) (a : Nat → Nat) : rwE y a 75 := Or.inl rfl
theorem rw_76 (y : js_L) (a : Nat → Nat) : rwE y a 76 := Or.inl rfl
theorem rw_77 (y : js_L) (a : Nat → Nat) : rwE y a 77 := Or.inl rfl
theorem rw_78 (y : js_L) (a : Nat → Nat) : rwE y a 78 := Or.inl rfl
theorem rw_79 (y : js_L) (a : Nat → Nat) : rwE y a 79 := Or.inl rfl
theorem rw_80 (y : js_L) (a : Nat → Nat) : rwE y a 80 := Or.inl rfl
theorem rw_81 (y : js_L) (a : Nat → Nat) : rwE y a 81 := Or.inl rfl
theorem rw_82 (y : js_L) (a : Nat → Nat) : rwE y a 82 := Or.inl rfl
theorem rw_83 (y : js_L) (a : Nat → Nat) : rwE y a 83 := Or.inl rfl
theorem rw_84 (y : js_L) (a : Nat → Nat) : rwE y a 84 := Or.inl rfl
theorem rw_85 (y : js_L) (a : Nat → Nat) : rwE y a 85 := Or.inl rfl
theorem rw_86 (y : js_L) (a : Nat → Nat) : rwE y a 86 := Or.inl rfl
theorem rw_87 (y : js_L) (a : Nat → Nat) : rwE y a 87 := Or.inl rfl
theorem rw_88 (y : js_L) (a : Nat → Nat) : rwE y a 88 := Or.inl rfl
theorem rw_89 (y : js_L) (a : Nat → Nat) : rwE y a 89 := Or.inl rfl
theorem rw_90 (y : js_L) (a : Nat → Nat) : rwE y a 90 := Or.inl rfl
theorem rw_91 (y : js_L) (a : Nat → Nat) : rwE y a 91 := Or.inl rfl
theorem rw_92 (y : js_L) (a : Nat → Nat) : rwE y a 92 := Or.inl rfl
theorem rw_93 (y : js_L) (a : Nat → Nat) : rwE y a 93 := Or.inl rfl
theorem rw_94 (y : js_L) (a : Nat → Nat) : rwE y a 94 := Or.inl rfl
theorem rw_95 (y : js_L) (a : Nat → Nat) : rwE y a 95 := Or.inl rfl
theorem rw_96 (y : js_L) (a : Nat → Nat) : rwE y a 96 := Or.inl rfl
theorem rw_97 (y : js_L) (a : Nat → Nat) : rwE y a 97 := Or.inl rfl
theorem rw_98 (y : js_L) (a : Nat → Nat) : rwE y a 98 := Or.inl rfl
theorem rw_99 (y : js_L) (a : Nat → Nat) : rwE y a 99 := Or.inl rfl
theorem rw_100 (y : js_L) (a : Nat → Nat) : rwE y a 100 := Or.inl rfl
theorem rw_101 (y : js_L) (a : Nat → Nat) : rwE y a 101 := Or.inl rfl
theorem rw_102 (y : js_L) (a : Nat → Nat) : rwE y a 102 := Or.inl rfl
theorem rw_103 (y : js_L) (a : Nat → Nat) : rwE y a 103 := Or.inl rfl
theorem rw_104 (y : js_L) (a : Nat → Nat) : rwE y a 104 := Or.inl rfl
theorem rw_105 (y : js_L) (a : Nat → Nat) : rwE y a 105 := Or.inl rfl
theorem rw_106 (y : js_L) (a : Nat → Nat) : rwE y a 106 := Or.inl rfl
theorem rw_107 (y : js_L) (a : Nat → Nat) : rwE y a 107 := Or.inl rfl
theorem rw_108 (y : js_L) (a : Nat → Nat) : rwE y a 108 := Or.inl rfl
theorem rw_109 (y : js_L) (a : Nat → Nat) : rwE y a 109 := Or.inl rfl
theorem rw_110 (y : js_L) (a : Nat → Nat) : rwE y a 110 := Or.inl rfl
theorem rw_111 (y : js_L) (a : Nat → Nat) : rwE y a 111 := Or.inl rfl
theorem rw_112 (y : js_L) (a : Nat → Nat) : rwE y a 112 := Or.inl rfl
theorem rw_113 (y : js_L) (a : Nat → Nat) : rwE y a 113 := Or.inl rfl
theorem rw_114 (y : js_L) (a : Nat → Nat) : rwE y a 114 := Or.inl rfl
theorem rw_115 (y : js_L) (a : Nat → Nat) : rwE y a 115 := Or.inl rfl
theorem rw_116 (y : js_L) (a : Nat → Nat) : rwE y a 116 := Or.inl rfl
theorem rw_117 (y : js_L) (a : Nat → Nat) : rwE y a 117 := Or.inl rfl
theorem rw_118 (y : js_L) (a : Nat → Nat) : rwE y a 118 := Or.inl rfl
theorem rw_119 (y : js_L) (a : Nat → Nat) : rwE y a 119 := Or.inl rfl
theorem rw_120 (y : js_L) (a : Nat → Nat) : rwE y a 120 := Or.inl rfl
theorem rw_121 (y : js_L) (a : Nat → Nat) : rwE y a 121 := Or.inl rfl
theorem rw_122 (y : js_L) (a : Nat → Nat) : rwE y a 122 := Or.inl rfl
theorem rw_123 (y : js_L) (a : Nat → Nat) : rwE y a 123 := Or.inl rfl
theorem rw_124 (y : js_L) (a : Nat → Nat) : rwE y a 124 := Or.inl rfl
theorem rw_125 (y : js_L) (a : Nat → Nat) : rwE y a 125 := Or.inl rfl
theorem rw_126 (y : js_L) (a : Nat → Nat) : rwE y a 126 := Or.inl rfl
theorem rw_127 (y : js_L) (a : Nat → Nat) : rwE y a 127 := Or.inl rfl
theorem rw_128 (y : js_L) (a : Nat → Nat) : rwE y a 128 := Or.inl rfl
theorem rw_129 (y : js_L) (a : Nat → Nat) : rwE y a 129 := Or.inl rfl
theorem rw_130 (y : js_L) (a : Nat → Nat) : rwE y a 130 := Or.inl rfl
theorem rw_131 (y : js_L) (a : Nat → Nat) : rwE y a 131 := Or.inl rfl
theorem rw_132 (y : js_L) (a : Nat → Nat) : rwE y a 132 := Or.inl rfl
theorem rw_133 (y : js_L) (a : Nat → Nat) : rwE y a 133 := Or.inl rfl
theorem rw_134 (y : js_L) (a : Nat → Nat) : rwE y a 134 := Or.inl rfl
theorem rw_135 (y : js_L) (a : Nat → Nat) : rwE y a 135 := Or.inl rfl
theorem rw_136 (y : js_L) (a : Nat → Nat) : rwE y a 136 := Or.inl rfl
theorem rw_137 (y : js_L) (a : Nat → Nat) : rwE y a 137 := Or.inl rfl
theorem rw_138 (y : js_L) (a : Nat → Nat) : rwE y a 138 := Or.inl rfl
theorem rw_139 (y : js_L) (a : Nat → Nat) : rwE y a 139 := Or.inl rfl
theorem rw_140 (y : js_L) (a : Nat → Nat) : rwE y a 140 := Or.inl rfl
theorem rw_141 (y : js_L) (a : Nat → Nat) : rwE y a 141 := Or.inl rfl
theorem rw_142 (y : js_L) (a : Nat → Nat) : rwE y a 142 := Or.inl rfl
theorem rw_143 (y : js_L) (a : Nat → Nat) : rwE y a 143 := Or.inl rfl
theorem rw_144 (y : js_L) (a : Nat → Nat) : rwE y a 144 := Or.inl rfl
theorem rw_145 (y : js_L) (a : Nat → Nat) : rwE y a 145 := Or.inl rfl
theorem rw_146 (y : js_L) (a : Nat → Nat) : rwE y a 146 := Or.inl rfl
theorem rw_147 (y : js_L) (a : Nat → Nat) : rwE y a 147 := Or.inl rfl
theorem rw_148 (y : js_L) (a : Nat → Nat) : rwE y a 148 := Or.inl rfl
theorem rw_149 (y : js_L) (a : Nat → Nat) : rwE y a 149 := Or.inl rfl
theorem rw_150 (y : js_L) (a : Nat → Nat) : rwE y a 150 := Or.inl rfl
theorem rw_151 (y : js_L) (a : Nat → Nat) : rwE y a 151 := Or.inl rfl
theorem rw_152 (y : js_L) (a : Nat → Nat) : rwE y a 152 := Or.inl rfl
theorem rw_153 (y : js_L) (a : Nat → Nat) : rwE y a 153 := Or.inl rfl
theorem rw_154 (y : js_L) (a : Nat → Nat) : rwE y a 154 := Or.inl rfl
theorem rw_155 (y : js_L) (a : Nat → Nat) : rwE y a 155 := Or.inl rfl
theorem rw_156 (y : js_L) (a : Nat → Nat) : rwE y a 156 := Or.inl rfl
theorem rw_157 (y : js_L) (a : Nat → Nat) : rwE y a 157 := Or.inl rfl
theorem rw_158 (y : js_L) (a : Nat → Nat) : rwE y a 158 := Or.inl rfl
theorem rw_159 (y : js_L) (a : Nat → Nat) : rwE y a 159 := Or.inl rfl
theorem rw_160 (y : js_L) (a : Nat → Nat) : rwE y a 160 := Or.inl rfl
theorem rw_161 (y : js_L) (a : Nat → Nat) : rwE y a 161 := Or.inl rfl
theorem rw_162 (y : js_L) (a : Nat → Nat) : rwE y a 162 := Or.inl rfl
theorem rw_163 (y : js_L) (a : Nat → Nat) : rwE y a 163 := Or.inl rfl
theorem rw_164 (y : js_L) (a : Nat → Nat) : rwE y a 164 := Or.inl rfl
theorem rw_165 (y : js_L) (a : Nat → Nat) : rwE y a 165 := Or.inl rfl
theorem rw_166 (y : js_L) (a : Nat → Nat) : rwE y a 166 := Or.inr ⟨_, _, _, _, rfl, rfl, fun j hj => by
  rcases (show j = 0 ∨ j = 1 ∨ j = 2 ∨ j = 3 ∨ j = 4 ∨ j = 5 by omega) with rfl | rfl | rfl | rfl | rfl | rfl <;> rfl⟩
theorem rw_167 (y : js_L) (a : Nat → Nat) : rwE y a 167 := Or.inl rfl
theorem rw_168 (y : js_L) (a : Nat → Nat) : rwE y a 168 := Or.inr ⟨_, _, _, _, rfl, rfl, fun j hj => by
  rcases (show j = 0 ∨ j = 1 ∨ j = 2 ∨ j = 3 ∨ j = 4 ∨ j = 5 by omega) with rfl | rfl | rfl | rfl | rfl | rfl <;> rfl⟩
theorem rw_169 (y : js_L) (a : Nat → Nat) : rwE y a 169 := Or.inl rfl
theorem rw_170 (y : js_L) (a : Nat → Nat) : rwE y a 170 := Or.inr ⟨_, _, _, _, rfl, rfl, fun j hj => by
  rcases (show j = 0 ∨ j = 1 ∨ j = 2 ∨ j = 3 ∨ j = 4 ∨ j = 5 by omega) with rfl | rfl | rfl | rfl | rfl | rfl <;> rfl⟩
theorem rw_171 (y : js_L) (a : Nat → Nat) : rwE y a 171 := Or.inl rfl
theorem rw_172 (y : js_L) (a : Nat → Nat) : rwE y a 172 := Or.inr ⟨_, _, _, _, rfl, rfl, fun j hj => by
  rcases (show j = 0 ∨ j = 1 ∨ j = 2 ∨ j = 3 ∨ j = 4 ∨ j = 5 by omega) with rfl | rfl | rfl | rfl | rfl | rfl <;> rfl⟩
theorem rw_173 (y : js_L) (a : Nat → Nat) : rwE y a 173 := Or.inl rfl
theorem rw_174 (y : js_L) (a : Nat → Nat) : rwE y a 174 := Or.inr ⟨_, _, _, _, rfl, rfl, fun j hj => by
  rcases (show j = 0 ∨ j = 1 ∨ j = 2 ∨ j = 3 ∨ j = 4 ∨ j = 5 by omega) with rfl | rfl | rfl | rfl | rfl | rfl <;> rfl⟩
theorem rw_175 (y : js_L) (a : Nat → Nat) : rwE y a 175 := Or.inl rfl
theorem rw_176 (y : js_L) (a : Nat → Nat) : rwE y a 176 := Or.inr ⟨_, _, _, _, rfl, rfl, fun j hj => by
  rcases (show j = 0 ∨ j = 1 ∨ j = 2 ∨ j = 3 ∨ j = 4 ∨ j = 5 by omega) with rfl | rfl | rfl | rfl | rfl | rfl <;> rfl⟩
theorem rw_177 (y : js_L) (a : Nat → Nat) : rwE y a 177 := Or.inl rfl
theorem rw_178 (y : js_L) (a : Nat → Nat) : rwE y a 178 := Or.inr ⟨_, _, _, _, rfl, rfl, fun j hj => by
  rcases (show j = 0 ∨ j = 1 ∨ j = 2 ∨ j = 3 ∨ j = 4 ∨ j = 5 by omega) with rfl | rfl | rfl | rfl | rfl | rfl <;> rfl⟩
theorem rw_179 (y : js_L) (a : Nat → Nat) : rwE y a 179 := Or.inl rfl
theorem rw_180 (y : js_L) (a : Nat → Nat) : rwE y a 180 := Or.inr ⟨_, _, _, _, rfl, rfl, fun j hj => by
  rcases (show j = 0 ∨ j = 1 ∨ j = 2 ∨ j = 3 ∨ j = 4 ∨ j = 5 by omega) with rfl | rfl | rfl | rfl | rfl | rfl <;> rfl⟩
theorem rw_181 (y : js_L) (a : Nat → Nat) : rwE y a 181 := Or.inl rfl
theorem rw_182 (y : js_L) (a : Nat → Nat) : rwE y a 182 := Or.inr ⟨_, _, _, _, rfl, rfl, fun j hj => by
  rcases (show j = 0 ∨ j = 1 ∨ j = 2 ∨ j = 3 ∨ j = 4 ∨ j = 5 by omega) with rfl | rfl | rfl | rfl | rfl | rfl <;> rfl⟩
theorem rw_183 (y : js_L) (a : Nat → Nat) : rwE y a 183 := Or.inl rfl
theorem rw_184 (y : js_L) (a : Nat → Nat) : rwE y a 184 := Or.inr ⟨_, _, _, _, rfl, rfl, fun j hj => by
  rcases (show j = 0 ∨ j = 1 ∨ j = 2 ∨ j = 3 ∨ j = 4 ∨ j = 5 by omega) with rfl | rfl | rfl | rfl | rfl | rfl <;> rfl⟩
theorem rw_185 (y : js_L) (a : Nat → Nat) : rwE y a 185 := Or.inr ⟨_, _, _, _, rfl, rfl, fun j hj => by
  rcases (show j = 0 ∨ j = 1 by omega) with rfl | rfl <;> rfl⟩
theorem rw_186 (y : js_L) (a : Nat → Nat) : rwE y a 186 := Or.inl rfl
theorem rw_187 (y : js_L) (a : Nat → Nat) : rwE y a 187 := Or.inl rfl
theorem rw_188 (y : js_L) (a : Nat → Nat) : rwE y a 188 := Or.inl rfl
theorem rw_189 (y : js_L) (a : Nat → Nat) : rwE y a 189 := Or.inl rfl
theorem rw_190 (y : js_L) (a : Nat → Nat) : rwE y a 190 := Or.inl rfl
theorem rw_191 (y : js_L) (a : Nat → Nat) : rwE y a 191 := Or.inl rfl
theorem rw_192 (y : js_L) (a : Nat → Nat) : rwE y a 192 := Or.inl rfl
theorem rw_193 (y : js_L) (a : Nat → Nat) : rwE y a 193 := Or.inl rfl
theorem rw_194 (y : js_L) (a : Nat → Nat) : rwE y a 194 := Or.inl rfl
theorem rw_195 (y : js_L) (a : Nat → Nat) : rwE y a 195 := Or.inl rfl
theorem rw_196 (y : js_L) (a : Nat → Nat) : rwE y a 196 := Or.inl rfl
theorem rw_197 (y : js_L) (a : Nat → Nat) : rwE y a 197 := Or.inl rfl
theorem rw_198 (y : js_L) (a : Nat → Nat) : rwE y a 198 := Or.inl rfl
theorem rwc_0 (y : js_L) (a : Nat → Nat) (k : Nat) (h : 0 ≤ k) (h2 : k < 20) : rwE y a k := by
  rcases (show k = 0 ∨ k = 1 ∨ k = 2 ∨ k = 3 ∨ k = 4 ∨ k = 5 ∨ k = 6 ∨ k = 7 ∨ k = 8 ∨ k = 9 ∨ k = 10 ∨ k = 11 ∨ k = 12 ∨ k = 13 ∨ k = 14 ∨ k = 15 ∨ k = 16 ∨ k = 17 ∨ k = 18 ∨ k = 19 by omega) with rfl | rfl | rfl | rfl | rfl | rfl | rfl | rfl | rfl | rfl | rfl | rfl | rfl | rfl | rfl | rfl | rfl | rfl | rfl | rfl
  · exact rw_0 y a
  · exact rw_1 y a
  · exact rw_2 y a
  · exact rw_3 y a
  · exact rw_4 y a
  · exact rw_5 y a
  · exact rw_6 y a
  · exact rw_7 y a
  · exact rw_8 y a
  · exact rw_9 y a
  · exact rw_10 y a
  · exact rw_11 y a
  · exact rw_12 y a
  · exact rw_13 y a
  · exact rw_14 y a
  · exact rw_15 y a
  · exact rw_16 y a
  · exact rw_17 y a
  · exact rw_18 y a
  · exact rw_19 y a
theorem rwc_1 (y : js_L) (a : Nat → Nat) (k : Nat) (h : 20 ≤ k) (h2 : k < 40) : rwE y a k := by
  rcases (show k = 20 ∨ k = 21 ∨ k = 22 ∨ k = 23 ∨ k = 24 ∨ k = 25 ∨ k = 26 ∨ k = 27 ∨ k = 28 ∨ k = 29 ∨ k = 30 ∨ k = 31 ∨ k = 32 ∨ k = 33 ∨ k = 34 ∨ k = 35 ∨ k = 36 ∨ k = 37 ∨ k = 38 ∨ k = 39 by omega) with rfl | rfl | rfl | rfl | rfl | rfl | rfl | rfl | rfl | rfl | rfl | rfl | rfl | rfl | rfl | rfl | rfl | rfl | rfl | rfl
  · exact rw_20 y a
  · exact rw_21 y a
  · exact rw_22 y a
  · exact rw_23 y a
  · exact rw_24 y a
  · exact rw_25 y a
  · exact rw_26 y a
  · exact rw_27 y a
  · exact rw_28 y a
  · exact rw_29 y a
  · exact rw_30 y a
  · exact rw_31 y a
  · exact rw_32 y a
  · exact rw_33 y a
  · exact rw_34 y a
  · exact rw_35 y a
  · exact rw_36 y a
  · exact rw_37 y a
  · exact rw_38 y a
  · exact rw_39 y a
theorem rwc_2 (y : js_L) (a : Nat → Nat) (k : Nat) (h : 40 ≤ k) (h2 : k < 60) : rwE y a k := by
  rcases (show k = 40 ∨ k = 41 ∨ k = 42 ∨ k = 43 ∨ k = 44 ∨ k = 45 ∨ k = 46 ∨ k = 47 ∨ k = 48 ∨ k = 49 ∨ k = 50 ∨ k = 51 ∨ k = 52 ∨ k = 53 ∨ k = 54 ∨ k = 55 ∨ k = 56 ∨ k = 57 ∨ k = 58 ∨ k = 59 by omega) with rfl | rfl | rfl | rfl | rfl | rfl | rfl | rfl | rfl | rfl | rfl | rfl | rfl | rfl | rfl | rfl | rfl | rfl | rfl | rfl
  · exact rw_40 y a
  · exact rw_41 y a
  · exact rw_42 y a
  · exact rw_43 y a
  · exact rw_44 y a
  · exact rw_45 y a
  · exact rw_46 y a
  · exact rw_47 y a
  · exact rw_48 y a
  · exact rw_49 y a
  · exact rw_50 y a
  · exact rw_51 y a
  · exact rw_52 y a
  · exact rw_53 y a
  · exact rw_54 y a
  · exact rw_55 y a
  · exact rw_56 y a
  · exact rw_57 y a
  · exact rw_58 y a
  · exact rw_59 y a
theorem rwc_3 (y : js_L) (a : Nat → Nat) (k : Nat) (h : 60 ≤ k) (h2 : k < 80) : rwE y a k := by
  rcases (show k = 60 ∨ k = 61 ∨ k = 62 ∨ k = 63 ∨ k = 64 ∨ k = 65 ∨ k = 66 ∨ k = 67 ∨ k = 68 ∨ k = 69 ∨ k = 70 ∨ k = 71 ∨ k = 72 ∨ k = 73 ∨ k = 74 ∨ k = 75 ∨ k = 76 ∨ k = 77 ∨ k = 78 ∨ k = 79 by omega) with rfl | rfl | rfl | rfl | rfl | rfl | rfl | rfl | rfl | rfl | rfl | rfl | rfl | rfl | rfl | rfl | rfl | rfl | rfl | rfl
  · exact rw_60 y a
  · exact rw_61 y a
  · exact rw_62 y a
  · exact rw_63 y a
  · exact rw_64 y a
  · exact rw_65 y a
  · exact rw_66 y a
  · exact rw_67 y a
  · exact rw_68 y a
  · exact rw_69 y a
  · exact rw_70 y a
  · exact rw_71 y a
  · exact rw_72 y a
  · exact rw_73 y a
  · exact rw_74 y a
  · exact rw_75 y a
  · exact rw_76 y a
  · exact rw_77 y a
  · exact rw_78 y a
  · exact rw_79 y a
theorem rwc_4 (y : js_L) (a : Nat → Nat) (k : Nat) (h : 80 ≤ k) (h2 : k < 100) : rwE y a k := by
  rcases (show k = 80 ∨ k = 81 ∨ k = 82 ∨ k = 83 ∨ k = 84 ∨ k = 85 ∨ k = 86 ∨ k = 87 ∨ k = 88 ∨ k = 89 ∨ k = 90 ∨ k = 91 ∨ k = 92 ∨ k = 93 ∨ k = 94 ∨ k = 95 ∨ k = 96 ∨ k = 97 ∨ k = 98 ∨ k = 99 by omega) with rfl | rfl | rfl | rfl | rfl | rfl | rfl | rfl | rfl | rfl | rfl | rfl | rfl | rfl | rfl | rfl | rfl | rfl | rfl | rfl
  · exact rw_80 y a
  · exact rw_81 y a
  · exact rw_82 y a
  · exact rw_83 y a
  · exact rw_84 y a
  · exact rw_85 y a
  · exact rw_86 y a
  · exact rw_87 y a
  · exact rw_88 y a
  · exact rw_89 y a
  · exact rw_90 y a
  · exact rw_91 y a
  · exact rw_92 y a
  · exact rw_93 y a
  · exact rw_94 y a
  · exact rw_95 y a
  · exact rw_96 y a
  · exact rw_97 y a
  · exact rw_98 y a
  · exact rw_99 y a
theorem rwc_5 (y : js_L) (a : Nat → Nat) (k : Nat) (h : 100 ≤ k) (h2 : k < 120) : rwE y a k := by
  rcases (show k = 100 ∨ k = 101 ∨ k = 102 ∨ k = 103 ∨ k = 104 ∨ k = 105 ∨ k = 106 ∨ k = 107 ∨ k = 108 ∨ k = 109 ∨ k = 110 ∨ k = 111 ∨ k = 112 ∨ k = 113 ∨ k = 114 ∨ k = 115 ∨ k = 116 ∨ k = 117 ∨ k = 118 ∨ k = 119 by omega) with rfl | rfl | rfl | rfl | rfl | rfl | rfl | rfl | rfl | rfl | rfl | rfl | rfl | rfl | rfl | rfl | rfl | rfl | rfl | rfl
  · exact rw_100 y a
  · exact rw_101 y a
  · exact rw_102 y a
  · exact rw_103 y a
  · exact rw_104 y a
  · exact rw_105 y a
  · exact rw_106 y a
  · exact rw_107 y a
  · exact rw_108 y a
  · exact rw_109 y a
  · exact rw_110 y a
  · exact rw_111 y a
  · exact rw_112 y a
  · exact rw_113 y a
  · exact rw_114 y a
  · exact rw_115 y a
  · exact rw_116 y a
  · exact rw_117 y a
  · exact rw_118 y a
  · exact rw_119 y a
theorem rwc_6 (y : js_L) (a : Nat → Nat) (k : Nat) (h : 120 ≤ k) (h2 : k < 140) : rwE y a k := by
  rcases (show k = 120 ∨ k = 121 ∨ k = 122 ∨ k = 123 ∨ k = 124 ∨ k = 125 ∨ k = 126 ∨ k = 127 ∨ k = 128 ∨ k = 129 ∨ k = 130 ∨ k = 131 ∨ k = 132 ∨ k = 133 ∨ k = 134 ∨ k = 135 ∨ k = 136 ∨ k = 137 ∨ k = 138 ∨ k = 139 by omega) with rfl | rfl | rfl | rfl | rfl | rfl | rfl | rfl | rfl | rfl | rfl | rfl | rfl | rfl | rfl | rfl | rfl | rfl | rfl | rfl
  · exact rw_120 y a
  · exact rw_121 y a
  · exact rw_122 y a
  · exact rw_123 y a
  · exact rw_124 y a
  · exact rw_125 y a
  · exact rw_126 y a
  · exact rw_127 y a
  · exact rw_128 y a
  · exact rw_129 y a
  · exact rw_130 y a
  · exact rw_131 y a
  · exact rw_132 y a
  · exact rw_133 y a
  · exact rw_134 y a
  · exact rw_135 y a
  · exact rw_136 y a
  · exact rw_137 y a
  · exact rw_138 y a
  · exact rw_139 y a
theorem rwc_7 (y : js_L) (a : Nat → Nat) (k : Nat) (h : 140 ≤ k) (h2 : k < 160) : rwE y a k := by
  rcases (show k = 140 ∨ k = 141 ∨ k = 142 ∨ k = 143 ∨ k = 144 ∨ k = 145 ∨ k = 146 ∨ k = 147 ∨ k = 148 ∨ k = 149 ∨ k = 150 ∨ k = 151 ∨ k = 152 ∨ k = 153 ∨ k = 154 ∨ k = 155 ∨ k = 156 ∨ k = 157 ∨ k = 158 ∨ k = 159 by omega) with rfl | rfl | rfl | rfl | rfl | rfl | rfl | rfl | rfl | rfl | rfl | rfl | rfl | rfl | rfl | rfl | rfl | rfl | rfl | rfl
  · exact rw_140 y a
  · exact rw_141 y a
  · exact rw_142 y a
  · exact rw_143 y a
  · exact rw_144 y a
  · exact rw_145 y a
  · exact rw_146 y a
  · exact rw_147 y a
  · exact rw_148 y a
  · exact rw_149 y a
  · exact rw_150 y a
  · exact rw_151 y a
  · exact rw_152 y a
  · exact rw_153 y a
  · exact rw_154 y a
  · exact rw_155 y a
  · exact rw_156 y a
  · exact rw_157 y a
  · exact rw_158 y a
  · exact rw_159 y a
theorem rwc_8 (y : js_L) (a : Nat → Nat) (k : Nat) (h : 160 ≤ k) (h2 : k < 180) : rwE y a k := by
  rcases (show k = 160 ∨ k = 161 ∨ k = 162 ∨ k = 163 ∨ k = 164 ∨ k = 165 ∨ k = 166 ∨ k = 167 ∨ k = 168 ∨ k = 169 ∨ k = 170 ∨ k = 171 ∨ k = 172 ∨ k = 173 ∨ k = 174 ∨ k = 175 ∨ k = 176 ∨ k = 177 ∨ k = 178 ∨ k = 179 by omega) with rfl | rfl | rfl | rfl | rfl | rfl | rfl | rfl | rfl | rfl | rfl | rfl | rfl | rfl | rfl | rfl | rfl | rfl | rfl | rfl
  · exact rw_160 y a
  · exact rw_161 y a
  · exact rw_162 y a
  · exact rw_163 y a
  · exact rw_164 y a
  · exact rw_165 y a
  · exact rw_166 y a
  · exact rw_167 y a
  · exact rw_168 y a
  · exact rw_169 y a
  · exact rw_170 y a
  · exact rw_171 y a
  · exact rw_172 y a
  · exact rw_173 y a
  · exact rw_174 y a
  · exact rw_175 y a
  · exact rw_176 y a
  · exact rw_177 y a
  · exact rw_178 y a
  · exact rw_179 y a
theorem rwc_9 (y : js_L) (a : Nat → Nat) (k : Nat) (h : 180 ≤ k) (h2 : k < 199) : rwE y a k := by
  rcases (show k = 180 ∨ k = 181 ∨ k = 182 ∨ k = 183 ∨ k = 184 ∨ k = 185 ∨ k = 186 ∨ k = 187 ∨ k = 188 ∨ k = 189 ∨ k = 190 ∨ k = 191 ∨ k = 192 ∨ k = 193 ∨ k = 194 ∨ k = 195 ∨ k = 196 ∨ k = 197 ∨ k = 198 by omega) with rfl | rfl | rfl | rfl | rfl | rfl | rfl | rfl | rfl | rfl | rfl | rfl | rfl | rfl | rfl | rfl | rfl | rfl | rfl
  · exact rw_180 y a
  · exact rw_181 y a
  · exact rw_182 y a
  · exact rw_183 y a
  · exact rw_184 y a
  · exact rw_185 y a
  · exact rw_186 y a
  · exact rw_187 y a
  · exact rw_188 y a
  · exact rw_189 y a
  · exact rw_190 y a
  · exact rw_191 y a
  · exact rw_192 y a
  · exact rw_193 y a
  · exact rw_194 y a
  · exact rw_195 y a
  · exact rw_196 y a
  · exact rw_197 y a
  · exact rw_198 y a
theorem rw_all (y : js_L) (a : Nat → Nat) (k : Nat) (h : k < 199) : rwE y a k := by
  rcases (show (0 ≤ k ∧ k < 20) ∨ (20 ≤ k ∧ k < 40) ∨ (40 ≤ k ∧ k < 60) ∨ (60 ≤ k ∧ k < 80) ∨ (80 ≤ k ∧ k < 100) ∨ (100 ≤ k ∧ k < 120) ∨ (120 ≤ k ∧ k < 140) ∨ (140 ≤ k ∧ k < 160) ∨ (160 ≤ k ∧ k < 180) ∨ (180 ≤ k ∧ k < 199) by omega) with q | q | q | q | q | q | q | q | q | q
  · exact rwc_0 y a k q.1 q.2
  · exact rwc_1 y a k q.1 q.2
  · exact rwc_2 y a k q.1 q.2
  · exact rwc_3 y a k q.1 q.2
  · exact rwc_4 y a k q.1 q.2
  · exact rwc_5 y a k q.1 q.2
  · exact rwc_6 y a k q.1 q.2
  · exact rwc_7 y a k q.1 q.2
  · exact rwc_8 y a k q.1 q.2
  · exact rwc_9 y a k q.1 q.2
theorem px_P {D : va_G} {y : js_L} {a : Nat → Nat} {H : Heap} (h : va_P D vwCl (aw a 199 (mQ y a 7)) H) : va_P D vwCl (js_wl (y5 y a) js_G0) H := by
  intro k q hq
  rcases Nat.lt_or_ge k 199 with z | z
  · rw [js_wl_at z] at hq
    cases hq
    exact (rw_all y a k z).at (h (px k) _ (aw_at (px_lt k z)))
  · simp [js_wl, z] at hq
theorem px_D {y : js_L} {a : Nat → Nat} {E : Nat → va_E} (h : va_D (js_A y) (aw a 199 E)) : js_Dy (y5 y a) :=
  ⟨fun i j hi hj e => px_inj hi hj (h.1 (px i) (px j) _ _ (aw_at (px_lt i hi)) (aw_at (px_lt j hj)) e), fun k hk => h.2 (px k) _ (aw_at (px_lt k hk))⟩
abbrev js_Xw (X : js_X) (mc ms : Nat) : js_X := (X.1, X.2.1, X.2.2.1, X.2.2.2.1, X.2.2.2.2.1, X.2.2.2.2.2.1, X.2.2.2.2.2.2.1, X.2.2.2.2.2.2.2.1, X.2.2.2.2.2.2.2.2.1, X.2.2.2.2.2.2.2.2.2.1, mc, ms)
theorem k_switch {X : js_X} {y : js_L} {nL : Nat} {Q : State → Prop} {mc ms : Nat} {a : Nat → Nat} {pc : Nat} {lv : List (Nat × Value)} {st : List Value} (k : js_Dy (y5 y a) → js_W (js_Xw X mc ms) (y5 y a) nL Q js_G0 pc lv st) : kW X y nL Q mc ms 199 a (mQ y a 7) pc lv st :=
  fun H locs ls hP hD hS hl => k (px_D hD) H locs ls (px_P hP) hS hl
def jc0 : js_C := ((12345, fun _ => (4, fun _ => 0, some [])), [], fun _ => none, [])
theorem jr_G0_K {j : Nat} (h : j < 55) : jr_K js_G0 j (4, fun _ => 0, some []) := by
  have g : ∀ i, i ≠ 0 → js_G0 (js_kS j) i = nI 0 := fun i hi => by
    unfold js_G0; rw [if_pos (by unfold js_kS; omega), if_pos (by unfold js_kS; omega), if_neg hi]
  refine ⟨by decide, by decide, ?_, fun b hb => ?_, fun _ _ => Nat.zero_le _, g 3 (by decide), g 4 (by decide), by decide, fun t ht => (by cases ht), fun i hi => (by cases hi)⟩
  · unfold js_G0; rw [if_pos (by unfold js_kS; omega), if_pos (by unfold js_kS; omega), if_pos rfl]
  · unfold js_G0; rw [if_pos (by unfold js_kR; omega), if_neg (by unfold js_kR; omega)]
theorem jr_G0 : jr_C js_G0 jc0 :=
  ⟨⟨rfl, by decide, fun i hi => jr_G0_K (by omega)⟩, ⟨0, by decide, rfl, rfl, by decide, fun k s h => by cases h⟩, fun i hi => ⟨rfl, fun s h => by cases h⟩, rfl, by decide, fun k hk => by cases hk⟩
