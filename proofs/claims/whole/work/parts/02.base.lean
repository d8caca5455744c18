/-! numbers: every int of the machine is iI of an Int, every long lI of one -/
def iI (z : Int) : Int32 := Int32.ofInt z
def lI (z : Int) : Int64 := Int64.ofInt z
abbrev i32 (z : Int) : Prop := -2147483648 ≤ z ∧ z ≤ 2147483647
abbrev i64 (z : Int) : Prop := -9223372036854775808 ≤ z ∧ z ≤ 9223372036854775807
theorem iI_add (a b : Int) : iI a + iI b = iI (a + b) := (Int32.ofInt_add a b).symm
theorem iI_sub (a b : Int) : iI a - iI b = iI (a - b) := (Int32.ofInt_sub a b).symm
theorem iI_mul (a b : Int) : iI a * iI b = iI (a * b) := (Int32.ofInt_mul a b).symm
theorem lI_add (a b : Int) : lI a + lI b = lI (a + b) := (Int64.ofInt_add a b).symm
theorem lI_sub (a b : Int) : lI a - lI b = lI (a - b) := (Int64.ofInt_sub a b).symm
theorem lI_mul (a b : Int) : lI a * lI b = lI (a * b) := (Int64.ofInt_mul a b).symm
theorem iI_toInt {z : Int} (h : i32 z) : (iI z).toInt = z := Int32.toInt_ofInt_of_le (by have := h.1; omega) (by have := h.2; omega)
theorem lI_toInt {z : Int} (h : i64 z) : (lI z).toInt = z := Int64.toInt_ofInt_of_le (by have := h.1; omega) (by have := h.2; omega)
theorem iI_of (x : Int32) : x = iI x.toInt := (Int32.ofInt_toInt x).symm
theorem lI_of (x : Int64) : x = lI x.toInt := (Int64.ofInt_toInt x).symm
theorem i32_of (x : Int32) : i32 x.toInt := ⟨by have := x.le_toInt; omega, by have := x.toInt_lt; omega⟩
theorem i64_of (x : Int64) : i64 x.toInt := ⟨by have := x.le_toInt; omega, by have := x.toInt_lt; omega⟩
theorem iI_lt {a b : Int} (ha : i32 a) (hb : i32 b) : iI a < iI b ↔ a < b := by rw [Int32.lt_iff_toInt_lt, iI_toInt ha, iI_toInt hb]
theorem iI_le {a b : Int} (ha : i32 a) (hb : i32 b) : iI a ≤ iI b ↔ a ≤ b := by rw [Int32.le_iff_toInt_le, iI_toInt ha, iI_toInt hb]
theorem iI_eq {a b : Int} (ha : i32 a) (hb : i32 b) : iI a = iI b ↔ a = b := by rw [← Int32.toInt_inj, iI_toInt ha, iI_toInt hb]
theorem lI_lt {a b : Int} (ha : i64 a) (hb : i64 b) : lI a < lI b ↔ a < b := by rw [Int64.lt_iff_toInt_lt, lI_toInt ha, lI_toInt hb]
theorem lI_eq {a b : Int} (ha : i64 a) (hb : i64 b) : lI a = lI b ↔ a = b := by rw [← Int64.toInt_inj, lI_toInt ha, lI_toInt hb]
theorem iI_zero : (0 : Int32) = iI 0 := rfl
theorem lI_zero : (0 : Int64) = lI 0 := rfl
theorem iI_long {z : Int} (h : i32 z) : (iI z).toInt64 = lI z := by rw [← Int64.ofInt_int32ToInt, iI_toInt h]; rfl
theorem lI_int (z : Int) : (lI z).toInt32 = iI z := Int64.toInt32_ofInt
theorem iI_cl {z : Int} (h : i32 z) : (iI z).toNatClampNeg = z.toNat := Int32.toNatClampNeg_ofInt_of_le (by have := h.1; omega) (by have := h.2; omega)
theorem iI_nat (n : Nat) : Int32.ofNat n = iI n := by rw [← Int32.ofInt_eq_ofNat]; rfl
theorem iI_div {a b : Int} (ha : 0 ≤ a) (ha2 : a ≤ 2147483647) (hb : 0 < b) (hb2 : b ≤ 2147483647) : iI a / iI b = iI (a / b) := by
  have h1 : Int32.minValue.toInt = -2147483648 := rfl
  have h2 : Int32.maxValue.toInt = 2147483647 := rfl
  rw [← Int.tdiv_eq_ediv_of_nonneg ha]
  exact (Int32.ofInt_tdiv (by omega) (by omega) (by omega) (by omega)).symm
theorem lI_div {a b : Int} (ha : 0 ≤ a) (ha2 : a ≤ 9223372036854775807) (hb : 0 < b) (hb2 : b ≤ 9223372036854775807) : lI a / lI b = lI (a / b) := by
  have h1 : Int64.minValue.toInt = -9223372036854775808 := rfl
  have h2 : Int64.maxValue.toInt = 9223372036854775807 := rfl
  rw [← Int.tdiv_eq_ediv_of_nonneg ha]
  exact (Int64.ofInt_tdiv (by omega) (by omega) (by omega) (by omega)).symm
theorem iI_mod {a b : Int} (ha : 0 ≤ a) (ha2 : a ≤ 2147483647) (hb : 0 < b) (hb2 : b ≤ 2147483647) : iI a - iI a / iI b * iI b = iI (a % b) := by
  rw [iI_div ha ha2 hb hb2, iI_mul, iI_sub, Int.emod_def, Int.mul_comm b]
theorem lI_mod {a b : Int} (ha : 0 ≤ a) (ha2 : a ≤ 9223372036854775807) (hb : 0 < b) (hb2 : b ≤ 9223372036854775807) : lI a - lI a / lI b * lI b = lI (a % b) := by
  rw [lI_div ha ha2 hb hb2, lI_mul, lI_sub, Int.emod_def, Int.mul_comm b]
theorem iI_in {z : Int} {n : Nat} (h0 : 0 ≤ z) (h1 : z < n) (hn : n ≤ 2147483647) : vp_in (iI z) n := by
  rw [vp_in_iff, iI_toInt ⟨by omega, by omega⟩]; exact ⟨h0, h1⟩
def up (f : Int → Int) (i x : Int) : Int → Int := fun j => if j = i then x else f j
theorem up_same (f : Int → Int) (i x : Int) : up f i x i = x := by simp [up]
theorem up_ne {f : Int → Int} {i x j : Int} (h : j ≠ i) : up f i x j = f j := by simp [up, h]
abbrev Mem : Type := Nat → Int → Int
def up1 (M : Mem) (i : Nat) (f : Int → Int) : Mem := fun j => if j = i then f else M j
theorem up1_same (M : Mem) (i : Nat) (f : Int → Int) : up1 M i f i = f := by simp [up1]
theorem up1_ne {M : Mem} {i j : Nat} {f : Int → Int} (h : j ≠ i) : up1 M i f j = M j := by simp [up1, h]
theorem up1_up1 (M : Mem) (i : Nat) (f f' : Int → Int) : up1 (up1 M i f) i f' = up1 M i f' := by funext j; by_cases h : j = i <;> simp [up1, h]
theorem up1_self (M : Mem) (i : Nat) : up1 M i (M i) = M := by funext j; by_cases h : j = i <;> simp [up1, h]
theorem upd_iI {f : Int → Int} {z v : Int} (h : 0 ≤ z) : upd (fun k : Nat => iI (f k)) z.toNat (iI v) = fun k : Nat => iI (up f z v k) := by
  funext k
  by_cases hk : k = z.toNat
  · subst hk; rw [pk_us, Int.toNat_of_nonneg h, up_same]
  · rw [pk_un hk, up_ne (by omega)]
theorem updL_lI {f : Int → Int} {z v : Int} (h : 0 ≤ z) : vp_updL (fun k : Nat => lI (f k)) z.toNat (lI v) = fun k : Nat => lI (up f z v k) := by
  funext k
  by_cases hk : k = z.toNat
  · subst hk; rw [pk_uLs, Int.toNat_of_nonneg h, up_same]
  · rw [pk_uLn hk, up_ne (by omega)]
/-! the world: 95 cells, the same from the constructors' end on; what each is (kind, length) -/
def kt : List (Nat × Nat) := [(9, 0), (7, 0), (6, 0), (11, 8), (13, 3), (0, 0), (11, 5), (0, 0), (11, 5), (0, 0), (11, 5), (11, 12), (4, 0), (11, 8), (11, 8), (4, 0), (11, 8), (11, 8), (4, 0), (11, 8), (11, 8), (7, 0), (6, 0), (11, 8), (13, 3), (0, 0), (11, 5), (0, 0), (11, 5), (0, 0), (11, 5), (11, 12), (4, 0), (11, 8), (11, 8), (4, 0), (11, 8), (11, 8), (4, 0), (11, 8), (11, 8), (6, 0), (11, 8), (13, 3), (0, 0), (11, 5), (0, 0), (11, 5), (0, 0), (11, 5), (1, 0), (11, 30), (11, 30), (11, 30), (2, 0), (11, 12), (11, 8), (11, 5), (3, 0), (11, 3), (11, 3), (11, 12), (5, 0), (11, 100), (11, 12), (14, 6), (8, 0), (12, 60), (8, 0), (12, 60), (8, 0), (12, 60), (8, 0), (12, 60), (8, 0), (12, 60), (8, 0), (12, 60), (10, 0), (11, 90), (11, 90), (11, 5), (11, 100), (11, 168), (11, 30), (11, 30), (11, 30), (11, 12), (11, 8), (11, 5), (11, 8), (11, 90), (11, 6), (11, 6), (12, 360)]
def kd (i : Nat) : Nat := (kt.getD i (99, 0)).1
def ln (i : Nat) : Nat := (kt.getD i (99, 0)).2
theorem kd_lt {i k : Nat} (h : kd i = k) (hk : k ≠ 99) : i < 95 := by
  rcases Nat.lt_or_ge i 95 with h1 | h1
  · exact h1
  · exact absurd (by rw [← h, kd, List.getD_eq_getElem?_getD, List.getElem?_eq_none (by show 95 ≤ i; exact h1)]; rfl) hk
theorem ln_le (i : Nat) : ln i ≤ 360 := by
  rcases Nat.lt_or_ge i 95 with h1 | h1
  · have h : ∀ i, i < 95 → ln i ≤ 360 := by decide +kernel
    exact h i h1
  · rw [ln, List.getD_eq_getElem?_getD, List.getElem?_eq_none (by show 95 ≤ i; exact h1)]; decide
abbrev Gl : Type := va_G × (Nat → ClassId) × (Nat → Nat)
abbrev rf (g : Gl) (i : Nat) : Value := .ref (g.2.2 i)
abbrev iv (z : Int) : Value := .int (iI z)
abbrev jv (z : Int) : Value := .long (lI z)
def cellF (g : Gl) (i : Nat) (f : Int → Int) : va_E :=
  match kd i with
  | 0 => .inr (0, [rf g (i + 1), iv (f 1), iv (f 2), iv (f 3)])
  | 1 => .inr (1, [rf g (i + 1), rf g (i + 2), rf g (i + 3)])
  | 2 => .inr (2, [rf g (i + 1), rf g (i + 2), rf g (i + 3)])
  | 3 => .inr (3, [rf g (i + 1), rf g (i + 2), rf g (i + 3), iv (f 3)])
  | 4 => .inr (4, [rf g (i + 1), rf g (i + 2), iv (f 2), iv (f 3)])
  | 5 => .inr (5, [rf g (i + 1), iv (f 1), iv (f 2), iv (f 3), rf g (i + 2), iv (f 5)])
  | 6 => .inr (6, [rf g (i + 1), rf g (i + 2), iv (f 2)])
  | 7 => .inr (7, [rf g (i + 1), rf g (i + 10), rf g (i + 11), rf g (i + 14), rf g (i + 17)])
  | 8 => .inr (8, [rf g (i + 1), iv (f 1), iv (f 2)])
  | 9 => .inr (9, [rf g 1, rf g 21, iv (f 2), rf g 41, rf g 50, rf g 54, rf g 58, rf g 62, rf g 65])
  | 10 => .inr (10, [rf g 79, rf g 80, iv (f 2), rf g 81, rf g 82, iv (f 5), iv (f 6), iv (f 7), rf g 83, iv (f 9), rf g 84, rf g 85, rf g 86, iv (f 13), rf g 87, rf g 88, rf g 89, rf g 90, rf g 91, rf g 92, rf g 93, rf g 94])
  | 11 => .inl (g.2.1 0, ln i, .inl (fun k => iI (f k)))
  | 12 => .inl (g.2.1 1, ln i, .inr (.inl (fun k => lI (f k))))
  | 13 => .inl (g.2.1 2, 3, .inr (.inr (.inr (.inr (fun k => some (g.2.2 (i + 1 + 2 * k)))))))
  | 14 => .inl (g.2.1 3, 6, .inr (.inr (.inr (.inr (fun k => some (g.2.2 (i + 1 + 2 * k)))))))
  | _ => .inl (g.2.1 0, 0, .inl (fun _ => 0))
theorem cellF_0 {g : Gl} {i : Nat} (f : Int → Int) (h : kd i = 0) : cellF g i f = .inr (0, [rf g (i + 1), iv (f 1), iv (f 2), iv (f 3)]) := by unfold cellF; rw [h]; rfl
theorem cellF_1 {g : Gl} {i : Nat} (f : Int → Int) (h : kd i = 1) : cellF g i f = .inr (1, [rf g (i + 1), rf g (i + 2), rf g (i + 3)]) := by unfold cellF; rw [h]; rfl
theorem cellF_2 {g : Gl} {i : Nat} (f : Int → Int) (h : kd i = 2) : cellF g i f = .inr (2, [rf g (i + 1), rf g (i + 2), rf g (i + 3)]) := by unfold cellF; rw [h]; rfl
theorem cellF_3 {g : Gl} {i : Nat} (f : Int → Int) (h : kd i = 3) : cellF g i f = .inr (3, [rf g (i + 1), rf g (i + 2), rf g (i + 3), iv (f 3)]) := by unfold cellF; rw [h]; rfl
theorem cellF_4 {g : Gl} {i : Nat} (f : Int → Int) (h : kd i = 4) : cellF g i f = .inr (4, [rf g (i + 1), rf g (i + 2), iv (f 2), iv (f 3)]) := by unfold cellF; rw [h]; rfl
theorem cellF_5 {g : Gl} {i : Nat} (f : Int → Int) (h : kd i = 5) : cellF g i f = .inr (5, [rf g (i + 1), iv (f 1), iv (f 2), iv (f 3), rf g (i + 2), iv (f 5)]) := by unfold cellF; rw [h]; rfl
theorem cellF_6 {g : Gl} {i : Nat} (f : Int → Int) (h : kd i = 6) : cellF g i f = .inr (6, [rf g (i + 1), rf g (i + 2), iv (f 2)]) := by unfold cellF; rw [h]; rfl
theorem cellF_7 {g : Gl} {i : Nat} (f : Int → Int) (h : kd i = 7) : cellF g i f = .inr (7, [rf g (i + 1), rf g (i + 10), rf g (i + 11), rf g (i + 14), rf g (i + 17)]) := by unfold cellF; rw [h]; rfl
theorem cellF_8 {g : Gl} {i : Nat} (f : Int → Int) (h : kd i = 8) : cellF g i f = .inr (8, [rf g (i + 1), iv (f 1), iv (f 2)]) := by unfold cellF; rw [h]; rfl
theorem cellF_9 {g : Gl} {i : Nat} (f : Int → Int) (h : kd i = 9) : cellF g i f = .inr (9, [rf g 1, rf g 21, iv (f 2), rf g 41, rf g 50, rf g 54, rf g 58, rf g 62, rf g 65]) := by unfold cellF; rw [h]; rfl
theorem cellF_10 {g : Gl} {i : Nat} (f : Int → Int) (h : kd i = 10) : cellF g i f = .inr (10, [rf g 79, rf g 80, iv (f 2), rf g 81, rf g 82, iv (f 5), iv (f 6), iv (f 7), rf g 83, iv (f 9), rf g 84, rf g 85, rf g 86, iv (f 13), rf g 87, rf g 88, rf g 89, rf g 90, rf g 91, rf g 92, rf g 93, rf g 94]) := by unfold cellF; rw [h]; rfl
theorem cellF_11 {g : Gl} {i : Nat} (f : Int → Int) (h : kd i = 11) : cellF g i f = .inl (g.2.1 0, ln i, .inl (fun k => iI (f k))) := by unfold cellF; rw [h]; rfl
theorem cellF_12 {g : Gl} {i : Nat} (f : Int → Int) (h : kd i = 12) : cellF g i f = .inl (g.2.1 1, ln i, .inr (.inl (fun k => lI (f k)))) := by unfold cellF; rw [h]; rfl
theorem cellF_13 {g : Gl} {i : Nat} (f : Int → Int) (h : kd i = 13) : cellF g i f = .inl (g.2.1 2, 3, .inr (.inr (.inr (.inr (fun k => some (g.2.2 (i + 1 + 2 * k))))))) := by unfold cellF; rw [h]; rfl
theorem cellF_14 {g : Gl} {i : Nat} (f : Int → Int) (h : kd i = 14) : cellF g i f = .inl (g.2.1 3, 6, .inr (.inr (.inr (.inr (fun k => some (g.2.2 (i + 1 + 2 * k))))))) := by unfold cellF; rw [h]; rfl
theorem ln_ne {i j : Nat} {a b : Int} (h1 : (ln i : Int) = a) (h2 : (ln j : Int) = b) (h : a ≠ b) : i ≠ j := fun e => h (by rw [← h1, ← h2, e])
theorem kd_ne {i j a b : Nat} (h1 : kd i = a) (h2 : kd j = b) (h : a ≠ b) : i ≠ j := fun e => h (by rw [← h1, ← h2, e])
theorem kd_c0_1 {i : Nat} (h : kd i = 0) : kd (i + 1) = 11 := (by decide +kernel : ∀ i, i < 95 → kd i = 0 → kd (i + 1) = 11) i (kd_lt h (by decide)) h
theorem ln_c0_1 {i : Nat} (h : kd i = 0) : (ln (i + 1) : Int) = 5 := (by decide +kernel : ∀ i, i < 95 → kd i = 0 → (ln (i + 1) : Int) = 5) i (kd_lt h (by decide)) h
theorem kd_c4_1 {i : Nat} (h : kd i = 4) : kd (i + 1) = 11 := (by decide +kernel : ∀ i, i < 95 → kd i = 4 → kd (i + 1) = 11) i (kd_lt h (by decide)) h
theorem ln_c4_1 {i : Nat} (h : kd i = 4) : (ln (i + 1) : Int) = 8 := (by decide +kernel : ∀ i, i < 95 → kd i = 4 → (ln (i + 1) : Int) = 8) i (kd_lt h (by decide)) h
theorem kd_c4_2 {i : Nat} (h : kd i = 4) : kd (i + 2) = 11 := (by decide +kernel : ∀ i, i < 95 → kd i = 4 → kd (i + 2) = 11) i (kd_lt h (by decide)) h
theorem ln_c4_2 {i : Nat} (h : kd i = 4) : (ln (i + 2) : Int) = 8 := (by decide +kernel : ∀ i, i < 95 → kd i = 4 → (ln (i + 2) : Int) = 8) i (kd_lt h (by decide)) h
theorem kd_c6_1 {i : Nat} (h : kd i = 6) : kd (i + 1) = 11 := (by decide +kernel : ∀ i, i < 95 → kd i = 6 → kd (i + 1) = 11) i (kd_lt h (by decide)) h
theorem ln_c6_1 {i : Nat} (h : kd i = 6) : (ln (i + 1) : Int) = 8 := (by decide +kernel : ∀ i, i < 95 → kd i = 6 → (ln (i + 1) : Int) = 8) i (kd_lt h (by decide)) h
theorem kd_c6_2 {i : Nat} (h : kd i = 6) : kd (i + 2) = 13 := (by decide +kernel : ∀ i, i < 95 → kd i = 6 → kd (i + 2) = 13) i (kd_lt h (by decide)) h
theorem kd_c7_1 {i : Nat} (h : kd i = 7) : kd (i + 1) = 6 := (by decide +kernel : ∀ i, i < 95 → kd i = 7 → kd (i + 1) = 6) i (kd_lt h (by decide)) h
theorem kd_c7_10 {i : Nat} (h : kd i = 7) : kd (i + 10) = 11 := (by decide +kernel : ∀ i, i < 95 → kd i = 7 → kd (i + 10) = 11) i (kd_lt h (by decide)) h
theorem ln_c7_10 {i : Nat} (h : kd i = 7) : (ln (i + 10) : Int) = 12 := (by decide +kernel : ∀ i, i < 95 → kd i = 7 → (ln (i + 10) : Int) = 12) i (kd_lt h (by decide)) h
theorem kd_c7_11 {i : Nat} (h : kd i = 7) : kd (i + 11) = 4 := (by decide +kernel : ∀ i, i < 95 → kd i = 7 → kd (i + 11) = 4) i (kd_lt h (by decide)) h
theorem kd_c7_14 {i : Nat} (h : kd i = 7) : kd (i + 14) = 4 := (by decide +kernel : ∀ i, i < 95 → kd i = 7 → kd (i + 14) = 4) i (kd_lt h (by decide)) h
theorem kd_c7_17 {i : Nat} (h : kd i = 7) : kd (i + 17) = 4 := (by decide +kernel : ∀ i, i < 95 → kd i = 7 → kd (i + 17) = 4) i (kd_lt h (by decide)) h
theorem kd_c8_1 {i : Nat} (h : kd i = 8) : kd (i + 1) = 12 := (by decide +kernel : ∀ i, i < 95 → kd i = 8 → kd (i + 1) = 12) i (kd_lt h (by decide)) h
theorem ln_c8_1 {i : Nat} (h : kd i = 8) : (ln (i + 1) : Int) = 60 := (by decide +kernel : ∀ i, i < 95 → kd i = 8 → (ln (i + 1) : Int) = 60) i (kd_lt h (by decide)) h
def wld (g : Gl) (M : Mem) : va_W := (List.range 95).map (fun i => (g.2.2 i, cellF g i (M i)))
theorem wld_get (g : Gl) (M : Mem) {i : Nat} (h : i < 95) : (wld g M)[i]? = some (g.2.2 i, cellF g i (M i)) := by
  rw [wld, List.getElem?_map, List.getElem?_range h]; rfl
theorem wld_len (g : Gl) (M : Mem) : (wld g M).length = 95 := by simp [wld]
theorem wld_set (g : Gl) (M : Mem) {i : Nat} (h : i < 95) (f : Int → Int) : (wld g M).set i (g.2.2 i, cellF g i f) = wld g (up1 M i f) := by
  apply List.ext_getElem?
  intro j
  rw [List.getElem?_set, wld_len]
  by_cases hj : i = j
  · subst hj; rw [if_pos rfl, if_pos h, wld_get _ _ h, up1_same]
  · rw [if_neg hj]
    rcases Nat.lt_or_ge j 95 with h1 | h1
    · rw [wld_get _ _ h1, wld_get _ _ h1, up1_ne (Ne.symm hj)]
    · rw [List.getElem?_eq_none (by rw [wld_len]; exact h1), List.getElem?_eq_none (by rw [wld_len]; exact h1)]
def Aw (g : Gl) : Nat → Prop := fun q => ∃ i, i < 95 ∧ q = g.2.2 i
abbrev tyL (g : Gl) : List (ClassId × FieldType) := [(g.2.1 0, .int), (g.2.1 1, .long), (g.2.1 2, .object RX0), (g.2.1 3, .object RX8)]
def Inj (g : Gl) : Prop := ∀ i j, i < 95 → j < 95 → g.2.2 i = g.2.2 j → i = j
theorem wld_D {g : Gl} (hI : Inj g) (M : Mem) : va_D (Aw g) (wld g M) := by
  have hlt : ∀ (k : Nat) (q : Nat × va_E), (wld g M)[k]? = some q → k < 95 ∧ q.1 = g.2.2 k := by
    intro k q hq
    rcases Nat.lt_or_ge k 95 with h1 | h1
    · rw [wld_get _ _ h1] at hq; cases hq; exact ⟨h1, rfl⟩
    · rw [List.getElem?_eq_none (by rw [wld_len]; exact h1)] at hq; cases hq
  refine ⟨fun i j p q hi hj hpq => ?_, fun k q hk => ?_⟩
  · obtain ⟨a1, a2⟩ := hlt i p hi
    obtain ⟨b1, b2⟩ := hlt j q hj
    exact hI i j a1 b1 (by rw [← a2, ← b2, hpq])
  · obtain ⟨a1, a2⟩ := hlt k q hk
    exact ⟨k, a1, a2⟩
abbrev nestW : List (String × Nat × MethodName) := [(RX9, 11, yX7_init), (RX9, 27, yX6_init), (RX9, 34, yX1_init), (RX9, 41, yX2_init), (RX9, 48, yX3_init), (RX9, 55, yX5_init), (RX9, 62, yX8_init), (RX0, 25, yX9_copyNumbers), (RX0, 35, yX9_between), (RX1, 58, yX9_measure), (RX2, 21, yX9_copyNumbers), (RX2, 44, yX9_between), (RX3, 39, yX9_copyNumbers), (RX4, 25, yX9_copyNumbers), (RX4, 29, yX9_between), (RX5, 31, yX9_between), (RX6, 17, yX0_init), (RX6, 26, yX9_copyNumbers), (RX6, 41, yX9_between), (RX7, 11, yX6_init), (RX7, 41, yX9_copyNumbers)]
def Nest (U : State) : Prop := ∀ q ∈ nestW, va_Nw (.methodLinkNest q.1 q.2.1 q.2.2 RX9) U
theorem Nest.warm {s U : State} (hW : s.WarmedH U.vm) (h : Nest s) : Nest U := fun q hq => va_Nw.warmM hW (h q hq)
theorem Nest.same {s U : State} (hv : s.vm = U.vm) (h : Nest s) : Nest U := fun q hq => va_Nw.same rfl hv (h q hq)
/-! the judgement V: the machine's state, all but world, locals, stack and place hidden in z -/
abbrev Fz : Type := Program × Launch × Env × Room × State × MethodId × Array Value × List Frame × Method × Code × Nat × Nat × (State → Prop)
def V (z : Fz) (g : Gl) (nL : Nat) (M : Mem) (ls : List (Nat × Value)) (st : List Value) (pc : Nat) : Prop :=
  match z with
  | (p, l, e, R, s, m, args, below, meth, c, cells, slots, Q) => ∀ (H : Heap) (locs : List Loc) (la : Array Slot), va_P g.1 vwCl (wld g M) H → va_S (Aw g) s.heap H locs → lv_has la nL ls → W p l e R s m args below meth c H locs cells slots Q (F0 m pc la st)
def Ok (z : Fz) (g : Gl) (cc : ByteArray) (nL : Nat) (own : String) (Ts : List Cond) (fr lo : Nat) : Prop :=
  match z with
  | (p, _, _, R, s, m, args, _, _, c, cells, slots, _) => CallFix p m c cc nL s args Ts own ∧ va_K g.1 vwCl (tyL g) s ∧ Nest s ∧ Inj g ∧ fr ≤ R.frames ∧ lo ≤ R.locals ∧ cells ≤ R.cells ∧ slots ≤ R.slots
/-- what a method answers: its value and the world behind it -/
def Qct (g : Gl) (post : Option Value → Mem → Prop) : Array Value → State → Outcome → State → Prop := fun _ st oc t => (∃ (v : Option Value) (M' : Mem), oc = .returned v ∧ post v M' ∧ va_P g.1 vwCl (wld g M') t.heap) ∧ va_F (Aw g) st t
def Pct (g : Gl) (av : List Value) (M : Mem) : Array Value → State → Prop := va_Pc av (fun U => va_P g.1 vwCl (wld g M) U.heap ∧ va_K g.1 vwCl (tyL g) U ∧ Nest U ∧ Inj g)
/-- the contract of a method that makes nothing -/
def Ct (l : Launch) (g : Gl) (y : MethodName) (ws : List Cond) (fr lo : Nat) (av : List Value) (M : Mem) (post : Option Value → Mem → Prop) : Prop :=
  Met l y ws { frames := fr, cells := 0, slots := 0, locals := lo } (Pct g av M) (Qct g post) 0 0 (Aw g)
/-- what is at a return: the frame's Q is the contract's -/
def Rt (z : Fz) (g : Gl) (ret : Option FieldType) (post : Option Value → Mem → Prop) : Prop :=
  match z with
  | (_, _, _, _, s, _, args, below, meth, _, cells, slots, Q) => Q = MQ below (Qct g post) args s cells slots (Aw g) ∧ meth.sig.returnType = ret ∧ meth.locks = false
theorem Ct.of {l : Launch} {g : Gl} {y : MethodName} {ws ws' : List Cond} {fr lo : Nat} {av : List Value} {M : Mem} {post : Option Value → Mem → Prop} {cc : ByteArray} {nL : Nat} {ret : Option FieldType} (hy : plainName y.cls = true) (hw : ws = Cond.code y cc nL ret :: ws')
    (hn : (lg_sl av).length ≤ nL) (body : ∀ z : Fz, z.2.1 = l → Ok z g cc nL y.cls ws fr lo → Rt z g ret post → V z g nL M (lv_args 0 av) [] 0) : Ct l g y ws fr lo av M post := by
  refine Met.ofW (cc := cc) (maxL := nL) (ret := ret) hy hw ?_
  intro p e s m args below meth c s₁ B hml hv
  obtain ⟨rfl, hP, hK, hN, hI⟩ := hv
  have hl := lv_entry av hn
  rw [lg_entry_eq]
  refine body (p, l, e, _, s, m, _, below, meth, c, 0, 0, MQ below (Qct g post) _ s 0 0 (Aw g)) rfl ⟨⟨B.exec, B.bytes, hml, findClass_of_methodNamed B.named, atoms_spec (ws := ws) B.pre⟩, hK, hN, hI, Nat.le_refl _, Nat.le_refl _, Nat.le_refl _, Nat.le_refl _⟩ ⟨rfl, B.returns, B.notSynchronized⟩ s.heap [] _ hP va_S.rf hl
section VR
variable {z : Fz} {g : Gl} {cc : ByteArray} {nL : Nat} {own : String} {Ts : List Cond} {fr lo : Nat} {M : Mem} {ls ls' : List (Nat × Value)} {st : List Value} {pc : Nat}
theorem v_iconst (ok : Ok z g cc nL own Ts fr lo) {n : Int} (hdg : decode cc pc = .ok (.iconst n, 1)) (kk : V z g nL M ls (iv n :: st) (pc + 1)) : V z g nL M ls st pc := by
  obtain ⟨p, l, e, R, s, m, args, below, meth, c, cells, slots, Q⟩ := z
  obtain ⟨⟨hx, hb, hml, hown, hts⟩, hK, hN, hI, hfr, hlo, hce, hsl⟩ := ok
  intro H locs la hP hS hl
  exact lv_iconst hx hb hdg rfl (kk H locs la hP hS hl)
theorem v_bipush (ok : Ok z g cc nL own Ts fr lo) {n : Int} (hv : (Int8.ofInt n).toInt32 = iI n) (hdg : decode cc pc = .ok (.bipush n, 2)) (kk : V z g nL M ls (iv n :: st) (pc + 2)) : V z g nL M ls st pc := by
  obtain ⟨p, l, e, R, s, m, args, below, meth, c, cells, slots, Q⟩ := z
  obtain ⟨⟨hx, hb, hml, hown, hts⟩, hK, hN, hI, hfr, hlo, hce, hsl⟩ := ok
  intro H locs la hP hS hl
  exact lv_bipush hx hb hdg hv (kk H locs la hP hS hl)
theorem v_sipush (ok : Ok z g cc nL own Ts fr lo) {n : Int} (hv : (Int16.ofInt n).toInt32 = iI n) (hdg : decode cc pc = .ok (.sipush n, 3)) (kk : V z g nL M ls (iv n :: st) (pc + 3)) : V z g nL M ls st pc := by
  obtain ⟨p, l, e, R, s, m, args, below, meth, c, cells, slots, Q⟩ := z
  obtain ⟨⟨hx, hb, hml, hown, hts⟩, hK, hN, hI, hfr, hlo, hce, hsl⟩ := ok
  intro H locs la hP hS hl
  exact lv_sipush hx hb hdg hv (kk H locs la hP hS hl)
theorem v_lconst (ok : Ok z g cc nL own Ts fr lo) {k : _root_.Fin 2} {n : Int} (hn : Int64.ofNat (k : Nat) = lI n) (hdg : decode cc pc = .ok (.lconst k, 1)) (kk : V z g nL M ls (jv n :: st) (pc + 1)) : V z g nL M ls st pc := by
  obtain ⟨p, l, e, R, s, m, args, below, meth, c, cells, slots, Q⟩ := z
  obtain ⟨⟨hx, hb, hml, hown, hts⟩, hK, hN, hI, hfr, hlo, hce, hsl⟩ := ok
  intro H locs la hP hS hl
  exact lv_lconst hx hb hdg hn (kk H locs la hP hS hl)
theorem v_ldc (ok : Ok z g cc nL own Ts fr lo) {ix : Nat} {x : Int32} {n : Int} (hm : Cond.constant own ix x ∈ Ts) (hn : x = iI n) (hdg : decode cc pc = .ok (.ldc ix, 2)) (kk : V z g nL M ls (iv n :: st) (pc + 2)) : V z g nL M ls st pc := by
  obtain ⟨p, l, e, R, s, m, args, below, meth, c, cells, slots, Q⟩ := z
  obtain ⟨⟨hx, hb, hml, hown, hts⟩, hK, hN, hI, hfr, hlo, hce, hsl⟩ := ok
  intro H locs la hP hS hl
  subst hn
  exact lv_ldc hx hb hown (hts _ hm) hdg (kk H locs la hP hS hl)
theorem v_ldc2 (ok : Ok z g cc nL own Ts fr lo) {ix : Nat} {x : Int64} {n : Int} (hm : Cond.constantLong own ix x ∈ Ts) (hn : x = lI n) (hdg : decode cc pc = .ok (.ldc2_w ix, 3)) (kk : V z g nL M ls (jv n :: st) (pc + 3)) : V z g nL M ls st pc := by
  obtain ⟨p, l, e, R, s, m, args, below, meth, c, cells, slots, Q⟩ := z
  obtain ⟨⟨hx, hb, hml, hown, hts⟩, hK, hN, hI, hfr, hlo, hce, hsl⟩ := ok
  intro H locs la hP hS hl
  subst hn
  exact lv_ldc2 hx hb hown (hts _ hm) hdg (kk H locs la hP hS hl)
theorem v_iload_n (ok : Ok z g cc nL own Ts fr lo) {k : Fin 4} {i : Nat} {x : Int32} (j : Nat) (hdg : decode cc pc = .ok (.iload_n k, 1)) (hi : (k : Nat) = i) (hj : ls[j]? = some (i, .int x)) (kk : V z g nL M ls (.int x :: st) (pc + 1)) : V z g nL M ls st pc := by
  obtain ⟨p, l, e, R, s, m, args, below, meth, c, cells, slots, Q⟩ := z
  obtain ⟨⟨hx, hb, hml, hown, hts⟩, hK, hN, hI, hfr, hlo, hce, hsl⟩ := ok
  intro H locs la hP hS hl
  exact lv_iload_n hx hb hdg hi (lv_at hl j hj) (kk H locs la hP hS hl)
theorem v_iload (ok : Ok z g cc nL own Ts fr lo) {i : Nat} {x : Int32} (j : Nat) (hdg : decode cc pc = .ok (.iload i, 2)) (hj : ls[j]? = some (i, .int x)) (kk : V z g nL M ls (.int x :: st) (pc + 2)) : V z g nL M ls st pc := by
  obtain ⟨p, l, e, R, s, m, args, below, meth, c, cells, slots, Q⟩ := z
  obtain ⟨⟨hx, hb, hml, hown, hts⟩, hK, hN, hI, hfr, hlo, hce, hsl⟩ := ok
  intro H locs la hP hS hl
  exact lv_iload hx hb hdg (lv_at hl j hj) (kk H locs la hP hS hl)
theorem v_lload_n (ok : Ok z g cc nL own Ts fr lo) {k : Fin 4} {i : Nat} {x : Int64} (j : Nat) (hdg : decode cc pc = .ok (.lload_n k, 1)) (hi : (k : Nat) = i) (hj : ls[j]? = some (i, .long x)) (kk : V z g nL M ls (.long x :: st) (pc + 1)) : V z g nL M ls st pc := by
  obtain ⟨p, l, e, R, s, m, args, below, meth, c, cells, slots, Q⟩ := z
  obtain ⟨⟨hx, hb, hml, hown, hts⟩, hK, hN, hI, hfr, hlo, hce, hsl⟩ := ok
  intro H locs la hP hS hl
  exact lv_lload_n hx hb hdg hi (lv_at hl j hj) (kk H locs la hP hS hl)
theorem v_lload (ok : Ok z g cc nL own Ts fr lo) {i : Nat} {x : Int64} (j : Nat) (hdg : decode cc pc = .ok (.lload i, 2)) (hj : ls[j]? = some (i, .long x)) (kk : V z g nL M ls (.long x :: st) (pc + 2)) : V z g nL M ls st pc := by
  obtain ⟨p, l, e, R, s, m, args, below, meth, c, cells, slots, Q⟩ := z
  obtain ⟨⟨hx, hb, hml, hown, hts⟩, hK, hN, hI, hfr, hlo, hce, hsl⟩ := ok
  intro H locs la hP hS hl
  exact lv_lload hx hb hdg (lv_at hl j hj) (kk H locs la hP hS hl)
theorem v_aload_n (ok : Ok z g cc nL own Ts fr lo) {k : Fin 4} {i : Nat} {x : Nat} (j : Nat) (hdg : decode cc pc = .ok (.aload_n k, 1)) (hi : (k : Nat) = i) (hj : ls[j]? = some (i, .ref x)) (kk : V z g nL M ls (.ref x :: st) (pc + 1)) : V z g nL M ls st pc := by
  obtain ⟨p, l, e, R, s, m, args, below, meth, c, cells, slots, Q⟩ := z
  obtain ⟨⟨hx, hb, hml, hown, hts⟩, hK, hN, hI, hfr, hlo, hce, hsl⟩ := ok
  intro H locs la hP hS hl
  exact lv_aload_n hx hb hdg hi (lv_at hl j hj) (kk H locs la hP hS hl)
theorem v_aload (ok : Ok z g cc nL own Ts fr lo) {i : Nat} {x : Nat} (j : Nat) (hdg : decode cc pc = .ok (.aload i, 2)) (hj : ls[j]? = some (i, .ref x)) (kk : V z g nL M ls (.ref x :: st) (pc + 2)) : V z g nL M ls st pc := by
  obtain ⟨p, l, e, R, s, m, args, below, meth, c, cells, slots, Q⟩ := z
  obtain ⟨⟨hx, hb, hml, hown, hts⟩, hK, hN, hI, hfr, hlo, hce, hsl⟩ := ok
  intro H locs la hP hS hl
  exact lv_aload hx hb hdg (lv_at hl j hj) (kk H locs la hP hS hl)
theorem v_aload_nN (ok : Ok z g cc nL own Ts fr lo) {k : Fin 4} {i : Nat} (j : Nat) (hdg : decode cc pc = .ok (.aload_n k, 1)) (hi : (k : Nat) = i) (hj : ls[j]? = some (i, .null)) (kk : V z g nL M ls (.null :: st) (pc + 1)) : V z g nL M ls st pc := by
  obtain ⟨p, l, e, R, s, m, args, below, meth, c, cells, slots, Q⟩ := z
  obtain ⟨⟨hx, hb, hml, hown, hts⟩, hK, hN, hI, hfr, hlo, hce, hsl⟩ := ok
  intro H locs la hP hS hl
  exact lv_aload_nN hx hb hdg hi (lv_at hl j hj) (kk H locs la hP hS hl)
theorem v_istore_n (ok : Ok z g cc nL own Ts fr lo) {k : Fin 4} {i : Nat} {x : Int32} (ls' : List (Nat × Value)) (hdg : decode cc pc = .ok (.istore_n k, 1)) (hi : (k : Nat) = i) (hn : i < nL) (hq : (i, Value.int x) :: ls.filter (fun q => !(q.1 == i) && !(q.1 + 1 == i && q.2.category == 2)) = ls') (kk : V z g nL M ls' st (pc + 1)) : V z g nL M ls (Value.int x :: st) pc := by
  obtain ⟨p, l, e, R, s, m, args, below, meth, c, cells, slots, Q⟩ := z
  obtain ⟨⟨hx, hb, hml, hown, hts⟩, hK, hN, hI, hfr, hlo, hce, hsl⟩ := ok
  intro H locs la hP hS hl
  exact lv_istore_n hx hb hdg hi hl hn hq (fun la hl => kk H locs la hP hS hl)
theorem v_istore (ok : Ok z g cc nL own Ts fr lo) {i : Nat} {x : Int32} (ls' : List (Nat × Value)) (hdg : decode cc pc = .ok (.istore i, 2)) (hn : i < nL) (hq : (i, Value.int x) :: ls.filter (fun q => !(q.1 == i) && !(q.1 + 1 == i && q.2.category == 2)) = ls') (kk : V z g nL M ls' st (pc + 2)) : V z g nL M ls (Value.int x :: st) pc := by
  obtain ⟨p, l, e, R, s, m, args, below, meth, c, cells, slots, Q⟩ := z
  obtain ⟨⟨hx, hb, hml, hown, hts⟩, hK, hN, hI, hfr, hlo, hce, hsl⟩ := ok
  intro H locs la hP hS hl
  exact lv_istore hx hb hdg hl hn hq (fun la hl => kk H locs la hP hS hl)
theorem v_astore_n (ok : Ok z g cc nL own Ts fr lo) {k : Fin 4} {i : Nat} {x : Nat} (ls' : List (Nat × Value)) (hdg : decode cc pc = .ok (.astore_n k, 1)) (hi : (k : Nat) = i) (hn : i < nL) (hq : (i, Value.ref x) :: ls.filter (fun q => !(q.1 == i) && !(q.1 + 1 == i && q.2.category == 2)) = ls') (kk : V z g nL M ls' st (pc + 1)) : V z g nL M ls (Value.ref x :: st) pc := by
  obtain ⟨p, l, e, R, s, m, args, below, meth, c, cells, slots, Q⟩ := z
  obtain ⟨⟨hx, hb, hml, hown, hts⟩, hK, hN, hI, hfr, hlo, hce, hsl⟩ := ok
  intro H locs la hP hS hl
  exact lv_astore_n hx hb hdg hi hl hn hq (fun la hl => kk H locs la hP hS hl)
theorem v_astore (ok : Ok z g cc nL own Ts fr lo) {i : Nat} {x : Nat} (ls' : List (Nat × Value)) (hdg : decode cc pc = .ok (.astore i, 2)) (hn : i < nL) (hq : (i, Value.ref x) :: ls.filter (fun q => !(q.1 == i) && !(q.1 + 1 == i && q.2.category == 2)) = ls') (kk : V z g nL M ls' st (pc + 2)) : V z g nL M ls (Value.ref x :: st) pc := by
  obtain ⟨p, l, e, R, s, m, args, below, meth, c, cells, slots, Q⟩ := z
  obtain ⟨⟨hx, hb, hml, hown, hts⟩, hK, hN, hI, hfr, hlo, hce, hsl⟩ := ok
  intro H locs la hP hS hl
  exact lv_astore hx hb hdg hl hn hq (fun la hl => kk H locs la hP hS hl)
theorem v_lstore_n (ok : Ok z g cc nL own Ts fr lo) {k : Fin 4} {i : Nat} {x : Int64} (ls' : List (Nat × Value)) (hdg : decode cc pc = .ok (.lstore_n k, 1)) (hi : (k : Nat) = i) (hn : i + 1 < nL) (hq : (i, Value.long x) :: ls.filter (fun q => !(q.1 == i) && (!(q.1 == i + 1) && !(q.1 + 1 == i && q.2.category == 2))) = ls') (kk : V z g nL M ls' st (pc + 1)) : V z g nL M ls (Value.long x :: st) pc := by
  obtain ⟨p, l, e, R, s, m, args, below, meth, c, cells, slots, Q⟩ := z
  obtain ⟨⟨hx, hb, hml, hown, hts⟩, hK, hN, hI, hfr, hlo, hce, hsl⟩ := ok
  intro H locs la hP hS hl
  exact lv_lstore_n hx hb hdg hi hl hn hq (fun la hl => kk H locs la hP hS hl)
theorem v_lstore (ok : Ok z g cc nL own Ts fr lo) {i : Nat} {x : Int64} (ls' : List (Nat × Value)) (hdg : decode cc pc = .ok (.lstore i, 2)) (hn : i + 1 < nL) (hq : (i, Value.long x) :: ls.filter (fun q => !(q.1 == i) && (!(q.1 == i + 1) && !(q.1 + 1 == i && q.2.category == 2))) = ls') (kk : V z g nL M ls' st (pc + 2)) : V z g nL M ls (Value.long x :: st) pc := by
  obtain ⟨p, l, e, R, s, m, args, below, meth, c, cells, slots, Q⟩ := z
  obtain ⟨⟨hx, hb, hml, hown, hts⟩, hK, hN, hI, hfr, hlo, hce, hsl⟩ := ok
  intro H locs la hP hS hl
  exact lv_lstore hx hb hdg hl hn hq (fun la hl => kk H locs la hP hS hl)
theorem v_astore_nN (ok : Ok z g cc nL own Ts fr lo) {k : Fin 4} {i : Nat} (ls' : List (Nat × Value)) (hdg : decode cc pc = .ok (.astore_n k, 1)) (hi : (k : Nat) = i) (hn : i < nL) (hq : (i, Value.null) :: ls.filter (fun q => !(q.1 == i) && !(q.1 + 1 == i && q.2.category == 2)) = ls') (kk : V z g nL M ls' st (pc + 1)) : V z g nL M ls (Value.null :: st) pc := by
  obtain ⟨p, l, e, R, s, m, args, below, meth, c, cells, slots, Q⟩ := z
  obtain ⟨⟨hx, hb, hml, hown, hts⟩, hK, hN, hI, hfr, hlo, hce, hsl⟩ := ok
  intro H locs la hP hS hl
  exact lv_astore_nN hx hb hdg hi hl hn hq (fun la hl => kk H locs la hP hS hl)
theorem v_iinc (ok : Ok z g cc nL own Ts fr lo) {i : Nat} {n a : Int} (j : Nat) (ls' : List (Nat × Value)) (hdg : decode cc pc = .ok (.iinc i n, 3)) (hj : ls[j]? = some (i, iv a)) (hn : i < nL) (hq : (i, iv (a + n)) :: ls.filter (fun q => !(q.1 == i) && !(q.1 + 1 == i && q.2.category == 2)) = ls') (kk : V z g nL M ls' st (pc + 3)) : V z g nL M ls st pc := by
  obtain ⟨p, l, e, R, s, m, args, below, meth, c, cells, slots, Q⟩ := z
  obtain ⟨⟨hx, hb, hml, hown, hts⟩, hK, hN, hI, hfr, hlo, hce, hsl⟩ := ok
  intro H locs la hP hS hl
  exact lv_iinc hx hb hdg hl hj (iI_add a n) hn hq (fun la hl => kk H locs la hP hS hl)
theorem v_lv (ok : Ok z g cc nL own Ts fr lo) (ks : List Nat) (hq : lv_pick ls ks = ls') (kk : V z g nL M ls' st pc) : V z g nL M ls st pc := by
  obtain ⟨p, l, e, R, s, m, args, below, meth, c, cells, slots, Q⟩ := z
  obtain ⟨⟨hx, hb, hml, hown, hts⟩, hK, hN, hI, hfr, hlo, hce, hsl⟩ := ok
  intro H locs la hP hS hl
  exact kk H locs la hP hS (lv_sub hl ks hq)
theorem v_iadd (ok : Ok z g cc nL own Ts fr lo) {a b : Int} (hdg : decode cc pc = .ok (.iadd, 1)) (kk : V z g nL M ls (iv (a + b) :: st) (pc + 1)) : V z g nL M ls (iv b :: iv a :: st) pc := by
  obtain ⟨p, l, e, R, s, m, args, below, meth, c, cells, slots, Q⟩ := z
  obtain ⟨⟨hx, hb, hml, hown, hts⟩, hK, hN, hI, hfr, hlo, hce, hsl⟩ := ok
  intro H locs la hP hS hl
  refine lv_iadd hx hb hdg ?_
  rw [iI_add]
  exact kk H locs la hP hS hl
theorem v_isub (ok : Ok z g cc nL own Ts fr lo) {a b : Int} (hdg : decode cc pc = .ok (.isub, 1)) (kk : V z g nL M ls (iv (a - b) :: st) (pc + 1)) : V z g nL M ls (iv b :: iv a :: st) pc := by
  obtain ⟨p, l, e, R, s, m, args, below, meth, c, cells, slots, Q⟩ := z
  obtain ⟨⟨hx, hb, hml, hown, hts⟩, hK, hN, hI, hfr, hlo, hce, hsl⟩ := ok
  intro H locs la hP hS hl
  refine lv_isub hx hb hdg ?_
  rw [iI_sub]
  exact kk H locs la hP hS hl
theorem v_imul (ok : Ok z g cc nL own Ts fr lo) {a b : Int} (hdg : decode cc pc = .ok (.imul, 1)) (kk : V z g nL M ls (iv (a * b) :: st) (pc + 1)) : V z g nL M ls (iv b :: iv a :: st) pc := by
  obtain ⟨p, l, e, R, s, m, args, below, meth, c, cells, slots, Q⟩ := z
  obtain ⟨⟨hx, hb, hml, hown, hts⟩, hK, hN, hI, hfr, hlo, hce, hsl⟩ := ok
  intro H locs la hP hS hl
  refine lv_imul hx hb hdg ?_
  rw [iI_mul]
  exact kk H locs la hP hS hl
theorem v_ladd (ok : Ok z g cc nL own Ts fr lo) {a b : Int} (hdg : decode cc pc = .ok (.ladd, 1)) (kk : V z g nL M ls (jv (a + b) :: st) (pc + 1)) : V z g nL M ls (jv b :: jv a :: st) pc := by
  obtain ⟨p, l, e, R, s, m, args, below, meth, c, cells, slots, Q⟩ := z
  obtain ⟨⟨hx, hb, hml, hown, hts⟩, hK, hN, hI, hfr, hlo, hce, hsl⟩ := ok
  intro H locs la hP hS hl
  refine lv_ladd hx hb hdg ?_
  rw [lI_add]
  exact kk H locs la hP hS hl
theorem v_idiv (ok : Ok z g cc nL own Ts fr lo) {a b : Int} (ha : 0 ≤ a ∧ a ≤ 2147483647) (hbb : 0 < b ∧ b ≤ 2147483647) (hdg : decode cc pc = .ok (.idiv, 1)) (kk : V z g nL M ls (iv (a / b) :: st) (pc + 1)) : V z g nL M ls (iv b :: iv a :: st) pc := by
  obtain ⟨p, l, e, R, s, m, args, below, meth, c, cells, slots, Q⟩ := z
  obtain ⟨⟨hx, hb, hml, hown, hts⟩, hK, hN, hI, hfr, hlo, hce, hsl⟩ := ok
  intro H locs la hP hS hl
  have hne : ¬ iI b = 0 := fun h => by
    rw [iI_zero, iI_eq ⟨by omega, by omega⟩ ⟨by omega, by omega⟩] at h; omega
  refine lv_idiv hx hb hdg hne ?_
  rw [iI_div ha.1 ha.2 hbb.1 hbb.2]
  exact kk H locs la hP hS hl
theorem v_irem (ok : Ok z g cc nL own Ts fr lo) {a b : Int} (ha : 0 ≤ a ∧ a ≤ 2147483647) (hbb : 0 < b ∧ b ≤ 2147483647) (hdg : decode cc pc = .ok (.irem, 1)) (kk : V z g nL M ls (iv (a % b) :: st) (pc + 1)) : V z g nL M ls (iv b :: iv a :: st) pc := by
  obtain ⟨p, l, e, R, s, m, args, below, meth, c, cells, slots, Q⟩ := z
  obtain ⟨⟨hx, hb, hml, hown, hts⟩, hK, hN, hI, hfr, hlo, hce, hsl⟩ := ok
  intro H locs la hP hS hl
  have hne : ¬ iI b = 0 := fun h => by
    rw [iI_zero, iI_eq ⟨by omega, by omega⟩ ⟨by omega, by omega⟩] at h; omega
  refine lv_irem hx hb hdg hne ?_
  rw [iI_mod ha.1 ha.2 hbb.1 hbb.2]
  exact kk H locs la hP hS hl
theorem v_ldiv (ok : Ok z g cc nL own Ts fr lo) {a b : Int} (ha : 0 ≤ a ∧ a ≤ 9223372036854775807) (hbb : 0 < b ∧ b ≤ 9223372036854775807) (hdg : decode cc pc = .ok (.ldiv, 1)) (kk : V z g nL M ls (jv (a / b) :: st) (pc + 1)) : V z g nL M ls (jv b :: jv a :: st) pc := by
  obtain ⟨p, l, e, R, s, m, args, below, meth, c, cells, slots, Q⟩ := z
  obtain ⟨⟨hx, hb, hml, hown, hts⟩, hK, hN, hI, hfr, hlo, hce, hsl⟩ := ok
  intro H locs la hP hS hl
  have hne : ¬ lI b = 0 := fun h => by
    rw [lI_zero, lI_eq ⟨by omega, by omega⟩ ⟨by omega, by omega⟩] at h; omega
  refine lv_ldiv hx hb hdg hne ?_
  rw [lI_div ha.1 ha.2 hbb.1 hbb.2]
  exact kk H locs la hP hS hl
theorem v_lrem (ok : Ok z g cc nL own Ts fr lo) {a b : Int} (ha : 0 ≤ a ∧ a ≤ 9223372036854775807) (hbb : 0 < b ∧ b ≤ 9223372036854775807) (hdg : decode cc pc = .ok (.lrem, 1)) (kk : V z g nL M ls (jv (a % b) :: st) (pc + 1)) : V z g nL M ls (jv b :: jv a :: st) pc := by
  obtain ⟨p, l, e, R, s, m, args, below, meth, c, cells, slots, Q⟩ := z
  obtain ⟨⟨hx, hb, hml, hown, hts⟩, hK, hN, hI, hfr, hlo, hce, hsl⟩ := ok
  intro H locs la hP hS hl
  have hne : ¬ lI b = 0 := fun h => by
    rw [lI_zero, lI_eq ⟨by omega, by omega⟩ ⟨by omega, by omega⟩] at h; omega
  refine lv_lrem hx hb hdg hne ?_
  rw [lI_mod ha.1 ha.2 hbb.1 hbb.2]
  exact kk H locs la hP hS hl
theorem v_i2l (ok : Ok z g cc nL own Ts fr lo) {a : Int} (ha : i32 a) (hdg : decode cc pc = .ok (.i2l, 1)) (kk : V z g nL M ls (jv a :: st) (pc + 1)) : V z g nL M ls (iv a :: st) pc := by
  obtain ⟨p, l, e, R, s, m, args, below, meth, c, cells, slots, Q⟩ := z
  obtain ⟨⟨hx, hb, hml, hown, hts⟩, hK, hN, hI, hfr, hlo, hce, hsl⟩ := ok
  intro H locs la hP hS hl
  exact lv_i2l hx hb hdg (iI_long ha) (kk H locs la hP hS hl)
theorem v_l2i (ok : Ok z g cc nL own Ts fr lo) {a : Int} (hdg : decode cc pc = .ok (.l2i, 1)) (kk : V z g nL M ls (iv a :: st) (pc + 1)) : V z g nL M ls (jv a :: st) pc := by
  obtain ⟨p, l, e, R, s, m, args, below, meth, c, cells, slots, Q⟩ := z
  obtain ⟨⟨hx, hb, hml, hown, hts⟩, hK, hN, hI, hfr, hlo, hce, hsl⟩ := ok
  intro H locs la hP hS hl
  exact lv_l2i hx hb hdg (lI_int a) (kk H locs la hP hS hl)
theorem iI_byte (a : Int) : (iI a).toInt8.toInt32 = iI (a.bmod 256) := by
  apply Int32.toInt_inj.mp
  rw [iI_toInt ⟨by have := Int.le_bmod (x := a) (m := 256) (by decide); omega, by have := Int.bmod_lt (x := a) (m := 256) (by decide); omega⟩]
  simp [iI, Int32.toInt_toInt8]
theorem iI_short (a : Int) : (iI a).toInt16.toInt32 = iI (a.bmod 65536) := by
  apply Int32.toInt_inj.mp
  rw [iI_toInt ⟨by have := Int.le_bmod (x := a) (m := 65536) (by decide); omega, by have := Int.bmod_lt (x := a) (m := 65536) (by decide); omega⟩]
  simp [iI, Int32.toInt_toInt16]
theorem v_i2b (ok : Ok z g cc nL own Ts fr lo) {a : Int} (hdg : decode cc pc = .ok (.i2b, 1)) (kk : V z g nL M ls (iv (a.bmod 256) :: st) (pc + 1)) : V z g nL M ls (iv a :: st) pc := by
  obtain ⟨p, l, e, R, s, m, args, below, meth, c, cells, slots, Q⟩ := z
  obtain ⟨⟨hx, hb, hml, hown, hts⟩, hK, hN, hI, hfr, hlo, hce, hsl⟩ := ok
  intro H locs la hP hS hl
  exact lv_i2b hx hb hdg (iI_byte a) (kk H locs la hP hS hl)
theorem v_i2s (ok : Ok z g cc nL own Ts fr lo) {a : Int} (hdg : decode cc pc = .ok (.i2s, 1)) (kk : V z g nL M ls (iv (a.bmod 65536) :: st) (pc + 1)) : V z g nL M ls (iv a :: st) pc := by
  obtain ⟨p, l, e, R, s, m, args, below, meth, c, cells, slots, Q⟩ := z
  obtain ⟨⟨hx, hb, hml, hown, hts⟩, hK, hN, hI, hfr, hlo, hce, hsl⟩ := ok
  intro H locs la hP hS hl
  exact lv_i2s hx hb hdg (iI_short a) (kk H locs la hP hS hl)
theorem v_dup (ok : Ok z g cc nL own Ts fr lo) {v : Value} (hv : v.category = 1) (hdg : decode cc pc = .ok (.dup, 1)) (kk : V z g nL M ls (v :: v :: st) (pc + 1)) : V z g nL M ls (v :: st) pc := by
  obtain ⟨p, l, e, R, s, m, args, below, meth, c, cells, slots, Q⟩ := z
  obtain ⟨⟨hx, hb, hml, hown, hts⟩, hK, hN, hI, hfr, hlo, hce, hsl⟩ := ok
  intro H locs la hP hS hl
  exact lv_dup hx hb hdg hv (kk H locs la hP hS hl)
theorem v_pop (ok : Ok z g cc nL own Ts fr lo) {v : Value} (hv : v.category = 1) (hdg : decode cc pc = .ok (.pop, 1)) (kk : V z g nL M ls st (pc + 1)) : V z g nL M ls (v :: st) pc := by
  obtain ⟨p, l, e, R, s, m, args, below, meth, c, cells, slots, Q⟩ := z
  obtain ⟨⟨hx, hb, hml, hown, hts⟩, hK, hN, hI, hfr, hlo, hce, hsl⟩ := ok
  intro H locs la hP hS hl
  exact lv_pop hx hb hdg hv (kk H locs la hP hS hl)
theorem v_dup2 (ok : Ok z g cc nL own Ts fr lo) {v w : Value} (hv : v.category = 1) (hw : w.category = 1) (hdg : decode cc pc = .ok (.dup2, 1)) (kk : V z g nL M ls (v :: w :: v :: w :: st) (pc + 1)) : V z g nL M ls (v :: w :: st) pc := by
  obtain ⟨p, l, e, R, s, m, args, below, meth, c, cells, slots, Q⟩ := z
  obtain ⟨⟨hx, hb, hml, hown, hts⟩, hK, hN, hI, hfr, hlo, hce, hsl⟩ := ok
  intro H locs la hP hS hl
  exact lv_dup2_11 hx hb hdg hv hw (kk H locs la hP hS hl)
theorem v_if_eq (ok : Ok z g cc nL own Ts fr lo) {a : Int} {off : Int} {tgt : Nat} (ha : i32 a) (hdg : decode cc pc = .ok (.ifCond .eq off, 3)) (ht : (pc : Int) + off = (tgt : Int)) (kt : a = 0 → V z g nL M ls st tgt) (kf : ¬ (a = 0) → V z g nL M ls st (pc + 3)) : V z g nL M ls (iv a :: st) pc := by
  obtain ⟨p, l, e, R, s, m, args, below, meth, c, cells, slots, Q⟩ := z
  obtain ⟨⟨hx, hb, hml, hown, hts⟩, hK, hN, hI, hfr, hlo, hce, hsl⟩ := ok
  intro H locs la hP hS hl
  exact lv_if_eq hx hb hdg ht (fun h => (kt ((iI_eq ha ⟨by omega, by omega⟩).mp h)) H locs la hP hS hl) (fun h => (kf (fun h2 => h ((iI_eq ha ⟨by omega, by omega⟩).mpr h2))) H locs la hP hS hl)
theorem v_icmp_eq (ok : Ok z g cc nL own Ts fr lo) {a b : Int} {off : Int} {tgt : Nat} (ha : i32 a) (hbb : i32 b) (hdg : decode cc pc = .ok (.if_icmp .eq off, 3)) (ht : (pc : Int) + off = (tgt : Int)) (kt : a = b → V z g nL M ls st tgt) (kf : ¬ (a = b) → V z g nL M ls st (pc + 3)) : V z g nL M ls (iv b :: iv a :: st) pc := by
  obtain ⟨p, l, e, R, s, m, args, below, meth, c, cells, slots, Q⟩ := z
  obtain ⟨⟨hx, hb, hml, hown, hts⟩, hK, hN, hI, hfr, hlo, hce, hsl⟩ := ok
  intro H locs la hP hS hl
  exact lv_icmp_eq hx hb hdg ht (fun h => (kt ((iI_eq ha hbb).mp h)) H locs la hP hS hl) (fun h => (kf (fun h2 => h ((iI_eq ha hbb).mpr h2))) H locs la hP hS hl)
theorem v_if_ne (ok : Ok z g cc nL own Ts fr lo) {a : Int} {off : Int} {tgt : Nat} (ha : i32 a) (hdg : decode cc pc = .ok (.ifCond .ne off, 3)) (ht : (pc : Int) + off = (tgt : Int)) (kt : a ≠ 0 → V z g nL M ls st tgt) (kf : ¬ (a ≠ 0) → V z g nL M ls st (pc + 3)) : V z g nL M ls (iv a :: st) pc := by
  obtain ⟨p, l, e, R, s, m, args, below, meth, c, cells, slots, Q⟩ := z
  obtain ⟨⟨hx, hb, hml, hown, hts⟩, hK, hN, hI, hfr, hlo, hce, hsl⟩ := ok
  intro H locs la hP hS hl
  exact lv_if_ne hx hb hdg ht (fun h => (kt (fun h2 => h ((iI_eq ha ⟨by omega, by omega⟩).mpr h2))) H locs la hP hS hl) (fun h => (kf (fun h2 => h2 ((iI_eq ha ⟨by omega, by omega⟩).mp h))) H locs la hP hS hl)
theorem v_icmp_ne (ok : Ok z g cc nL own Ts fr lo) {a b : Int} {off : Int} {tgt : Nat} (ha : i32 a) (hbb : i32 b) (hdg : decode cc pc = .ok (.if_icmp .ne off, 3)) (ht : (pc : Int) + off = (tgt : Int)) (kt : a ≠ b → V z g nL M ls st tgt) (kf : ¬ (a ≠ b) → V z g nL M ls st (pc + 3)) : V z g nL M ls (iv b :: iv a :: st) pc := by
  obtain ⟨p, l, e, R, s, m, args, below, meth, c, cells, slots, Q⟩ := z
  obtain ⟨⟨hx, hb, hml, hown, hts⟩, hK, hN, hI, hfr, hlo, hce, hsl⟩ := ok
  intro H locs la hP hS hl
  exact lv_icmp_ne hx hb hdg ht (fun h => (kt (fun h2 => h ((iI_eq ha hbb).mpr h2))) H locs la hP hS hl) (fun h => (kf (fun h2 => h2 ((iI_eq ha hbb).mp h))) H locs la hP hS hl)
theorem v_if_lt (ok : Ok z g cc nL own Ts fr lo) {a : Int} {off : Int} {tgt : Nat} (ha : i32 a) (hdg : decode cc pc = .ok (.ifCond .lt off, 3)) (ht : (pc : Int) + off = (tgt : Int)) (kt : a < 0 → V z g nL M ls st tgt) (kf : ¬ (a < 0) → V z g nL M ls st (pc + 3)) : V z g nL M ls (iv a :: st) pc := by
  obtain ⟨p, l, e, R, s, m, args, below, meth, c, cells, slots, Q⟩ := z
  obtain ⟨⟨hx, hb, hml, hown, hts⟩, hK, hN, hI, hfr, hlo, hce, hsl⟩ := ok
  intro H locs la hP hS hl
  exact lv_if_lt hx hb hdg ht (fun h => (kt ((iI_lt ha ⟨by omega, by omega⟩).mp h)) H locs la hP hS hl) (fun h => (kf (fun h2 => h ((iI_lt ha ⟨by omega, by omega⟩).mpr h2))) H locs la hP hS hl)
theorem v_icmp_lt (ok : Ok z g cc nL own Ts fr lo) {a b : Int} {off : Int} {tgt : Nat} (ha : i32 a) (hbb : i32 b) (hdg : decode cc pc = .ok (.if_icmp .lt off, 3)) (ht : (pc : Int) + off = (tgt : Int)) (kt : a < b → V z g nL M ls st tgt) (kf : ¬ (a < b) → V z g nL M ls st (pc + 3)) : V z g nL M ls (iv b :: iv a :: st) pc := by
  obtain ⟨p, l, e, R, s, m, args, below, meth, c, cells, slots, Q⟩ := z
  obtain ⟨⟨hx, hb, hml, hown, hts⟩, hK, hN, hI, hfr, hlo, hce, hsl⟩ := ok
  intro H locs la hP hS hl
  exact lv_icmp_lt hx hb hdg ht (fun h => (kt ((iI_lt ha hbb).mp h)) H locs la hP hS hl) (fun h => (kf (fun h2 => h ((iI_lt ha hbb).mpr h2))) H locs la hP hS hl)
theorem v_if_ge (ok : Ok z g cc nL own Ts fr lo) {a : Int} {off : Int} {tgt : Nat} (ha : i32 a) (hdg : decode cc pc = .ok (.ifCond .ge off, 3)) (ht : (pc : Int) + off = (tgt : Int)) (kt : 0 ≤ a → V z g nL M ls st tgt) (kf : ¬ (0 ≤ a) → V z g nL M ls st (pc + 3)) : V z g nL M ls (iv a :: st) pc := by
  obtain ⟨p, l, e, R, s, m, args, below, meth, c, cells, slots, Q⟩ := z
  obtain ⟨⟨hx, hb, hml, hown, hts⟩, hK, hN, hI, hfr, hlo, hce, hsl⟩ := ok
  intro H locs la hP hS hl
  exact lv_if_ge hx hb hdg ht (fun h => (kt ((iI_le ⟨by omega, by omega⟩ ha).mp h)) H locs la hP hS hl) (fun h => (kf (fun h2 => h ((iI_le ⟨by omega, by omega⟩ ha).mpr h2))) H locs la hP hS hl)
theorem v_icmp_ge (ok : Ok z g cc nL own Ts fr lo) {a b : Int} {off : Int} {tgt : Nat} (ha : i32 a) (hbb : i32 b) (hdg : decode cc pc = .ok (.if_icmp .ge off, 3)) (ht : (pc : Int) + off = (tgt : Int)) (kt : b ≤ a → V z g nL M ls st tgt) (kf : ¬ (b ≤ a) → V z g nL M ls st (pc + 3)) : V z g nL M ls (iv b :: iv a :: st) pc := by
  obtain ⟨p, l, e, R, s, m, args, below, meth, c, cells, slots, Q⟩ := z
  obtain ⟨⟨hx, hb, hml, hown, hts⟩, hK, hN, hI, hfr, hlo, hce, hsl⟩ := ok
  intro H locs la hP hS hl
  exact lv_icmp_ge hx hb hdg ht (fun h => (kt ((iI_le hbb ha).mp h)) H locs la hP hS hl) (fun h => (kf (fun h2 => h ((iI_le hbb ha).mpr h2))) H locs la hP hS hl)
theorem v_if_gt (ok : Ok z g cc nL own Ts fr lo) {a : Int} {off : Int} {tgt : Nat} (ha : i32 a) (hdg : decode cc pc = .ok (.ifCond .gt off, 3)) (ht : (pc : Int) + off = (tgt : Int)) (kt : 0 < a → V z g nL M ls st tgt) (kf : ¬ (0 < a) → V z g nL M ls st (pc + 3)) : V z g nL M ls (iv a :: st) pc := by
  obtain ⟨p, l, e, R, s, m, args, below, meth, c, cells, slots, Q⟩ := z
  obtain ⟨⟨hx, hb, hml, hown, hts⟩, hK, hN, hI, hfr, hlo, hce, hsl⟩ := ok
  intro H locs la hP hS hl
  exact lv_if_gt hx hb hdg ht (fun h => (kt ((iI_lt ⟨by omega, by omega⟩ ha).mp h)) H locs la hP hS hl) (fun h => (kf (fun h2 => h ((iI_lt ⟨by omega, by omega⟩ ha).mpr h2))) H locs la hP hS hl)
theorem v_icmp_gt (ok : Ok z g cc nL own Ts fr lo) {a b : Int} {off : Int} {tgt : Nat} (ha : i32 a) (hbb : i32 b) (hdg : decode cc pc = .ok (.if_icmp .gt off, 3)) (ht : (pc : Int) + off = (tgt : Int)) (kt : b < a → V z g nL M ls st tgt) (kf : ¬ (b < a) → V z g nL M ls st (pc + 3)) : V z g nL M ls (iv b :: iv a :: st) pc := by
  obtain ⟨p, l, e, R, s, m, args, below, meth, c, cells, slots, Q⟩ := z
  obtain ⟨⟨hx, hb, hml, hown, hts⟩, hK, hN, hI, hfr, hlo, hce, hsl⟩ := ok
  intro H locs la hP hS hl
  exact lv_icmp_gt hx hb hdg ht (fun h => (kt ((iI_lt hbb ha).mp h)) H locs la hP hS hl) (fun h => (kf (fun h2 => h ((iI_lt hbb ha).mpr h2))) H locs la hP hS hl)
theorem v_if_le (ok : Ok z g cc nL own Ts fr lo) {a : Int} {off : Int} {tgt : Nat} (ha : i32 a) (hdg : decode cc pc = .ok (.ifCond .le off, 3)) (ht : (pc : Int) + off = (tgt : Int)) (kt : a ≤ 0 → V z g nL M ls st tgt) (kf : ¬ (a ≤ 0) → V z g nL M ls st (pc + 3)) : V z g nL M ls (iv a :: st) pc := by
  obtain ⟨p, l, e, R, s, m, args, below, meth, c, cells, slots, Q⟩ := z
  obtain ⟨⟨hx, hb, hml, hown, hts⟩, hK, hN, hI, hfr, hlo, hce, hsl⟩ := ok
  intro H locs la hP hS hl
  exact lv_if_le hx hb hdg ht (fun h => (kt ((iI_le ha ⟨by omega, by omega⟩).mp h)) H locs la hP hS hl) (fun h => (kf (fun h2 => h ((iI_le ha ⟨by omega, by omega⟩).mpr h2))) H locs la hP hS hl)
theorem v_icmp_le (ok : Ok z g cc nL own Ts fr lo) {a b : Int} {off : Int} {tgt : Nat} (ha : i32 a) (hbb : i32 b) (hdg : decode cc pc = .ok (.if_icmp .le off, 3)) (ht : (pc : Int) + off = (tgt : Int)) (kt : a ≤ b → V z g nL M ls st tgt) (kf : ¬ (a ≤ b) → V z g nL M ls st (pc + 3)) : V z g nL M ls (iv b :: iv a :: st) pc := by
  obtain ⟨p, l, e, R, s, m, args, below, meth, c, cells, slots, Q⟩ := z
  obtain ⟨⟨hx, hb, hml, hown, hts⟩, hK, hN, hI, hfr, hlo, hce, hsl⟩ := ok
  intro H locs la hP hS hl
  exact lv_icmp_le hx hb hdg ht (fun h => (kt ((iI_le ha hbb).mp h)) H locs la hP hS hl) (fun h => (kf (fun h2 => h ((iI_le ha hbb).mpr h2))) H locs la hP hS hl)
theorem v_goto (ok : Ok z g cc nL own Ts fr lo) {off : Int} {tgt : Nat} (hdg : decode cc pc = .ok (.goto off, 3)) (ht : (pc : Int) + off = (tgt : Int)) (kk : V z g nL M ls st tgt) : V z g nL M ls st pc := by
  obtain ⟨p, l, e, R, s, m, args, below, meth, c, cells, slots, Q⟩ := z
  obtain ⟨⟨hx, hb, hml, hown, hts⟩, hK, hN, hI, hfr, hlo, hce, hsl⟩ := ok
  intro H locs la hP hS hl
  exact lv_goto hx hb hdg ht (kk H locs la hP hS hl)
theorem lg_cmp_of {a b : Int} (ha : i64 a) (hb : i64 b) : ∃ r : Int, lg_cmp (lI a) (lI b) = iI r ∧ (r < 0 ↔ a < b) ∧ (r = 0 ↔ a = b) ∧ -1 ≤ r ∧ r ≤ 1 := by
  unfold lg_cmp
  by_cases h1 : lI a > lI b
  · have h2 : b < a := (lI_lt hb ha).mp h1
    exact ⟨1, by rw [if_pos h1]; rfl, by omega, by omega, by omega, by omega⟩
  · have h2 : ¬ b < a := fun h => h1 ((lI_lt hb ha).mpr h)
    by_cases h3 : lI a = lI b
    · have h4 := (lI_eq ha hb).mp h3
      exact ⟨0, by rw [if_neg h1, if_pos h3]; rfl, by omega, by omega, by omega, by omega⟩
    · have h4 : ¬ a = b := fun h => h3 ((lI_eq ha hb).mpr h)
      exact ⟨-1, by rw [if_neg h1, if_neg h3]; rfl, by omega, by omega, by omega, by omega⟩
theorem v_lcmp (ok : Ok z g cc nL own Ts fr lo) {a b : Int} (ha : i64 a) (hbb : i64 b) (hdg : decode cc pc = .ok (.lcmp, 1)) (kk : ∀ r : Int, (r < 0 ↔ a < b) → (r = 0 ↔ a = b) → -1 ≤ r → r ≤ 1 → V z g nL M ls (iv r :: st) (pc + 1)) : V z g nL M ls (jv b :: jv a :: st) pc := by
  obtain ⟨p, l, e, R, s, m, args, below, meth, c, cells, slots, Q⟩ := z
  obtain ⟨⟨hx, hb, hml, hown, hts⟩, hK, hN, hI, hfr, hlo, hce, hsl⟩ := ok
  intro H locs la hP hS hl
  obtain ⟨r, h1, h2, h3, h4, h5⟩ := lg_cmp_of ha hbb
  refine W.lcmp hx hb hdg ?_
  rw [h1]
  exact kk r h2 h3 h4 h5 H locs la hP hS hl
theorem v_tblIn (ok : Ok z g cc nL own Ts fr lo) {dflt lo2 hi : Int} {offs : Array Int} {len : Nat} {a off : Int} {tgt : Nat} (hr : i32 a) (h1 : ¬ a < lo2) (h2 : ¬ hi < a) (ho : offs[(a - lo2).toNat]? = some off) (hdg : decode cc pc = .ok (.tableswitch dflt lo2 hi offs, len)) (ht : (pc : Int) + off = (tgt : Int)) (kk : V z g nL M ls st tgt) : V z g nL M ls (iv a :: st) pc := by
  obtain ⟨p, l, e, R, s, m, args, below, meth, c, cells, slots, Q⟩ := z
  obtain ⟨⟨hx, hb, hml, hown, hts⟩, hK, hN, hI, hfr, hlo, hce, hsl⟩ := ok
  intro H locs la hP hS hl
  exact lv_tableIn hx hb hdg (by rw [iI_toInt hr]; exact h1) (by rw [iI_toInt hr]; exact h2) (by rw [iI_toInt hr]; exact ho) ht (kk H locs la hP hS hl)
theorem v_tblOut (ok : Ok z g cc nL own Ts fr lo) {dflt lo2 hi : Int} {offs : Array Int} {len : Nat} {a : Int} {tgt : Nat} (hr : i32 a) (h : a < lo2 ∨ hi < a) (hdg : decode cc pc = .ok (.tableswitch dflt lo2 hi offs, len)) (ht : (pc : Int) + dflt = (tgt : Int)) (kk : V z g nL M ls st tgt) : V z g nL M ls (iv a :: st) pc := by
  obtain ⟨p, l, e, R, s, m, args, below, meth, c, cells, slots, Q⟩ := z
  obtain ⟨⟨hx, hb, hml, hown, hts⟩, hK, hN, hI, hfr, hlo, hce, hsl⟩ := ok
  intro H locs la hP hS hl
  exact lv_tableOut hx hb hdg (by rw [iI_toInt hr]; exact h) ht (kk H locs la hP hS hl)
theorem v_lookup (ok : Ok z g cc nL own Ts fr lo) {dflt : Int} {ps : Array (Int × Int)} {len : Nat} {a off : Int} {tgt : Nat} (hr : i32 a) (hp : (ps.toList.zip (ps.toList.drop 1)).all (fun (a, next) => a.1 < next.1) = true) (ho : Op.lookupswitch.offset ps.toList dflt a = off) (hdg : decode cc pc = .ok (.lookupswitch dflt ps, len)) (ht : (pc : Int) + off = (tgt : Int)) (kk : V z g nL M ls st tgt) : V z g nL M ls (iv a :: st) pc := by
  obtain ⟨p, l, e, R, s, m, args, below, meth, c, cells, slots, Q⟩ := z
  obtain ⟨⟨hx, hb, hml, hown, hts⟩, hK, hN, hI, hfr, hlo, hce, hsl⟩ := ok
  intro H locs la hP hS hl
  exact lv_lookup hx hb hdg hp (by rw [iI_toInt hr]; exact ho) ht (kk H locs la hP hS hl)
theorem v_null (ok : Ok z g cc nL own Ts fr lo) (hdg : decode cc pc = .ok (.aconst_null, 1)) (kk : V z g nL M ls (.null :: st) (pc + 1)) : V z g nL M ls st pc := by
  obtain ⟨p, l, e, R, s, m, args, below, meth, c, cells, slots, Q⟩ := z
  obtain ⟨⟨hx, hb, hml, hown, hts⟩, hK, hN, hI, hfr, hlo, hce, hsl⟩ := ok
  intro H locs la hP hS hl
  exact lv_null hx hb hdg (kk H locs la hP hS hl)
theorem v_ifnull (ok : Ok z g cc nL own Ts fr lo) {x : Nat} {off : Int} (hdg : decode cc pc = .ok (.ifnull off, 3)) (kk : V z g nL M ls st (pc + 3)) : V z g nL M ls (.ref x :: st) pc := by
  obtain ⟨p, l, e, R, s, m, args, below, meth, c, cells, slots, Q⟩ := z
  obtain ⟨⟨hx, hb, hml, hown, hts⟩, hK, hN, hI, hfr, hlo, hce, hsl⟩ := ok
  intro H locs la hP hS hl
  exact lv_ifnull hx hb hdg (kk H locs la hP hS hl)
theorem v_ifnullN (ok : Ok z g cc nL own Ts fr lo) {off : Int} {tgt : Nat} (hdg : decode cc pc = .ok (.ifnull off, 3)) (ht : (pc : Int) + off = (tgt : Int)) (kk : V z g nL M ls st tgt) : V z g nL M ls (.null :: st) pc := by
  obtain ⟨p, l, e, R, s, m, args, below, meth, c, cells, slots, Q⟩ := z
  obtain ⟨⟨hx, hb, hml, hown, hts⟩, hK, hN, hI, hfr, hlo, hce, hsl⟩ := ok
  intro H locs la hP hS hl
  exact lv_ifnullN hx hb hdg ht (kk H locs la hP hS hl)
theorem v_get (ok : Ok z g cc nL own Ts fr lo) {ref C : String} {T : u_T} {N ci ix i : Nat} {fs : List Value} {v : Value} (hin : ∀ w ∈ u_ws C T N, w ∈ Ts) (hi : i < 95) (hc : vwCl[ci]? = some (C, T, N)) {f0 : Int → Int} (hm : M i = f0) (he : cellF g i f0 = .inr (ci, fs)) (k : Nat) (hk : k < N) (hlink : Cond.fieldLink own ix ref (T k).2.1 (T k).2.2.1 ∈ Ts) (hsame : (T k).1 = ref) (hv : fs[k]? = some v) (hdg : decode cc pc = .ok (.getfield ix, 3)) (kk : V z g nL M ls (v :: st) (pc + 3)) : V z g nL M ls (rf g i :: st) pc := by
  obtain ⟨p, l, e, R, s, m, args, below, meth, c, cells, slots, Q⟩ := z
  obtain ⟨⟨hx, hb, hml, hown, hts⟩, hK, hN, hI, hfr, hlo, hce, hsl⟩ := ok
  intro H locs la hP hS hl
  exact va_get hx hb hts hin hown hK hP i (by rw [wld_get _ _ hi, hm, he]) hc k hk (hts _ hlink) (fun x h => by rw [← hsame]; exact h) hv hdg (kk H locs la hP hS hl)
theorem v_put (ok : Ok z g cc nL own Ts fr lo) {ref C : String} {T : u_T} {N ci ix i : Nat} {fs : List Value} {a : Int} {f' : Int → Int} {ty : FieldType} (hin : ∀ w ∈ u_ws C T N, w ∈ Ts) (hi : i < 95) (hc : vwCl[ci]? = some (C, T, N)) {f0 : Int → Int} (hm : M i = f0) (he : cellF g i f0 = .inr (ci, fs)) (ty0 : Nat → FieldType) (hty : ∀ k, k < N → parseFieldDescriptor (T k).2.2.1 = some (ty0 k)) (hnm : ∀ a, a < N → ∀ b, b < N → a ≠ b → (T a).2.1 ≠ (T b).2.1) (k : Nat) (hk : k < N) (hlink : Cond.fieldLink own ix ref (T k).2.1 (T k).2.2.1 ∈ Ts) (hsame : (T k).1 = ref) (hfin : (T k).2.2.2 = false) (hd : parseFieldDescriptor (T k).2.2.1 = some ty) (hn : narrow ty (iv a) = iv a) (hfit : fits ty (iv a) = true) (hlen : k < fs.length) (he2 : cellF g i f' = .inr (ci, fs.set k (iv a))) (hdg : decode cc pc = .ok (.putfield ix, 3)) (kk : V z g nL (up1 M i f') ls st (pc + 3)) : V z g nL M ls (iv a :: rf g i :: st) pc := by
  obtain ⟨p, l, e, R, s, m, args, below, meth, c, cells, slots, Q⟩ := z
  obtain ⟨⟨hx, hb, hml, hown, hts⟩, hK, hN, hI, hfr, hlo, hce, hsl⟩ := ok
  intro H locs la hP hS hl
  refine va_put hx hb hts hin ty0 hty hnm hown hK hP (wld_D hI M) hS i (by rw [wld_get _ _ hi, hm, he]) hc k hk (hts _ hlink) (fun x h => by rw [← hsame]; exact h) hfin hd hn hfit hlen hdg (fun H1 locs1 hP1 _ hS1 => ?_)
  rw [← he2, wld_set _ _ hi] at hP1
  exact kk H1 locs1 la hP1 hS1 hl
theorem v_alen (ok : Ok z g cc nL own Ts fr lo) {i : Nat} {n : Int} (h : kd i = 11 ∨ kd i = 12) (hn : (ln i : Int) = n) (hdg : decode cc pc = .ok (.arraylength, 1)) (kk : V z g nL M ls (iv n :: st) (pc + 1)) : V z g nL M ls (rf g i :: st) pc := by
  obtain ⟨p, l, e, R, s, m, args, below, meth, c, cells, slots, Q⟩ := z
  obtain ⟨⟨hx, hb, hml, hown, hts⟩, hK, hN, hI, hfr, hlo, hce, hsl⟩ := ok
  intro H locs la hP hS hl
  subst hn
  rcases h with h | h
  · exact va_alen hx hb hK hP i 0 (by rw [wld_get _ _ (kd_lt h (by decide)), cellF_11 _ h]) rfl (iI_nat _) hdg (kk H locs la hP hS hl)
  · exact va_alen hx hb hK hP i 1 (by rw [wld_get _ _ (kd_lt h (by decide)), cellF_12 _ h]) rfl (iI_nat _) hdg (kk H locs la hP hS hl)
theorem v_alen13 (ok : Ok z g cc nL own Ts fr lo) {i : Nat} (h : kd i = 13) (hdg : decode cc pc = .ok (.arraylength, 1)) (kk : V z g nL M ls (iv 3 :: st) (pc + 1)) : V z g nL M ls (rf g i :: st) pc := by
  obtain ⟨p, l, e, R, s, m, args, below, meth, c, cells, slots, Q⟩ := z
  obtain ⟨⟨hx, hb, hml, hown, hts⟩, hK, hN, hI, hfr, hlo, hce, hsl⟩ := ok
  intro H locs la hP hS hl
  exact va_alen hx hb hK hP i 2 (by rw [wld_get _ _ (kd_lt h (by decide)), cellF_13 _ h]) rfl (show Int32.ofNat 3 = iI 3 from rfl) hdg (kk H locs la hP hS hl)
theorem kd_el13 {i k : Nat} (h : kd i = 13) (hk : k < 3) : kd (i + 1 + 2 * k) = 0 ∧ kd (i + 1 + 2 * k + 1) = 11 ∧ (ln (i + 1 + 2 * k + 1) : Int) = 5 := by
  have h2 : ∀ i, i < 95 → kd i = 13 → ∀ k, k < 3 → kd (i + 1 + 2 * k) = 0 ∧ kd (i + 1 + 2 * k + 1) = 11 ∧ (ln (i + 1 + 2 * k + 1) : Int) = 5 := by decide +kernel
  exact h2 i (kd_lt h (by decide)) h k hk
theorem v_aald13 (ok : Ok z g cc nL own Ts fr lo) {i : Nat} {a : Int} (h : kd i = 13) (h0 : 0 ≤ a ∧ a < 3) (hdg : decode cc pc = .ok (.aaload, 1)) (kk : ∀ q : Nat, q = i + 1 + 2 * a.toNat → kd q = 0 → kd (q + 1) = 11 → (ln (q + 1) : Int) = 5 → V z g nL M ls (rf g q :: st) (pc + 1)) : V z g nL M ls (iv a :: rf g i :: st) pc := by
  obtain ⟨p, l, e, R, s, m, args, below, meth, c, cells, slots, Q⟩ := z
  obtain ⟨⟨hx, hb, hml, hown, hts⟩, hK, hN, hI, hfr, hlo, hce, hsl⟩ := ok
  intro H locs la hP hS hl
  refine va_aldq hx hb hK hP i 2 (by rw [wld_get _ _ (kd_lt h (by decide)), cellF_13 _ h]) rfl (iI_in h0.1 (by omega) (by omega)) hdg ?_
  rw [iI_cl ⟨by omega, by omega⟩]
  obtain ⟨e1, e2, e3⟩ := kd_el13 h (k := a.toNat) (by omega)
  exact kk _ rfl e1 e2 e3 H locs la hP hS hl
theorem v_aald13L (ok : Ok z g cc nL own Ts fr lo) {i q : Nat} {a : Int} (h : kd i = 13) (h0 : 0 ≤ a ∧ a < 3) (hq : i + 1 + 2 * a.toNat = q) (hdg : decode cc pc = .ok (.aaload, 1)) (kk : V z g nL M ls (rf g q :: st) (pc + 1)) : V z g nL M ls (iv a :: rf g i :: st) pc := by
  obtain ⟨p, l, e, R, s, m, args, below, meth, c, cells, slots, Q⟩ := z
  obtain ⟨⟨hx, hb, hml, hown, hts⟩, hK, hN, hI, hfr, hlo, hce, hsl⟩ := ok
  intro H locs la hP hS hl
  refine va_aldq hx hb hK hP i 2 (by rw [wld_get _ _ (kd_lt h (by decide)), cellF_13 _ h]) rfl (iI_in h0.1 (by omega) (by omega)) hdg ?_
  rw [iI_cl ⟨by omega, by omega⟩]
  subst hq
  exact kk H locs la hP hS hl
theorem v_alen14 (ok : Ok z g cc nL own Ts fr lo) {i : Nat} (h : kd i = 14) (hdg : decode cc pc = .ok (.arraylength, 1)) (kk : V z g nL M ls (iv 6 :: st) (pc + 1)) : V z g nL M ls (rf g i :: st) pc := by
  obtain ⟨p, l, e, R, s, m, args, below, meth, c, cells, slots, Q⟩ := z
  obtain ⟨⟨hx, hb, hml, hown, hts⟩, hK, hN, hI, hfr, hlo, hce, hsl⟩ := ok
  intro H locs la hP hS hl
  exact va_alen hx hb hK hP i 3 (by rw [wld_get _ _ (kd_lt h (by decide)), cellF_14 _ h]) rfl (show Int32.ofNat 6 = iI 6 from rfl) hdg (kk H locs la hP hS hl)
theorem kd_el14 {i k : Nat} (h : kd i = 14) (hk : k < 6) : kd (i + 1 + 2 * k) = 8 ∧ kd (i + 1 + 2 * k + 1) = 12 ∧ (ln (i + 1 + 2 * k + 1) : Int) = 60 := by
  have h2 : ∀ i, i < 95 → kd i = 14 → ∀ k, k < 6 → kd (i + 1 + 2 * k) = 8 ∧ kd (i + 1 + 2 * k + 1) = 12 ∧ (ln (i + 1 + 2 * k + 1) : Int) = 60 := by decide +kernel
  exact h2 i (kd_lt h (by decide)) h k hk
theorem v_aald14 (ok : Ok z g cc nL own Ts fr lo) {i : Nat} {a : Int} (h : kd i = 14) (h0 : 0 ≤ a ∧ a < 6) (hdg : decode cc pc = .ok (.aaload, 1)) (kk : ∀ q : Nat, q = i + 1 + 2 * a.toNat → kd q = 8 → kd (q + 1) = 12 → (ln (q + 1) : Int) = 60 → V z g nL M ls (rf g q :: st) (pc + 1)) : V z g nL M ls (iv a :: rf g i :: st) pc := by
  obtain ⟨p, l, e, R, s, m, args, below, meth, c, cells, slots, Q⟩ := z
  obtain ⟨⟨hx, hb, hml, hown, hts⟩, hK, hN, hI, hfr, hlo, hce, hsl⟩ := ok
  intro H locs la hP hS hl
  refine va_aldq hx hb hK hP i 3 (by rw [wld_get _ _ (kd_lt h (by decide)), cellF_14 _ h]) rfl (iI_in h0.1 (by omega) (by omega)) hdg ?_
  rw [iI_cl ⟨by omega, by omega⟩]
  obtain ⟨e1, e2, e3⟩ := kd_el14 h (k := a.toNat) (by omega)
  exact kk _ rfl e1 e2 e3 H locs la hP hS hl
theorem v_aald14L (ok : Ok z g cc nL own Ts fr lo) {i q : Nat} {a : Int} (h : kd i = 14) (h0 : 0 ≤ a ∧ a < 6) (hq : i + 1 + 2 * a.toNat = q) (hdg : decode cc pc = .ok (.aaload, 1)) (kk : V z g nL M ls (rf g q :: st) (pc + 1)) : V z g nL M ls (iv a :: rf g i :: st) pc := by
  obtain ⟨p, l, e, R, s, m, args, below, meth, c, cells, slots, Q⟩ := z
  obtain ⟨⟨hx, hb, hml, hown, hts⟩, hK, hN, hI, hfr, hlo, hce, hsl⟩ := ok
  intro H locs la hP hS hl
  refine va_aldq hx hb hK hP i 3 (by rw [wld_get _ _ (kd_lt h (by decide)), cellF_14 _ h]) rfl (iI_in h0.1 (by omega) (by omega)) hdg ?_
  rw [iI_cl ⟨by omega, by omega⟩]
  subst hq
  exact kk H locs la hP hS hl
theorem v_iald (ok : Ok z g cc nL own Ts fr lo) {i : Nat} {a n : Int} {f0 : Int → Int} (h : kd i = 11) (hn : (ln i : Int) = n) (h0 : 0 ≤ a ∧ a < n) (hm : M i = f0) (hdg : decode cc pc = .ok (.iaload, 1)) (kk : V z g nL M ls (iv (f0 a) :: st) (pc + 1)) : V z g nL M ls (iv a :: rf g i :: st) pc := by
  obtain ⟨p, l, e, R, s, m, args, below, meth, c, cells, slots, Q⟩ := z
  obtain ⟨⟨hx, hb, hml, hown, hts⟩, hK, hN, hI, hfr, hlo, hce, hsl⟩ := ok
  intro H locs la hP hS hl
  subst hm
  subst hn
  have hln := ln_le i
  refine va_iald hx hb hK hP i 0 (by rw [wld_get _ _ (kd_lt h (by decide)), cellF_11 _ h]) rfl (iI_in h0.1 h0.2 (by omega)) hdg ?_
  rw [iI_cl ⟨by omega, by omega⟩, Int.toNat_of_nonneg h0.1]
  exact kk H locs la hP hS hl
theorem v_lald (ok : Ok z g cc nL own Ts fr lo) {i : Nat} {a n : Int} {f0 : Int → Int} (h : kd i = 12) (hn : (ln i : Int) = n) (h0 : 0 ≤ a ∧ a < n) (hm : M i = f0) (hdg : decode cc pc = .ok (.laload, 1)) (kk : V z g nL M ls (jv (f0 a) :: st) (pc + 1)) : V z g nL M ls (iv a :: rf g i :: st) pc := by
  obtain ⟨p, l, e, R, s, m, args, below, meth, c, cells, slots, Q⟩ := z
  obtain ⟨⟨hx, hb, hml, hown, hts⟩, hK, hN, hI, hfr, hlo, hce, hsl⟩ := ok
  intro H locs la hP hS hl
  subst hm
  subst hn
  have hln := ln_le i
  refine va_lald hx hb hK hP i 1 (by rw [wld_get _ _ (kd_lt h (by decide)), cellF_12 _ h]) rfl (iI_in h0.1 h0.2 (by omega)) hdg ?_
  rw [iI_cl ⟨by omega, by omega⟩, Int.toNat_of_nonneg h0.1]
  exact kk H locs la hP hS hl
theorem v_iast (ok : Ok z g cc nL own Ts fr lo) {i : Nat} {a x n : Int} {f0 : Int → Int} (h : kd i = 11) (hn : (ln i : Int) = n) (h0 : 0 ≤ a ∧ a < n) (hm : M i = f0) (hdg : decode cc pc = .ok (.iastore, 1)) (kk : V z g nL (up1 M i (up f0 a x)) ls st (pc + 1)) : V z g nL M ls (iv x :: iv a :: rf g i :: st) pc := by
  obtain ⟨p, l, e, R, s, m, args, below, meth, c, cells, slots, Q⟩ := z
  obtain ⟨⟨hx, hb, hml, hown, hts⟩, hK, hN, hI, hfr, hlo, hce, hsl⟩ := ok
  intro H locs la hP hS hl
  subst hm
  subst hn
  have hln := ln_le i
  have hi := kd_lt h (by decide)
  refine va_iast hx hb hK hP (wld_D hI M) hS i 0 (by rw [wld_get _ _ hi, cellF_11 _ h]) rfl (iI_in h0.1 h0.2 (by omega)) hdg (fun H1 locs1 hP1 _ hS1 => ?_)
  rw [iI_cl ⟨by omega, by omega⟩, upd_iI h0.1, ← cellF_11 _ h, wld_set _ _ hi] at hP1
  exact kk H1 locs1 la hP1 hS1 hl
theorem v_last (ok : Ok z g cc nL own Ts fr lo) {i : Nat} {a x n : Int} {f0 : Int → Int} (h : kd i = 12) (hn : (ln i : Int) = n) (h0 : 0 ≤ a ∧ a < n) (hm : M i = f0) (hdg : decode cc pc = .ok (.lastore, 1)) (kk : V z g nL (up1 M i (up f0 a x)) ls st (pc + 1)) : V z g nL M ls (jv x :: iv a :: rf g i :: st) pc := by
  obtain ⟨p, l, e, R, s, m, args, below, meth, c, cells, slots, Q⟩ := z
  obtain ⟨⟨hx, hb, hml, hown, hts⟩, hK, hN, hI, hfr, hlo, hce, hsl⟩ := ok
  intro H locs la hP hS hl
  subst hm
  subst hn
  have hln := ln_le i
  have hi := kd_lt h (by decide)
  refine va_last hx hb hK hP (wld_D hI M) hS i 1 (by rw [wld_get _ _ hi, cellF_12 _ h]) rfl (iI_in h0.1 h0.2 (by omega)) hdg (fun H1 locs1 hP1 _ hS1 => ?_)
  rw [iI_cl ⟨by omega, by omega⟩, updL_lI h0.1, ← cellF_12 _ h, wld_set _ _ hi] at hP1
  exact kk H1 locs1 la hP1 hS1 hl
theorem v_iret {a : Int} (ok : Ok z g cc nL own Ts fr lo) {post : Option Value → Mem → Prop} (fin : Rt z g (some .int) post)  (hdg : decode cc pc = .ok (.ireturn, 1)) (hq : post (some (iv a)) M) : V z g nL M ls ([iv a]) pc := by
  obtain ⟨p, l, e, R, s, m, args, below, meth, c, cells, slots, Q⟩ := z
  obtain ⟨⟨hx, hb, hml, hown, hts⟩, hK, hN, hI, hfr, hlo, hce, hsl⟩ := ok
  intro H locs la hP hS hl
  obtain ⟨rfl, hr, hlk⟩ := fin
  exact W.iret hx hb hr (fun t ht hW => ⟨⟨_, M, rfl, hq, by rw [ht]; exact hP⟩, hS.F ht⟩) hS.2.2 hdg hlk
theorem v_zret {a : Int} (ok : Ok z g cc nL own Ts fr lo) {post : Option Value → Mem → Prop} (fin : Rt z g (some .boolean) post) (h01 : a = 0 ∨ a = 1) (hdg : decode cc pc = .ok (.ireturn, 1)) (hq : post (some (iv a)) M) : V z g nL M ls ([iv a]) pc := by
  obtain ⟨p, l, e, R, s, m, args, below, meth, c, cells, slots, Q⟩ := z
  obtain ⟨⟨hx, hb, hml, hown, hts⟩, hK, hN, hI, hfr, hlo, hce, hsl⟩ := ok
  intro H locs la hP hS hl
  obtain ⟨rfl, hr, hlk⟩ := fin
  exact W.zret hx hb hr (by rcases h01 with rfl | rfl <;> rfl) (fun t ht hW => ⟨⟨_, M, rfl, hq, by rw [ht]; exact hP⟩, hS.F ht⟩) hS.2.2 hdg hlk
theorem v_lret {a : Int} (ok : Ok z g cc nL own Ts fr lo) {post : Option Value → Mem → Prop} (fin : Rt z g (some .long) post)  (hdg : decode cc pc = .ok (.lreturn, 1)) (hq : post (some (jv a)) M) : V z g nL M ls ([jv a]) pc := by
  obtain ⟨p, l, e, R, s, m, args, below, meth, c, cells, slots, Q⟩ := z
  obtain ⟨⟨hx, hb, hml, hown, hts⟩, hK, hN, hI, hfr, hlo, hce, hsl⟩ := ok
  intro H locs la hP hS hl
  obtain ⟨rfl, hr, hlk⟩ := fin
  exact W.lret hx hb hr (fun t ht hW => ⟨⟨_, M, rfl, hq, by rw [ht]; exact hP⟩, hS.F ht⟩) hS.2.2 hdg hlk
theorem v_vret (ok : Ok z g cc nL own Ts fr lo) {post : Option Value → Mem → Prop} (fin : Rt z g none post)  (hdg : decode cc pc = .ok (.return_, 1)) (hq : post none M) : V z g nL M ls [] pc := by
  obtain ⟨p, l, e, R, s, m, args, below, meth, c, cells, slots, Q⟩ := z
  obtain ⟨⟨hx, hb, hml, hown, hts⟩, hK, hN, hI, hfr, hlo, hce, hsl⟩ := ok
  intro H locs la hP hS hl
  obtain ⟨rfl, hr, hlk⟩ := fin
  exact W.vret hx hb hr (fun t ht hW => ⟨⟨_, M, rfl, hq, by rw [ht]; exact hP⟩, hS.F ht⟩) hS.2.2 hdg hlk
theorem v_aret (ok : Ok z g cc nL own Ts fr lo) {post : Option Value → Mem → Prop} {ty : FieldType} (fin : Rt z g (some (.array ty)) post) {v : Value} (hv : v = .null ∨ ∃ a, v = .ref a) (hdg : decode cc pc = .ok (.areturn, 1)) (hq : post (some v) M) : V z g nL M ls [v] pc := by
  obtain ⟨p, l, e, R, s, m, args, below, meth, c, cells, slots, Q⟩ := z
  obtain ⟨⟨hx, hb, hml, hown, hts⟩, hK, hN, hI, hfr, hlo, hce, hsl⟩ := ok
  intro H locs la hP hS hl
  obtain ⟨rfl, hr, hlk⟩ := fin
  exact W.aret hx hb hr (Or.inr ⟨ty, rfl⟩) hv (fun t ht hW => ⟨⟨_, M, rfl, hq, by rw [ht]; exact hP⟩, hS.F ht⟩) hS.2.2 hdg hlk
end VR
theorem Pct_blind {g : Gl} {av : List Value} {M : Mem} : FrameBlind (Pct g av M) := fun a U gg mk q => ⟨q.1, q.2.1, va_K.moved (u := U) (U := U.calling gg mk a) (Vm.Alike.refl U.vm) q.2.2.1, Nest.same (U := U.calling gg mk a) rfl q.2.2.2.1, q.2.2.2.2⟩
section VC
variable {p : Program} {l : Launch} {e : Env} {R : Room} {s : State} {m : MethodId} {args : Array Value} {below : List Frame} {meth : Method} {c : Code} {cells slots : Nat} {Q : State → Prop}
variable {g : Gl} {cc bytes : ByteArray} {nL maxL fr lo fr' lo' ix na : Nat} {own : String} {Ts ws ws' : List Cond} {M : Mem} {ls : List (Nat × Value)} {st rest As av : List Value} {pc : Nat} {y : MethodName} {ret : Option FieldType} {post : Option Value → Mem → Prop}
theorem v_run {H : Heap} {locs : List Loc} {la : Array Slot} {a : Array Value} (hr : va_Run p l e R s m args below meth c H locs cells slots 0 0 (F0 m pc la st) rest (Qct g post a) (Aw g)) (hS : va_S (Aw g) s.heap H locs) (hl : lv_has la nL ls)
    (kk : ∀ (v : Option Value) (M' : Mem), post v M' → V (p, l, e, R, s, m, args, below, meth, c, cells, slots, Q) g nL M' ls (v.toList ++ rest) (pc + 3)) : W p l e R s m args below meth c H locs cells slots Q (F0 m pc la st) := by
  intro T hT X
  obtain ⟨v, st₀, t, T', L, h0, X', hL, e1, e2, ⟨⟨v', M', hv, hp, hP'⟩, hz, hk⟩, st⟩ := hr T hT X
  cases hv
  rw [h0] at hz hk
  obtain ⟨t2, a1, b1⟩ := kk v M' hp T'.heap (locs ++ L) la (by rw [e1]; exact hP')
    ⟨Nat.le_trans hS.1 (by rw [e1]; exact hz), fun q h1 h2 => by rw [e1, hk q (Nat.lt_of_lt_of_le h1 hS.1) h2]; exact hS.2.1 q h1 h2, fun q hq => by
      rcases List.mem_append.mp hq with h | h
      · exact hS.2.2 q h
      · exact hL q h⟩ hl T' rfl X'
  exact ⟨t2, st t2 a1, b1⟩
theorem v_callS {z : Fz} (ok : Ok z g cc nL own Ts fr lo) (hM : Ct z.2.1 g y ws fr' lo' av M post) (hG : GoodIn Ts (va_wsS own ix y ws)) (hw : ws = Cond.code y bytes maxL ret :: ws')
    (hd : y.cls ≠ "java/lang/invoke/MethodHandle" ∧ y.cls ≠ "java/lang/invoke/VarHandle" ∧ (parseMethodDescriptor y.desc).map (fun d => d.parameters.length) = some na) (hna : av.length = na) (hR : fr' + 1 ≤ fr ∧ 8 + (maxL + 11) + lo' ≤ lo)
    (rest : List Value) (hst : st = av.reverse ++ rest) (hcat : (rest.map fun v => v.category).sum ≤ 8) (hdg : decode cc pc = .ok (.invokestatic ix, 3)) (kk : ∀ (v : Option Value) (M' : Mem), post v M' → V z g nL M' ls (v.toList ++ rest) (pc + 3)) : V z g nL M ls st pc := by
  subst hna
  obtain ⟨p, l, e, R, s, m, args, below, meth, c, cells, slots, Q⟩ := z
  obtain ⟨⟨hx, hb, hml, hown, hts⟩, hK, hN, hI, hfr, hlo, hce, hsl⟩ := ok
  intro H locs la hP hS hl
  have okw : ∀ w ∈ va_wsS own ix y ws, w.before args s = true := fun w h => hts w (hG w h).1
  have hcb := callB_of (R := R) (own := own) (index := ix) (y := y) (args := args) (s := s) av.length hts (fun w h => hG w (by unfold va_wsS; exact List.mem_append_right _ h)) hw (rm := { frames := fr', cells := 0, slots := 0, locals := lo' }) (mc := 0) (ms := 0) rfl rfl (okw _ (by simp [va_wsS])) (okw _ (by simp [va_wsS])) hd ⟨by show fr' + 1 ≤ R.frames; omega, by show 8 + (maxL + 11) + lo' ≤ R.locals; omega⟩
  exact v_run (va_runS (As := av) (rest := rest) ⟨hx, hb, hml, hown, hts⟩ hM ⟨hcb, okw _ (by simp [va_wsS])⟩ ⟨Pct_blind, fun U hU hW => ⟨rfl, by rw [hU]; exact hP, va_K.moved hW.alike hK, Nest.warm hW hN, hI⟩⟩ rfl rfl hl.1 hst (lv_room hcat) hdg ⟨hce, hsl⟩) hS hl kk
theorem v_callN {z : Fz} (ok : Ok z g cc nL own Ts fr lo) (hM : Ct z.2.1 g y ws fr' lo' av M post) (hG : GoodIn Ts ws) (hq : (own, ix, y) ∈ nestW) (hs : Cond.static y ∈ Ts) (hi : Cond.initialized y.cls ∈ Ts) (hw : ws = Cond.code y bytes maxL ret :: ws')
    (hd : y.cls ≠ "java/lang/invoke/MethodHandle" ∧ y.cls ≠ "java/lang/invoke/VarHandle" ∧ (parseMethodDescriptor y.desc).map (fun d => d.parameters.length) = some na) (hna : av.length = na) (hR : fr' + 1 ≤ fr ∧ 8 + (maxL + 11) + lo' ≤ lo)
    (rest : List Value) (hst : st = av.reverse ++ rest) (hcat : (rest.map fun v => v.category).sum ≤ 8) (hdg : decode cc pc = .ok (.invokestatic ix, 3)) (kk : ∀ (v : Option Value) (M' : Mem), post v M' → V z g nL M' ls (v.toList ++ rest) (pc + 3)) : V z g nL M ls st pc := by
  subst hna
  obtain ⟨p, l, e, R, s, m, args, below, meth, c, cells, slots, Q⟩ := z
  obtain ⟨⟨hx, hb, hml, hown, hts⟩, hK, hN, hI, hfr, hlo, hce, hsl⟩ := ok
  intro H locs la hP hS hl
  have hcb := va_cnB (R := R) av.length hts hG hw (rm := { frames := fr', cells := 0, slots := 0, locals := lo' }) (mc := 0) (ms := 0) rfl rfl (hN _ hq) (hts _ hi) hd ⟨by show fr' + 1 ≤ R.frames; omega, by show 8 + (maxL + 11) + lo' ≤ R.locals; omega⟩
  exact v_run (va_runSN (As := av) (rest := rest) ⟨hx, hb, hml, hown, hts⟩ hM ⟨hcb, hts _ hs, trivial⟩ ⟨Pct_blind, fun U hU hW => ⟨rfl, by rw [hU]; exact hP, va_K.moved hW.alike hK, Nest.warm hW hN, hI⟩⟩ rfl rfl hl.1 hst (lv_room hcat) hdg ⟨hce, hsl⟩) hS hl kk
theorem v_callV {z : Fz} (ok : Ok z g cc nL own Ts fr lo) {i ci N : Nat} {C : String} {T : u_T} {fs : List Value} (hM : Ct z.2.1 g y ws fr' lo' (rf g i :: As) M post) (hG : GoodIn Ts (wsV own ix C y ws)) (hi : i < 95) (hc : vwCl[ci]? = some (C, T, N)) {f0 : Int → Int} (hm : M i = f0) (he : cellF g i f0 = .inr (ci, fs)) (hw : ws = Cond.code y bytes maxL ret :: ws')
    (hd : y.cls = C ∧ y.cls ≠ "java/lang/invoke/MethodHandle" ∧ y.cls ≠ "java/lang/invoke/VarHandle" ∧ (parseMethodDescriptor y.desc).map (fun d => d.parameters.length) = some na) (hna : As.length = na) (hR : fr' + 1 ≤ fr ∧ 8 + (maxL + 11) + lo' ≤ lo)
    (rest : List Value) (hst : st = As.reverse ++ rf g i :: rest) (hcat : (rest.map fun v => v.category).sum ≤ 8) (hdg : decode cc pc = .ok (.invokevirtual ix, 3)) (kk : ∀ (v : Option Value) (M' : Mem), post v M' → V z g nL M' ls (v.toList ++ rest) (pc + 3)) : V z g nL M ls st pc := by
  subst hna
  obtain ⟨p, l, e, R, s, m, args, below, meth, c, cells, slots, Q⟩ := z
  obtain ⟨⟨hx, hb, hml, hown, hts⟩, hK, hN, hI, hfr, hlo, hce, hsl⟩ := ok
  intro H locs la hP hS hl
  have hcb := cwV (R := R) As.length hts hG hw (rm := { frames := fr', cells := 0, slots := 0, locals := lo' }) (mc := 0) (ms := 0) rfl rfl hd ⟨by show fr' + 1 ≤ R.frames; omega, by show 8 + (maxL + 11) + lo' ≤ R.locals; omega⟩
  exact v_run (va_runV (As := As) (rest := rest) ⟨hx, hb, hml, hown, hts⟩ hM hcb ⟨Pct_blind, va_recv hK hP hc (by rw [wld_get _ _ hi, hm, he]), fun U hU hW => ⟨rfl, by rw [hU]; exact hP, va_K.moved hW.alike hK, Nest.warm hW hN, hI⟩⟩ rfl rfl hl.1 hst (lv_room hcat) hdg ⟨hce, hsl⟩) hS hl kk
theorem iI_max {a b : Int} (ha : i32 a) (hb : i32 b) : (if iI a < iI b then iI b else iI a) = iI (max a b) := by
  by_cases h : a < b
  · rw [if_pos ((iI_lt ha hb).mpr h), Int.max_eq_right (by omega)]
  · rw [if_neg (fun q => h ((iI_lt ha hb).mp q)), Int.max_eq_left (by omega)]
theorem v_mmax {z : Fz} (ok : Ok z g cc nL own Ts fr lo) {a b : Int} (ha : i32 a) (hbb : i32 b) (hlink : Cond.methodLink own ix Lib.Math.max.name ∈ Ts) (hstat : Cond.static Lib.Math.max.name ∈ Ts) (hini : Cond.initialized "java/lang/Math" ∈ Ts) (hcode : Cond.code Lib.Math.max.name Lib.Math.max.code 2 (some .int) ∈ Ts)
    (hR : 1 ≤ fr ∧ (rest.map fun v => v.category).sum + 13 ≤ lo) (hdg : decode cc pc = .ok (.invokestatic ix, 3)) (kk : V z g nL M ls (iv (max a b) :: rest) (pc + 3)) : V z g nL M ls (iv b :: iv a :: rest) pc := by
  obtain ⟨p, l, e, R, s, m, args, below, meth, c, cells, slots, Q⟩ := z
  obtain ⟨⟨hx, hb, hml, hown, hts⟩, hK, hN, hI, hfr, hlo, hce, hsl⟩ := ok
  intro H locs la hP hS hl
  refine va_mmax hx hb (by rw [hml, hl.1]) hown (hts _ hlink) (hts _ hstat) (hts _ hini) (hts _ hcode) (by omega) (by omega) hce hsl hdg ?_
  rw [iI_max ha hbb]
  exact kk H locs la hP hS hl
theorem iI_min {a b : Int} (ha : i32 a) (hb : i32 b) : (if iI b < iI a then iI b else iI a) = iI (min a b) := by
  by_cases h : b < a
  · rw [if_pos ((iI_lt hb ha).mpr h), Int.min_eq_right (by omega)]
  · rw [if_neg (fun q => h ((iI_lt hb ha).mp q)), Int.min_eq_left (by omega)]
theorem v_mmin {z : Fz} (ok : Ok z g cc nL own Ts fr lo) {a b : Int} (ha : i32 a) (hbb : i32 b) (hlink : Cond.methodLink own ix Lib.Math.min.name ∈ Ts) (hstat : Cond.static Lib.Math.min.name ∈ Ts) (hini : Cond.initialized "java/lang/Math" ∈ Ts) (hcode : Cond.code Lib.Math.min.name Lib.Math.min.code 2 (some .int) ∈ Ts)
    (hR : 1 ≤ fr ∧ (rest.map fun v => v.category).sum + 13 ≤ lo) (hdg : decode cc pc = .ok (.invokestatic ix, 3)) (kk : V z g nL M ls (iv (min a b) :: rest) (pc + 3)) : V z g nL M ls (iv b :: iv a :: rest) pc := by
  obtain ⟨p, l, e, R, s, m, args, below, meth, c, cells, slots, Q⟩ := z
  obtain ⟨⟨hx, hb, hml, hown, hts⟩, hK, hN, hI, hfr, hlo, hce, hsl⟩ := ok
  intro H locs la hP hS hl
  refine va_mmin hx hb (by rw [hml, hl.1]) hown (hts _ hlink) (hts _ hstat) (hts _ hini) (hts _ hcode) (by omega) (by omega) hce hsl hdg ?_
  rw [iI_min ha hbb]
  exact kk H locs la hP hS hl
/-- what System.arraycopy leaves -/
def cpy (f h : Int → Int) (sp dp n : Int) : Int → Int := fun k => if dp ≤ k ∧ k < dp + n then f (sp + (k - dp)) else h k
theorem va_cpy_lI {f h : Int → Int} {sp dp n : Int} (h1 : 0 ≤ sp) (h2 : 0 ≤ dp) (h3 : 0 ≤ n) : va_cpy (fun k : Nat => lI (f k)) (fun k : Nat => lI (h k)) sp.toNat dp.toNat n.toNat = fun k : Nat => lI (cpy f h sp dp n k) := by
  funext k
  unfold va_cpy cpy
  by_cases hk : dp ≤ k ∧ (k : Int) < dp + n
  · rw [if_pos hk, if_pos (by omega)]
    have e : ((sp.toNat + (k - dp.toNat) : Nat) : Int) = sp + ((k : Int) - dp) := by omega
    show lI (f ((sp.toNat + (k - dp.toNat) : Nat) : Int)) = _
    rw [e]
  · rw [if_neg hk, if_neg (by omega)]
theorem v_copyl {z : Fz} (ok : Ok z g cc nL own Ts fr lo) {i j : Nat} {sp dp n : Int} (hi : kd i = 12) (hj : kd j = 12) (h1 : 0 ≤ sp) (h2 : 0 ≤ dp) (h3 : 0 ≤ n) (h4 : sp + n ≤ ln i) (h5 : dp + n ≤ ln j) (hlink : Cond.methodLink own ix arraycopyName ∈ Ts) (hnat : Cond.native arraycopyName ∈ Ts) (hstat : Cond.static arraycopyName ∈ Ts) (hini : Cond.initialized "java/lang/System" ∈ Ts)
    (hR : 1 ≤ fr ∧ (rest.map fun v => v.category).sum + (nativeFrameWords "java/lang/System" "arraycopy" 5 + 11) ≤ lo) (hdg : decode cc pc = .ok (.invokestatic ix, 3)) (kk : V z g nL (up1 M j (cpy (M i) (M j) sp dp n)) ls rest (pc + 3)) : V z g nL M ls (iv n :: iv dp :: rf g j :: iv sp :: rf g i :: rest) pc := by
  obtain ⟨p, l, e, R, s, m, args, below, meth, c, cells, slots, Q⟩ := z
  obtain ⟨⟨hx, hb, hml, hown, hts⟩, hK, hN, hI, hfr, hlo, hce, hsl⟩ := ok
  intro H locs la hP hS hl
  have e1 := ln_le i
  have e2 := ln_le j
  have c1 : i32 sp := ⟨by omega, by omega⟩
  have c2 : i32 dp := ⟨by omega, by omega⟩
  have c3 : i32 n := ⟨by omega, by omega⟩
  have hz : i32 0 := ⟨by omega, by omega⟩
  refine va_copyl hx hb (by rw [hml, hl.1]) hown (hts _ hlink) (hts _ hnat) (hts _ hstat) (hts _ hini) hK hP (wld_D hI M) hS i j 1 1 (by rw [wld_get _ _ (kd_lt hi (by decide)), cellF_12 _ hi]) (by rw [wld_get _ _ (kd_lt hj (by decide)), cellF_12 _ hj]) rfl rfl rfl
    (by rw [iI_zero, iI_lt c1 hz]; omega) (by rw [iI_zero, iI_lt c2 hz]; omega) (by rw [iI_zero, iI_lt c3 hz]; omega) (by rw [iI_cl c1, iI_cl c3]; omega) (by rw [iI_cl c2, iI_cl c3]; omega) (fun _ _ => rfl) (by omega) (by omega) hdg (fun H1 locs1 hP1 _ hS1 => ?_)
  rw [iI_cl c1, iI_cl c2, iI_cl c3, va_cpy_lI h1 h2 h3, ← cellF_12 _ hj, wld_set _ _ (kd_lt hj (by decide))] at hP1
  exact kk H1 locs1 la hP1 hS1 hl
theorem arrV_cong {cI : ClassId} {N : Nat} {f f' : Nat → Value} (h : ∀ j, j < N → f j = f' j) : arrV cI N f = arrV cI N f' := by
  have e : (fun j : _root_.Fin N => f j.val) = fun j => f' j.val := funext fun j => h j.val j.isLt
  unfold arrV
  rw [e]
theorem wld_cong {M : Mem} {i : Nat} {f f' : Int → Int} {H : Heap} (h : kd i = 11 ∨ kd i = 12) (he : ∀ k : Int, 0 ≤ k → k < ln i → f k = f' k) (hP : va_P g.1 vwCl (wld g (up1 M i f)) H) : va_P g.1 vwCl (wld g (up1 M i f')) H := by
  intro k q hq
  rcases Nat.lt_or_ge k 95 with h1 | h1
  · have h2 := hP k _ (wld_get _ _ h1)
    rw [wld_get _ _ h1] at hq
    cases hq
    by_cases hk : k = i
    · subst hk
      rw [up1_same] at h2 ⊢
      rcases h with h | h
      · rw [cellF_11 _ h] at h2 ⊢
        have e : vp_cell (g.2.1 0) (ln k, .inl (fun j : Nat => iI (f j))) = vp_cell (g.2.1 0) (ln k, .inl (fun j : Nat => iI (f' j))) := by
          rw [vp_cell_i, vp_cell_i]
          exact arrV_cong (fun j hj => by show Value.int (iI (f j)) = Value.int (iI (f' j)); rw [he j (by omega) (by omega)])
        show H[g.2.2 k]? = some (vp_cell _ _)
        rw [← e]; exact h2
      · rw [cellF_12 _ h] at h2 ⊢
        have e : vp_cell (g.2.1 1) (ln k, .inr (.inl (fun j : Nat => lI (f j)))) = vp_cell (g.2.1 1) (ln k, .inr (.inl (fun j : Nat => lI (f' j)))) := by
          rw [vp_cell_l, vp_cell_l]
          exact arrV_cong (fun j hj => by show Value.long (lI (f j)) = Value.long (lI (f' j)); rw [he j (by omega) (by omega)])
        show H[g.2.2 k]? = some (vp_cell _ _)
        rw [← e]; exact h2
    · rw [up1_ne hk] at h2 ⊢; exact h2
  · rw [List.getElem?_eq_none (by rw [wld_len]; exact h1)] at hq; cases hq
/-- what stands behind an array's end doesn't matter -/
theorem v_cong {z : Fz} {i : Nat} {n : Int} (f' : Int → Int) {f : Int → Int} (h : kd i = 11 ∨ kd i = 12) (hn : (ln i : Int) = n) (he : ∀ k : Int, 0 ≤ k → k < n → f k = f' k) (kk : V z g nL (up1 M i f') ls st pc) : V z g nL (up1 M i f) ls st pc := by
  subst hn
  obtain ⟨p, l, e, R, s, m, args, below, meth, c, cells, slots, Q⟩ := z
  intro H locs la hP hS hl
  exact kk H locs la (wld_cong h he hP) hS hl
def bdf (f : Int → Int) (n lo hi : Int) : Prop := ∀ k : Int, 0 ≤ k → k < n → lo ≤ f k ∧ f k ≤ hi
theorem up_lt {F G : Int → Int} {k v : Int} (h : ∀ j : Int, 0 ≤ j → j < k → F j = G j) (hv : v = G k) : ∀ j : Int, 0 ≤ j → j < k + 1 → up F k v j = G j := by
  intro j h0 h1
  by_cases e : j = k
  · rw [e, up_same, hv]
  · rw [up_ne e]; exact h j h0 (by omega)
end VC
