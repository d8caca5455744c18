/-! division: TOLD by an ANSWER, or by RAIN -/
abbrev whl (v d m : Int) : Prop := 0 < d ∧ 0 ≤ v ∧ v % d = 0 ∧ v / d ≤ m
def tkw (L : Int → Int) (f t : Int) (A : Int → Int) (n : Int) : Int → Int := fun j => if f ≤ j ∧ j - f < n then L j - t * A (j - f) else L j
/-- what is left behind a steps -/
def dvL (T D : Int → Int) (o n : Int) : Nat → Int → Int
  | 0 => T
  | a + 1 => tkw (dvL T D o n a) a (dvL T D o n a (o + a) / D o) D n
/-- the first step from a on, of k, that can't be; -1 -/
def dvB (T D : Int → Int) (o n m : Int) : Nat → Nat → Int
  | 0, _ => -1
  | k + 1, a => if whl (dvL T D o n a (o + a)) (D o) m then dvB T D o n m k (a + 1) else a
def dvQ (T D : Int → Int) (o n : Int) (a : Int) : Int := dvL T D o n a.toNat (o + a) / D o
/-- the first of k places from h on that is not 0; -1 -/
def rsc (L : Int → Int) : Nat → Int → Int
  | 0, _ => -1
  | k + 1, h => if L h = 0 then rsc L k (h + 1) else h
def fwt (R : Int → Int) : Nat → Int → Int
  | 0, _ => -1
  | k + 1, h => if 0 < R h then h else fwt R k (h + 1)
def unfR (T A : Int → Int) : Int := if 0 ≤ dvB T A 0 5 20 8 0 then dvB T A 0 5 20 8 0 else if 0 ≤ rsc (dvL T A 0 5 8) 4 8 then rsc (dvL T A 0 5 8) 4 8 else -5
def fbR (T R : Int → Int) : Int := if fwt R 8 0 < 0 then -5 else if 0 ≤ dvB T R (fwt R 8 0) 8 9 5 0 then dvB T R (fwt R 8 0) 8 9 5 0 else if 0 ≤ rsc (dvL T R (fwt R 8 0) 8 5) 12 0 then 10 + rsc (dvL T R (fwt R 8 0) 8 5) 12 0 else -6
theorem tkw_in {L G A : Int → Int} {f t k m : Int} (hk : 0 ≤ k) (h : ∀ j : Int, 0 ≤ j → j < m → G j = tkw L f t A k j) (h0 : 0 ≤ f + k) (h1 : f + k < m) : ∀ j : Int, 0 ≤ j → j < m → up G (f + k) (G (f + k) - t * A k) j = tkw L f t A (k + 1) j := by
  intro j j0 j1
  unfold tkw
  by_cases e : j = f + k
  · have e2 : j - f = k := by omega
    rw [e, up_same, h _ h0 h1]
    unfold tkw
    rw [if_neg (by omega), if_pos (by omega), ← e, e2]
  · rw [up_ne e, h j j0 j1]
    unfold tkw
    by_cases c : f ≤ j ∧ j - f < k
    · rw [if_pos c, if_pos (by omega)]
    · rw [if_neg c, if_neg (by omega)]
theorem tkw_cut {L A : Int → Int} {f t k n m : Int} (hk : k ≤ n) (hc : k = n ∨ m ≤ f + k) : ∀ j : Int, 0 ≤ j → j < m → tkw L f t A k j = tkw L f t A n j := by
  intro j j0 j1
  unfold tkw
  by_cases c : f ≤ j ∧ j - f < k
  · rw [if_pos c, if_pos (by omega)]
  · rw [if_neg c, if_neg (by omega)]
theorem dvL_s {T D : Int → Int} {o n a : Int} (ha : 0 ≤ a) : dvL T D o n (a + 1).toNat = tkw (dvL T D o n a.toNat) a (dvQ T D o n a) D n := by
  have e : (a + 1).toNat = a.toNat + 1 := by omega
  have e2 : ((a.toNat : Nat) : Int) = a := Int.toNat_of_nonneg ha
  rw [e, dvL, e2]; rfl
theorem dvB_s {T D : Int → Int} {o n m a : Int} {k : Nat} (ha : 0 ≤ a) : dvB T D o n m (k + 1) a.toNat = if whl (dvL T D o n a.toNat (o + a)) (D o) m then dvB T D o n m k (a + 1).toNat else a := by
  have e : (a + 1).toNat = a.toNat + 1 := by omega
  have e2 : ((a.toNat : Nat) : Int) = a := Int.toNat_of_nonneg ha
  rw [e, dvB, e2]
theorem tkw_rng {L A : Int → Int} {f t n lo hi : Int} {m : Int} (hL : bdf L m lo hi) (hq : ∀ k : Int, 0 ≤ k → k < n → 0 ≤ t * A k ∧ t * A k ≤ 180) : bdf (tkw L f t A n) m (lo - 180) hi := by
  intro j j0 j1
  have h1 := hL j j0 j1
  unfold tkw
  by_cases c : f ≤ j ∧ j - f < n
  · rw [if_pos c]; have h2 := hq (j - f) (by omega) c.2; omega
  · rw [if_neg c]; omega
theorem prd_rng {t x a b : Int} (h1 : 0 ≤ t) (h2 : t ≤ a) (h3 : 0 ≤ x) (h4 : x ≤ b) (h5 : a * b ≤ 180) (h6 : 0 ≤ a) : 0 ≤ t * x ∧ t * x ≤ 180 :=
  ⟨Int.mul_nonneg h1 h3, Int.le_trans (Int.mul_le_mul h2 h4 h3 h6) h5⟩
theorem rsc_skip {L : Int → Int} {k : Nat} : ∀ (m : Nat) (h : Int), (∀ j : Int, h ≤ j → j < h + m → L j = 0) → rsc L (m + k) h = rsc L k (h + m) := by
  intro m
  induction m with
  | zero => intro h _; simp
  | succ m ih =>
    intro h hz
    have e : m + 1 + k = (m + k) + 1 := by omega
    rw [e, rsc, if_pos (hz h (by omega) (by omega)), ih (h + 1) (fun j h1 h2 => hz j (by omega) (by omega))]
    congr 1; omega
theorem rsc_rng {L : Int → Int} : ∀ (k : Nat) (h : Int), 0 ≤ h → -1 ≤ rsc L k h ∧ rsc L k h < h + k := by
  intro k
  induction k with
  | zero => intro h hh; simp [rsc]; omega
  | succ k ih =>
    intro h hh
    have := ih (h + 1) (by omega)
    rw [rsc]; split <;> omega
theorem fwt_rng {R : Int → Int} : ∀ (k : Nat) (h : Int), 0 ≤ h → fwt R k h = -1 ∨ (h ≤ fwt R k h ∧ fwt R k h < h + k ∧ 0 < R (fwt R k h)) := by
  intro k
  induction k with
  | zero => intro h hh; left; rfl
  | succ k ih =>
    intro h hh
    have h2 := ih (h + 1) (by omega)
    rw [fwt]
    split
    · right; refine ⟨by omega, by omega, by assumption⟩
    · rcases h2 with h2 | h2
      · left; exact h2
      · right; refine ⟨by omega, by omega, h2.2.2⟩
theorem dvB_rng {T D : Int → Int} {o n m : Int} : ∀ (k a : Nat), -1 ≤ dvB T D o n m k a ∧ dvB T D o n m k a < a + k := by
  intro k
  induction k with
  | zero => intro a; simp [dvB]; omega
  | succ k ih =>
    intro a
    have := ih (a + 1)
    rw [dvB]; split <;> omega
/-- the step's own place is cleared, those behind it stay so -/
theorem dv_zero {T D : Int → Int} {n m a : Int} (ha : 0 ≤ a) (hn : 0 < n) (hw : whl (dvL T D 0 n a.toNat (0 + a)) (D 0) m) (hz : ∀ j : Int, 0 ≤ j → j < a → dvL T D 0 n a.toNat j = 0) : ∀ j : Int, 0 ≤ j → j < a + 1 → dvL T D 0 n (a + 1).toNat j = 0 := by
  intro j j0 j1
  rw [dvL_s ha]
  unfold tkw
  by_cases e : j = a
  · subst e
    rw [if_pos (by omega), Int.sub_self]
    unfold dvQ
    rw [Int.zero_add] at hw ⊢
    have h1 := Int.mul_ediv_add_emod (dvL T D 0 n j.toNat j) (D 0)
    have h2 := hw.2.2.1
    rw [h2, Int.add_zero, Int.mul_comm] at h1
    omega
  · rw [if_neg (by omega)]; exact hz j j0 (by omega)
/-! the rain that is nearest -/
def spr (r : Int) : Int → Int := fun k => if k = 0 then r / 49 else if k = 1 then r / 7 % 7 else r % 7
def sqf (F T : Int → Int) : Nat → Int
  | 0 => 0
  | h + 1 => sqf F T h + (F h - T h) * (F h - T h)
def nrs (T A : Int → Int) (k : Int) : Int := sqf (fl (spr k) A 3) T 12
def amn (f : Int → Int) : Nat → Int
  | 0 => 0
  | n + 1 => if f n < f (amn f n) then n else amn f n
theorem sqf_s {F T : Int → Int} {h : Int} (hh : 0 ≤ h) : sqf F T (h + 1).toNat = sqf F T h.toNat + (F h - T h) * (F h - T h) := by
  have e : (h + 1).toNat = h.toNat + 1 := by omega
  have e2 : ((h.toNat : Nat) : Int) = h := Int.toNat_of_nonneg hh
  rw [e, sqf, e2]
theorem amn_s {f : Int → Int} {h : Int} (hh : 0 ≤ h) : amn f (h + 1).toNat = if f h < f (amn f h.toNat) then h else amn f h.toNat := by
  have e : (h + 1).toNat = h.toNat + 1 := by omega
  have e2 : ((h.toNat : Nat) : Int) = h := Int.toNat_of_nonneg hh
  rw [e, amn, e2]
theorem amn_rng (f : Int → Int) : ∀ n : Nat, 0 ≤ amn f n ∧ (amn f n < n ∨ amn f n = 0) := by
  intro n
  induction n with
  | zero => exact ⟨by simp [amn], Or.inr rfl⟩
  | succ n ih => rw [amn]; split <;> omega
theorem sq_rng {x : Int} (h1 : -1440 ≤ x) (h2 : x ≤ 1440) : 0 ≤ x * x ∧ x * x ≤ 2073600 := by
  rcases Int.lt_or_le x 0 with h | h
  · have e : x * x = (-x) * (-x) := by rw [Int.neg_mul_neg]
    rw [e]
    exact ⟨Int.mul_nonneg (by omega) (by omega), Int.le_trans (Int.mul_le_mul (show -x ≤ 1440 by omega) (show -x ≤ 1440 by omega) (by omega) (by omega)) (by decide)⟩
  · exact ⟨Int.mul_nonneg h h, Int.le_trans (Int.mul_le_mul h2 h2 h (by omega)) (by decide)⟩
theorem sqf_rng {F T : Int → Int} (hF : bdf F 12 0 1440) (hT : bdf T 12 0 999) : ∀ n : Nat, n ≤ 12 → 0 ≤ sqf F T n ∧ sqf F T n ≤ 2073600 * n := by
  intro n
  induction n with
  | zero => intro _; exact ⟨by simp [sqf], by simp [sqf]⟩
  | succ n ih =>
    intro hn
    have h1 := ih (by omega)
    have h2 := hF n (by omega) (by omega)
    have h3 := hT n (by omega) (by omega)
    have h4 := sq_rng (x := F n - T n) (by omega) (by omega)
    rw [sqf]; omega
theorem flw_rng2 {R A : Int → Int} {m : Int} (hR : bdf R m 0 20) (hA : bdf A 5 0 9) (h : Int) : ∀ n : Nat, (n : Int) ≤ m → 0 ≤ flw R A h n ∧ flw R A h n ≤ 180 * n := by
  intro n
  induction n with
  | zero => intro _; exact ⟨by simp [flw], by simp [flw]⟩
  | succ n ih =>
    intro hn
    obtain ⟨h1, h2⟩ := ih (by omega)
    rw [flw]
    by_cases c : 0 ≤ h - n ∧ h - n < 5
    · rw [if_pos c]
      obtain ⟨r1, r2⟩ := hR n (by omega) (by omega)
      obtain ⟨a1, a2⟩ := hA (h - n) c.1 c.2
      have p1 : 0 ≤ R n * A (h - n) := Int.mul_nonneg r1 a1
      have p2 : R n * A (h - n) ≤ 20 * 9 := Int.mul_le_mul r2 a2 a1 (by omega)
      exact ⟨by omega, by omega⟩
    · rw [if_neg c]; exact ⟨by omega, by omega⟩
theorem spr_rng {k : Int} (h0 : 0 ≤ k) (h1 : k < 343) : bdf (spr k) 3 0 20 := by
  intro j _ _
  unfold spr
  split
  · omega
  · split <;> omega
theorem nrs_rng {T A : Int → Int} (hT : bdf T 12 0 999) (hA : bdf A 5 0 9) {k : Int} (h0 : 0 ≤ k) (h1 : k < 343) : 0 ≤ nrs T A k ∧ nrs T A k ≤ 24883200 := by
  have hF : bdf (fl (spr k) A 3) 12 0 1440 := fun h _ _ => by
    have := flw_rng2 (m := 3) (spr_rng h0 h1) hA h 3 (by omega)
    show 0 ≤ flw (spr k) A h 3 ∧ flw (spr k) A h 3 ≤ 1440
    omega
  have := sqf_rng hF hT 12 (Nat.le_refl _)
  unfold nrs; omega
/-- the first of k rows from r on in whose hour J is otherwise; -5 -/
def fot (F S J : Int → Int) : Nat → Int → Int
  | 0, _ => -5
  | k + 1, r => if J (F r) = S r then fot F S J k (r + 1) else r
theorem fot_rng {F S J : Int → Int} : ∀ (k : Nat) (r : Int), 0 ≤ r → fot F S J k r = -5 ∨ (r ≤ fot F S J k r ∧ fot F S J k r < r + k) := by
  intro k
  induction k with
  | zero => intro r _; left; rfl
  | succ k ih =>
    intro r hr
    have := ih (r + 1) (by omega)
    rw [fot]; split
    · rcases this with h | h
      · left; exact h
      · right; omega
    · right; omega
