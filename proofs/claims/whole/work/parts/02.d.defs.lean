/-! what the calls answer, as numbers -/
/-- FLOW in hour h, of the first n hours of rain -/
def flw (R A : Int → Int) (h : Int) : Nat → Int
  | 0 => 0
  | n + 1 => flw R A h n + (if 0 ≤ h - n ∧ h - n < 5 then R n * A (h - n) else 0)
def fl (R A : Int → Int) (n : Int) : Int → Int := fun h => flw R A h n.toNat
theorem flw_s {R A : Int → Int} {h s : Int} (hs : 0 ≤ s) : flw R A h (s + 1).toNat = flw R A h s.toNat + (if 0 ≤ h - s ∧ h - s < 5 then R s * A (h - s) else 0) := by
  have e : (s + 1).toNat = s.toNat + 1 := by omega
  have e2 : ((s.toNat : Nat) : Int) = s := Int.toNat_of_nonneg hs
  rw [e, flw, e2]
theorem flw_in {R A G : Int → Int} {s a m : Int} (ha : 0 ≤ a) (h : ∀ h : Int, 0 ≤ h → h < m → G h = flw R A h s.toNat + (if 0 ≤ h - s ∧ h - s < a then R s * A (h - s) else 0)) (hs : 0 ≤ s + a) (hm : s + a < m) : ∀ h : Int, 0 ≤ h → h < m → up G (s + a) (G (s + a) + R s * A a) h = flw R A h s.toNat + (if 0 ≤ h - s ∧ h - s < a + 1 then R s * A (h - s) else 0) := by
  intro j h0 h1
  by_cases e : j = s + a
  · have e2 : j - s = a := by omega
    rw [e, up_same, h _ hs hm, ← e, e2, if_neg (by omega), if_pos (by omega)]
    omega
  · rw [up_ne e, h j h0 h1]
    by_cases c : 0 ≤ j - s ∧ j - s < a
    · rw [if_pos c, if_pos (by omega)]
    · rw [if_neg c, if_neg (by omega)]
theorem flw_out {R A G : Int → Int} {s a m : Int} (hs : 0 ≤ s) (h : ∀ h : Int, 0 ≤ h → h < m → G h = flw R A h s.toNat + (if 0 ≤ h - s ∧ h - s < a then R s * A (h - s) else 0)) (ha : a ≤ 5) (hc : a = 5 ∨ m ≤ s + a) : ∀ h : Int, 0 ≤ h → h < m → G h = flw R A h (s + 1).toNat := by
  intro j h0 h1
  rw [h j h0 h1, flw_s hs]
  by_cases c : 0 ≤ j - s ∧ j - s < a
  · rw [if_pos c, if_pos (by omega)]
  · rw [if_neg c, if_neg (by omega)]
theorem flw_rng {R A : Int → Int} (hR : bdf R 8 0 20) (hA : bdf A 5 0 9) (h : Int) : ∀ n : Nat, n ≤ 8 → 0 ≤ flw R A h n ∧ flw R A h n ≤ 180 * n := by
  intro n
  induction n with
  | zero => intro _; exact ⟨by simp [flw], by simp [flw]⟩
  | succ n ih =>
    intro hn
    obtain ⟨h1, h2⟩ := ih (by omega)
    rw [flw]
    by_cases c : 0 ≤ h - n ∧ h - n < 5
    · rw [if_pos c]
      obtain ⟨r1, r2⟩ := hR n (by omega) (by omega)
      obtain ⟨a1, a2⟩ := hA (h - n) c.1 c.2
      have p1 : 0 ≤ R n * A (h - n) := Int.mul_nonneg r1 a1
      have p2 : R n * A (h - n) ≤ 20 * 9 := Int.mul_le_mul r2 a2 a1 (by omega)
      exact ⟨by omega, by omega⟩
    · rw [if_neg c]; exact ⟨by omega, by omega⟩
theorem fl_rng {R A : Int → Int} (hR : bdf R 8 0 20) (hA : bdf A 5 0 9) (m : Int) : bdf (fl R A 8) m 0 1440 := fun h _ _ => by
  have := flw_rng hR hA h 8 (Nat.le_refl 8)
  show 0 ≤ flw R A h 8 ∧ flw R A h 8 ≤ 1440
  omega
/-- what goes out of so much, by a kind and its number -/
def ofs (k n x : Int) : Int := if k = 2 then (if n ≤ 0 then 0 else x / n) else if k = 3 then min x n else if k = 4 then max (x - n) 0 else x
theorem ofs_rng {k n x : Int} (hx : 0 ≤ x) (hn : 0 ≤ n) : 0 ≤ ofs k n x ∧ ofs k n x ≤ x := by
  unfold ofs
  split
  · split
    · omega
    · have h1 : 0 ≤ x / n := Int.ediv_nonneg hx hn
      have h2 : x / n ≤ x := Int.ediv_le_self n hx
      exact ⟨h1, h2⟩
  · split
    · omega
    · split <;> omega
/-- STORE ahead of hour h -/
def sto (k n : Int) (F : Int → Int) : Nat → Int
  | 0 => 0
  | h + 1 => if k = 1 then sto k n F h else sto k n F h + F h - ofs k n (sto k n F h + F h)
/-- OUT in hour h -/
def otp (k n : Int) (F : Int → Int) (h : Int) : Int := if k = 1 then (if h < n then 0 else F (h - n)) else ofs k n (sto k n F h.toNat + F h)
theorem sto_s {k n h : Int} {F : Int → Int} (hh : 0 ≤ h) : sto k n F (h + 1).toNat = if k = 1 then sto k n F h.toNat else sto k n F h.toNat + F h - ofs k n (sto k n F h.toNat + F h) := by
  have e : (h + 1).toNat = h.toNat + 1 := by omega
  have e2 : ((h.toNat : Nat) : Int) = h := Int.toNat_of_nonneg hh
  rw [e, sto, e2]
theorem sto_rng {k n : Int} {F : Int → Int} (hn : 0 ≤ n) (hF : bdf F 30 0 1440) : ∀ h : Nat, h ≤ 30 → 0 ≤ sto k n F h ∧ sto k n F h ≤ 1440 * h := by
  intro h
  induction h with
  | zero => intro _; exact ⟨by simp [sto], by simp [sto]⟩
  | succ h ih =>
    intro hh
    obtain ⟨h1, h2⟩ := ih (by omega)
    obtain ⟨f1, f2⟩ := hF h (by omega) (by omega)
    obtain ⟨o1, o2⟩ := ofs_rng (k := k) (n := n) (x := sto k n F h + F h) (by omega) hn
    rw [sto]
    split <;> exact ⟨by omega, by omega⟩
theorem otp_rng {k n : Int} {F : Int → Int} (hn : 0 ≤ n) (hF : bdf F 30 0 1440) : bdf (otp k n F) 30 0 43200 := by
  intro h h0 h1
  unfold otp
  split
  · split
    · omega
    · have := hF (h - n) (by omega) (by omega); omega
  · have h2 := sto_rng (k := k) hn hF h.toNat (by omega)
    have h3 := hF h h0 h1
    obtain ⟨o1, o2⟩ := ofs_rng (k := k) (n := n) (x := sto k n F h.toNat + F h) (by omega) hn
    omega
/-- JOINED of the first n basins -/
def jnw (R : Int → Int) (A : Nat → Int → Int) (K N : Nat → Int) : Nat → Int → Int
  | 0 => fun _ => 0
  | b + 1 => fun h => jnw R A K N b h + otp (K b) (N b) (fl R (A b) 8) h
theorem jnw_rng {R : Int → Int} {A : Nat → Int → Int} {K N : Nat → Int} (hR : bdf R 8 0 20) (hA : ∀ b, b < 3 → bdf (A b) 5 0 9) (hN : ∀ b, b < 3 → 0 ≤ N b) : ∀ n : Nat, n ≤ 3 → bdf (jnw R A K N n) 30 0 (43200 * n) := by
  intro n
  induction n with
  | zero => intro _ h h0 h1; simp [jnw]
  | succ n ih =>
    intro hn h h0 h1
    have h2 := ih (by omega) h h0 h1
    have h3 := otp_rng (k := K n) (hN n (by omega)) (fl_rng hR (hA n (by omega)) 30) h h0 h1
    show 0 ≤ jnw R A K N n h + otp (K n) (N n) (fl R (A n) 8) h ∧ jnw R A K N n h + otp (K n) (N n) (fl R (A n) 8) h ≤ 43200 * ((n + 1 : Nat) : Int)
    exact ⟨by omega, by omega⟩
/-- of a row: all together; the first place of its greatest -/
def sumf (f : Int → Int) : Nat → Int
  | 0 => 0
  | n + 1 => sumf f n + f n
def bst (f : Int → Int) : Nat → Int
  | 0 => 0
  | n + 1 => if f (bst f n) < f n then n else bst f n
def msr (w : Int) (f : Int → Int) (n : Nat) : Int := if w = 0 then sumf f n else if w = 1 then f (bst f n) else bst f n
theorem bst_rng (f : Int → Int) : ∀ n : Nat, 0 ≤ bst f n ∧ (bst f n < n ∨ bst f n = 0) := by
  intro n
  induction n with
  | zero => exact ⟨by simp [bst], Or.inr rfl⟩
  | succ n ih => rw [bst]; split <;> omega
theorem sumf_s {f : Int → Int} {h : Int} (hh : 0 ≤ h) : sumf f (h + 1).toNat = sumf f h.toNat + f h := by
  have e : (h + 1).toNat = h.toNat + 1 := by omega
  have e2 : ((h.toNat : Nat) : Int) = h := Int.toNat_of_nonneg hh
  rw [e, sumf, e2]
theorem bst_s {f : Int → Int} {h : Int} (hh : 0 ≤ h) : bst f (h + 1).toNat = if f (bst f h.toNat) < f h then h else bst f h.toNat := by
  have e : (h + 1).toNat = h.toNat + 1 := by omega
  have e2 : ((h.toNat : Nat) : Int) = h := Int.toNat_of_nonneg hh
  rw [e, bst, e2]
theorem sumf_rng {f : Int → Int} {n hi : Int} (h : bdf f n 0 hi) : ∀ m : Nat, (m : Int) ≤ n → 0 ≤ sumf f m ∧ sumf f m ≤ hi * m := by
  intro m
  induction m with
  | zero => intro _; exact ⟨by simp [sumf], by simp [sumf]⟩
  | succ m ih =>
    intro hm
    have h1 := ih (by omega)
    have h2 := h m (by omega) (by omega)
    rw [sumf]
    have e : hi * ((m + 1 : Nat) : Int) = hi * m + hi := by rw [Int.natCast_succ, Int.mul_add, Int.mul_one]
    exact ⟨by omega, by omega⟩
