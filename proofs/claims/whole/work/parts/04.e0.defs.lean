theorem zz_d {f : Int → Int} {s a b e c : Int} : up (up (up (up (up f 3 s) 5 a) 2 b) 2 e) 5 c = up (up (up f 3 s) 2 e) 5 c := by
  funext j; unfold up; by_cases h1 : j = 2 <;> by_cases h2 : j = 5 <;> by_cases h3 : j = 3 <;> simp [h1, h2, h3]
theorem zz_e {f : Int → Int} {s p m s' e c : Int} : up (up (up (up (up (up f 3 s) 2 p) 5 m) 3 s') 2 e) 5 c = up (up (up f 3 s') 2 e) 5 c := by
  funext j; unfold up; by_cases h1 : j = 2 <;> by_cases h2 : j = 5 <;> by_cases h3 : j = 3 <;> simp [h1, h2, h3]
theorem zz_f {M : Mem} {s a : Int} : up1 M 62 (up (up (M 62) 3 s) 5 a) = up1 (up1 M 62 (up (up (up (M 62) 3 s) 2 (M 62 2)) 5 a)) 64 (M 64) := by
  have e : up (up (up (M 62) 3 s) 2 (M 62 2)) 5 a = up (up (M 62) 3 s) 5 a := by
    congr 1
    funext j
    by_cases c : j = 2
    · subst c; rw [up_same, up_ne (by decide)]
    · rw [up_ne c]
  rw [e]
  funext j
  by_cases c : j = 64
  · subst c; rw [up1_same, up1_ne (by decide)]
  · rw [up1_ne (i := 64) c]
theorem zz_g {M : Mem} : up1 M 62 (up (M 62) 2 0) = up1 (up1 M 62 (up (up (up (M 62) 3 (M 62 3)) 2 0) 5 (M 62 5))) 64 (M 64) := by
  have e : up (up (up (M 62) 3 (M 62 3)) 2 0) 5 (M 62 5) = up (M 62) 2 0 := by
    rw [up_self]
    funext j
    by_cases c : j = 5
    · subst c; rw [up_same, up_ne (by decide)]
    · rw [up_ne c]
  rw [e]
  funext j
  by_cases c : j = 64
  · subst c; rw [up1_same, up1_ne (by decide)]
  · rw [up1_ne (i := 64) c]
theorem nrd_01 {T : Int → Int} {L p : Int} : ∀ (k i : Nat), (nrd T L p k i).1 = 0 ∨ (nrd T L p k i).1 = 1 := by
  intro k
  induction k with
  | zero => intro i; left; rfl
  | succ k ih =>
    intro i
    rw [nrd]
    split
    · left; rfl
    · split
      · right; rfl
      · exact ih (i + 1)
theorem nrd_rng {T : Int → Int} {L p : Int} : ∀ (k i : Nat), 0 ≤ nst T L p i → nst T L p i ≤ L → 0 ≤ (nrd T L p k i).2.1 ∧ (nrd T L p k i).2.1 ≤ L ∧ 0 ≤ (nrd T L p k i).2.2 ∧ (nrd T L p k i).2.2 ≤ i + k ∧ ((nrd T L p k i).1 = 1 → 0 < (nrd T L p k i).2.2) := by
  intro k
  induction k with
  | zero => intro i h0 h1; exact ⟨h0, h1, Int.natCast_nonneg i, by show (i : Int) ≤ i + (0 : Nat); omega, fun q => absurd (show (0 : Int) = 1 from q) (by decide)⟩
  | succ k ih =>
    intro i h0 h1
    have hd := dgs_rng (T := T) (L := L) 3 (nst T L p i)
    rw [nrd]
    split
    · exact ⟨h0, h1, Int.natCast_nonneg i, by show (i : Int) ≤ i + (k + 1 : Nat); omega, fun q => absurd (show (0 : Int) = 1 from q) (by decide)⟩
    · rename_i c
      have hd2 := hd.2.2 (by omega)
      split
      · exact ⟨by show 0 ≤ nst T L p i + dgs T L 3 (nst T L p i); omega, hd2.2, by show (0 : Int) ≤ (i : Int) + 1; omega, by show (i : Int) + 1 ≤ i + (k + 1 : Nat); omega, fun _ => by show (0 : Int) < (i : Int) + 1; omega⟩
      · rename_i c2
        have c3 : sgn T L (nst T L p i + dgs T L 3 (nst T L p i)) = 44 := by
          by_cases q : sgn T L (nst T L p i + dgs T L 3 (nst T L p i)) = 44
          · exact q
          · exact absurd (Or.inr q) c2
        have c4 : nst T L p i + dgs T L 3 (nst T L p i) < L := by
          unfold sgn at c3
          split at c3
          · omega
          · omega
        have h := ih (i + 1) (by rw [nst]; omega) (by rw [nst]; omega)
        exact ⟨h.1, h.2.1, h.2.2.1, by have := h.2.2.2.1; omega, h.2.2.2.2⟩
theorem sgn_lt {T : Int → Int} {L p : Int} (h : sgn T L p ≠ -1) : 0 ≤ p ∧ p < L := by
  unfold sgn at h
  split at h
  · assumption
  · exact absurd rfl h
theorem dgs_le {T : Int → Int} {L p : Int} (h0 : 0 ≤ p) (h1 : p ≤ L) (k : Nat) : p + dgs T L k p ≤ L := by
  have hd := dgs_rng (T := T) (L := L) k p
  rcases Int.lt_or_le 0 (dgs T L k p) with q | q
  · exact (hd.2.2 q).2
  · omega
theorem clR_rng {T : Int → Int} {L p : Int} (hp : 0 ≤ p ∧ p ≤ L) : ((clR T L p).1 = 0 ∨ (clR T L p).1 = 1) ∧ 0 ≤ (clR T L p).2.1 ∧ (clR T L p).2.1 ≤ L ∧ 0 ≤ (clR T L p).2.2 ∧ (clR T L p).2.2 ≤ 12 := by
  have a5 := dgs_rng (T := T) (L := L) 5 (p + 1)
  have a3 := dgs_rng (T := T) (L := L) 3 (p + 1)
  unfold clR
  split
  · rename_i c
    have hl := sgn_lt (T := T) (L := L) (p := p) (by omega)
    have d := dgs_le (T := T) (L := L) (p := p + 1) (by omega) (by omega) 5
    refine ⟨?_, by show 0 ≤ p + 1 + dgs T L 5 (p + 1); omega, d, a5.1, by show dgs T L 5 (p + 1) ≤ 12; omega⟩
    show (if 1 ≤ dgs T L 5 (p + 1) then (1 : Int) else 0) = 0 ∨ (if 1 ≤ dgs T L 5 (p + 1) then (1 : Int) else 0) = 1
    split
    · right; rfl
    · left; rfl
  · split
    · rename_i c
      have hl := sgn_lt (T := T) (L := L) (p := p) (by omega)
      have d := dgs_le (T := T) (L := L) (p := p + 1) (by omega) (by omega) 3
      refine ⟨?_, by show 0 ≤ p + 1 + dgs T L 3 (p + 1); omega, d, a3.1, by show dgs T L 3 (p + 1) ≤ 12; omega⟩
      show (if 3 ≤ dgs T L 3 (p + 1) then (1 : Int) else 0) = 0 ∨ (if 3 ≤ dgs T L 3 (p + 1) then (1 : Int) else 0) = 1
      split
      · right; rfl
      · left; rfl
    · split
      · rename_i c
        have hl := sgn_lt (T := T) (L := L) (p := p) (by omega)
        have h := nrd_rng (T := T) (L := L) (p := p + 1) 8 0 (by show 0 ≤ p + 1; omega) (by show p + 1 ≤ L; omega)
        exact ⟨nrd_01 8 0, h.1, h.2.1, h.2.2.1, by have := h.2.2.2.1; omega⟩
      · split
        · rename_i c
          have hl := sgn_lt (T := T) (L := L) (p := p) (by omega)
          have h := nrd_rng (T := T) (L := L) (p := p + 1) 12 0 (by show 0 ≤ p + 1; omega) (by show p + 1 ≤ L; omega)
          exact ⟨nrd_01 12 0, h.1, h.2.1, h.2.2.1, by have := h.2.2.2.1; omega⟩
        · exact ⟨Or.inl rfl, hp.1, hp.2, Int.le_refl 0, show (0 : Int) ≤ 12 by decide⟩
/-- digits together -/
def dgv (N : Int → Int) : Nat → Int
  | 0 => 0
  | k + 1 => 10 * dgv N k + N k
theorem dgv_s {N : Int → Int} {h : Int} (hh : 0 ≤ h) : dgv N (h + 1).toNat = 10 * dgv N h.toNat + N h := by
  have e : (h + 1).toNat = h.toNat + 1 := by omega
  have e2 : ((h.toNat : Nat) : Int) = h := Int.toNat_of_nonneg hh
  rw [e, dgv, e2]
