/-! THE TEXT: T its signs, L how many -/
def sgn (T : Int → Int) (L p : Int) : Int := if 0 ≤ p ∧ p < L then T p else -1
/-- how many digits from p on, of k at most -/
def dgs (T : Int → Int) (L : Int) : Nat → Int → Int
  | 0, _ => 0
  | k + 1, p => if 48 ≤ sgn T L p ∧ sgn T L p ≤ 57 then 1 + dgs T L k (p + 1) else 0
/-- the number of d digits from p on -/
def nmv (T : Int → Int) (p : Int) : Nat → Int
  | 0 => 0
  | d + 1 => 10 * nmv T p d + (T (p + d) - 48)
/-- where the i-th number of a row begins -/
def nst (T : Int → Int) (L p : Int) : Nat → Int
  | 0 => p
  | i + 1 => nst T L p i + dgs T L 3 (nst T L p i) + 1
/-- a row of numbers from p on, of k still, the i-th next: whether it is one, its end, how many -/
def nrd (T : Int → Int) (L p : Int) : Nat → Nat → Int × Int × Int
  | 0, i => (0, nst T L p i, i)
  | k + 1, i => if dgs T L 3 (nst T L p i) ≤ 0 then (0, nst T L p i, i) else if k = 0 ∨ ¬ sgn T L (nst T L p i + dgs T L 3 (nst T L p i)) = 44 then (1, nst T L p i + dgs T L 3 (nst T L p i), i + 1) else nrd T L p k (i + 1)
/-- a CLAUSE from p on: whether it is one; its end, or the fault's place; how many numbers -/
def clR (T : Int → Int) (L p : Int) : Int × Int × Int :=
  if sgn T L p = 98 then (if 1 ≤ dgs T L 5 (p + 1) then 1 else 0, p + 1 + dgs T L 5 (p + 1), dgs T L 5 (p + 1))
  else if sgn T L p = 107 then (if 3 ≤ dgs T L 3 (p + 1) then 1 else 0, p + 1 + dgs T L 3 (p + 1), dgs T L 3 (p + 1))
  else if sgn T L p = 119 then nrd T L (p + 1) 8 0
  else if sgn T L p = 116 then nrd T L (p + 1) 12 0
  else (0, p, 0)
/-- its i-th number -/
def clV (T : Int → Int) (L p i : Int) : Int := if sgn T L p = 98 ∨ sgn T L p = 107 then T (p + 1 + i) - 48 else nmv T (nst T L (p + 1) i.toNat) (dgs T L 3 (nst T L (p + 1) i.toNat)).toNat
/-- the FAULT OF THE TEXT, from the clause at p on, of k still; -1 -/
def ffR (T : Int → Int) (L : Int) : Nat → Int → Int
  | 0, p => p
  | k + 1, p => if (clR T L p).1 = 0 then (clR T L p).2.1 else if L ≤ (clR T L p).2.1 then -1 else if k = 0 ∨ ¬ sgn T L (clR T L p).2.1 = 59 then (clR T L p).2.1 else ffR T L k ((clR T L p).2.1 + 1)
theorem dgs_rng {T : Int → Int} {L : Int} : ∀ (k : Nat) (p : Int), 0 ≤ dgs T L k p ∧ dgs T L k p ≤ k ∧ (0 < dgs T L k p → 0 ≤ p ∧ p + dgs T L k p ≤ L) := by
  intro k
  induction k with
  | zero => intro p; simp [dgs]
  | succ k ih =>
    intro p
    have h := ih (p + 1)
    rw [dgs]
    split
    · rename_i c
      have hp : 0 ≤ p ∧ p < L := by
        unfold sgn at c
        split at c
        · assumption
        · omega
      refine ⟨by omega, by omega, fun _ => ⟨hp.1, ?_⟩⟩
      rcases Int.lt_or_le 0 (dgs T L k (p + 1)) with q | q
      · have := h.2.2 q; omega
      · omega
    · exact ⟨by omega, by omega, fun q => by omega⟩
theorem dgs_dig {T : Int → Int} {L : Int} : ∀ (k : Nat) (p j : Int), 0 ≤ j → j < dgs T L k p → 48 ≤ T (p + j) ∧ T (p + j) ≤ 57 := by
  intro k
  induction k with
  | zero => intro p j h0 h1; simp [dgs] at h1; omega
  | succ k ih =>
    intro p j h0 h1
    rw [dgs] at h1
    split at h1
    · rename_i c
      by_cases e : j = 0
      · subst e
        unfold sgn at c
        split at c
        · rw [Int.add_zero]; exact c
        · omega
      · have h2 := ih (p + 1) (j - 1) (by omega) (by omega)
        rw [show p + 1 + (j - 1) = p + j by omega] at h2
        exact h2
    · omega
