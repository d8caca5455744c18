theorem up3 (f : Int → Int) (a b c : Int) : up (up (up f 2 a) 5 b) 2 c = up (up f 2 c) 5 b := by
  funext j; unfold up; by_cases h1 : j = 2 <;> by_cases h2 : j = 5 <;> simp [h1, h2]
theorem up4 (f : Int → Int) (a b c d : Int) : up (up (up (up f 2 a) 5 b) 2 c) 5 d = up (up f 2 c) 5 d := by rw [up3, up_up]
theorem dgs_1t {T : Int → Int} {L q : Int} (h : 0 < dgs T L 1 q) : dgs T L 1 q = 1 ∧ nmv T q (dgs T L 1 q).toNat = T q - 48 ∧ ∀ n : Nat, dgs T L (n + 1) q = 1 + dgs T L n (q + 1) := by
  have c : 48 ≤ sgn T L q ∧ sgn T L q ≤ 57 := by
    rw [dgs] at h
    split at h
    · assumption
    · omega
  have e : dgs T L 1 q = 1 := by rw [dgs, if_pos c]; rfl
  refine ⟨e, ?_, fun n => by rw [dgs, if_pos c]⟩
  rw [e]
  show 10 * 0 + (T (q + (0 : Nat)) - 48) = T q - 48
  simp
theorem dgs_1f {T : Int → Int} {L q : Int} (h : dgs T L 1 q = 0) : ∀ n : Nat, dgs T L n q = 0 := by
  have c : ¬ (48 ≤ sgn T L q ∧ sgn T L q ≤ 57) := by
    intro c
    rw [dgs, if_pos c] at h
    simp [dgs] at h
  intro n
  cases n with
  | zero => rfl
  | succ n => rw [dgs, if_neg c]
theorem nrd_f {T : Int → Int} {L p : Int} {k i : Nat} (h : dgs T L 3 (nst T L p i) = 0) : nrd T L p (k + 1) i = (0, nst T L p i, (i : Int)) := by rw [nrd, if_pos (by omega)]
theorem nrd_e {T : Int → Int} {L p : Int} {k i : Nat} (h : 0 < dgs T L 3 (nst T L p i)) (c : k = 0 ∨ ¬ sgn T L (nst T L p i + dgs T L 3 (nst T L p i)) = 44) : nrd T L p (k + 1) i = (1, nst T L p i + dgs T L 3 (nst T L p i), (i : Int) + 1) := by rw [nrd, if_neg (by omega), if_pos c]
theorem nrd_n {T : Int → Int} {L p : Int} {k i : Nat} (h : 0 < dgs T L 3 (nst T L p i)) (k0 : k ≠ 0) (c : sgn T L (nst T L p i + dgs T L 3 (nst T L p i)) = 44) : nrd T L p (k + 1) i = nrd T L p k (i + 1) := by rw [nrd, if_neg (by omega), if_neg (by intro q; rcases q with q | q; exact k0 q; exact q c)]
theorem zz_a {M : Mem} {x : Int} (h : M 62 5 = 0) : up1 M 62 (up (M 62) 2 x) = up1 (up1 M 62 (up (up (M 62) 2 x) 5 0)) 64 (M 64) := by
  have e : up (up (M 62) 2 x) 5 0 = up (M 62) 2 x := by
    funext j
    by_cases c : j = 5
    · subst c; rw [up_same, up_ne (by decide), h]
    · rw [up_ne c]
  rw [e]
  funext j
  by_cases c : j = 64
  · subst c; rw [up1_same, up1_ne (by decide)]
  · rw [up1_ne (i := 64) c]
