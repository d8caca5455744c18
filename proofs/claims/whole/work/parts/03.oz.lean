theorem up3 (f : Int → Int) (a b c : Int) : up (up (up f 2 a) 5 b) 2 c = up (up f 2 c) 5 b := by
  funext j; unfold up; by_cases h1 : j = 2 <;> by_cases h2 : j = 5 <;> simp [h1, h2]
theorem up4 (f : Int → Int) (a b c d : Int) : up (up (up (up f 2 a) 5 b) 2 c) 5 d = up (up f 2 c) 5 d := by rw [up3, up_up]
theorem dgs_1t {T : Int → Int} {L q : Int} (h : 0 < dgs T L 1 q) : dgs T L 1 q = 1 ∧ nmv T q (dgs T L 1 q).toNat = T q - 48 ∧ ∀ n : Nat, dgs T L (n + 1) q = 1 + dgs T L n (q + 1) := by
  have c : 48 ≤ sgn T L q ∧ sgn T L q ≤ 57 := by
    rw [dgs] at h
    split at h
    · assumption
    · omega
  have e : dgs T L 1 q = 1 := by rw [dgs, if_pos c]; rfl
  refine ⟨e, ?_, fun n => by rw [dgs, if_pos c]⟩
  rw [e]
  show 10 * 0 + (T (q + (0 : Nat)) - 48) = T q - 48
  simp
theorem dgs_1f {T : Int → Int} {L q : Int} (h : dgs T L 1 q = 0) : ∀ n : Nat, dgs T L n q = 0 := by
  have c : ¬ (48 ≤ sgn T L q ∧ sgn T L q ≤ 57) := by
    intro c
    rw [dgs, if_pos c] at h
    simp [dgs] at h
  intro n
  cases n with
  | zero => rfl
  | succ n => rw [dgs, if_neg c]
