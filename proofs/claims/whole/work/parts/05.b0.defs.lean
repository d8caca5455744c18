theorem dcs_0 {M : Mem} {Q : Int → Int} (h : RelF M 2 Q) : Meq (up1 M 62 (up (M 62) 2 0)) (up1 (up1 (cnQ M 2 Q) 62 (up (up (up (M 62) 3 (M 62 3)) 2 0) 5 (M 62 5))) 64 (M 64)) := by
  have h1 := cnQ_of h.P (M := M) (fun i _ => rfl)
  intro i hi
  by_cases y1 : i = 64
  · subst y1; exact ceq_e (by rw [up1_same, up1_ne (by decide)])
  rw [up1_ne (i := 64) y1]
  by_cases y2 : i = 62
  · subst y2; exact ceq_5 rfl rfl rfl rfl rfl
  rw [up1_ne y2, up1_ne y2]
  exact h1 i hi
theorem ffR_rng {T : Int → Int} {L : Int} : ∀ (k : Nat) (p : Int), (0 ≤ p ∧ p ≤ L) → -1 ≤ ffR T L k p ∧ ffR T L k p ≤ L := by
  intro k
  induction k with
  | zero => intro p hp; show -1 ≤ p ∧ p ≤ L; omega
  | succ k ih =>
    intro p hp
    have hc := clR_rng (T := T) hp
    rw [ffR]
    split
    · omega
    · split
      · omega
      · split
        · omega
        · rename_i x1 x2 x3
          have h59 : sgn T L (clR T L p).2.1 = 59 := by
            by_cases q : sgn T L (clR T L p).2.1 = 59
            · exact q
            · exact absurd (Or.inr q) x3
          exact ih _ (by omega)
