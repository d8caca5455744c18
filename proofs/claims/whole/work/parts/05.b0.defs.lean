theorem dcs_0 {M : Mem} {Q : Int → Int} (h : RelF M 2 Q) : Meq (up1 M 62 (up (M 62) 2 0)) (up1 (up1 (cnQ M 2 Q) 62 (up (up (up (M 62) 3 (M 62 3)) 2 0) 5 (M 62 5))) 64 (M 64)) := by
  have h1 := cnQ_of h.P (M := M) (fun i _ => rfl)
  intro i hi
  by_cases y1 : i = 64
  · subst y1; exact ceq_e (by rw [up1_same, up1_ne (by decide)])
  rw [up1_ne (i := 64) y1]
  by_cases y2 : i = 62
  · subst y2; exact ceq_5 rfl rfl rfl rfl rfl
  rw [up1_ne y2, up1_ne y2]
  exact h1 i hi
