theorem fl_d (f : Int → Int) (x : Int) : up (up (up f 6 (f 6)) 7 x) 9 (f 9) = up f 7 x := by
  rw [up_self]
  funext j
  by_cases h1 : j = 9
  · subst h1; rw [up_same, up_ne (by decide)]
  · rw [up_ne h1]
def rdV (G : Int → Int) (c : Int) : Int → Int := fun j => G (c + 2 + j)
theorem zz_h {M : Mem} : M = up1 (up1 M 81 (M 81)) 79 (M 79) := by
  funext j
  by_cases h1 : j = 79
  · subst h1; rw [up1_same]
  · rw [up1_ne h1]
    by_cases h2 : j = 81
    · subst h2; rw [up1_same]
    · rw [up1_ne h2]
theorem zz_i {M : Mem} {D : Int → Int} : up1 M 81 D = up1 (up1 M 81 D) 79 (M 79) := by
  funext j
  by_cases h1 : j = 79
  · subst h1; rw [up1_same, up1_ne (by decide)]
  · rw [up1_ne (i := 79) h1]
theorem zz_j {M : Mem} {D : Int → Int} : up1 M 79 D = up1 (up1 M 81 (M 81)) 79 D := by
  funext j
  by_cases h1 : j = 79
  · subst h1; rw [up1_same, up1_same]
  · rw [up1_ne h1, up1_ne h1]
    by_cases h2 : j = 81
    · subst h2; rw [up1_same]
    · rw [up1_ne h2]
