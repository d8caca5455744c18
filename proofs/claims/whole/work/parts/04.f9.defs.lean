theorem bm_3 {s : Int} (h : i32 s) : (Int.bmod (s - 3) 4294967296 = s - 3 ∧ -2147483648 ≤ s - 3) ∨ (s - 3 < -2147483648 ∧ Int.bmod (s - 3) 4294967296 = s - 3 + 4294967296) := by
  have h1 := Int.le_bmod (x := s - 3) (m := 4294967296) (by decide)
  have h2 := Int.bmod_lt (x := s - 3) (m := 4294967296) (by decide)
  have h3 : Int.bmod (s - 3) 4294967296 % ((4294967296 : Nat) : Int) = (s - 3) % ((4294967296 : Nat) : Int) := Int.bmod_emod
  omega
