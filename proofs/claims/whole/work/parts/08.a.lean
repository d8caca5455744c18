/-! the world that the constructors leave -/
def M0L : List (Int → Int) := [(fun _ => 0), (fun _ => 0), (fun _ => 0), (fun _ => 0), (fun _ => 0), (fun _ => 0), (fun _ => 0), (fun _ => 0), (fun _ => 0), (fun _ => 0), (fun _ => 0), (fun _ => 0), (fun j => if j = 2 then 5 else 0), (fun _ => 0), (fun _ => 0), (fun j => if j = 2 then 8 else 0), (fun _ => 0), (fun _ => 0), (fun j => if j = 2 then 8 else 0), (fun _ => 0), (fun _ => 0), (fun _ => 0), (fun _ => 0), (fun _ => 0), (fun _ => 0), (fun _ => 0), (fun _ => 0), (fun _ => 0), (fun _ => 0), (fun _ => 0), (fun _ => 0), (fun _ => 0), (fun j => if j = 2 then 5 else 0), (fun _ => 0), (fun _ => 0), (fun j => if j = 2 then 8 else 0), (fun _ => 0), (fun _ => 0), (fun j => if j = 2 then 8 else 0), (fun _ => 0), (fun _ => 0), (fun _ => 0), (fun _ => 0), (fun _ => 0), (fun _ => 0), (fun _ => 0), (fun _ => 0), (fun _ => 0), (fun _ => 0), (fun _ => 0), (fun _ => 0), (fun _ => 0), (fun _ => 0), (fun _ => 0), (fun _ => 0), (fun _ => 0), (fun _ => 0), (fun _ => 0), (fun _ => 0), (fun _ => 0), (fun _ => 0), (fun _ => 0), (fun j => if j = 3 then -1 else 0), (fun _ => 0), (fun _ => 0), (fun _ => 0), (fun j => if j = 1 then -1 else 0), (fun _ => 0), (fun j => if j = 1 then -1 else 0), (fun _ => 0), (fun j => if j = 1 then -1 else 0), (fun _ => 0), (fun j => if j = 1 then -1 else 0), (fun _ => 0), (fun j => if j = 1 then -1 else 0), (fun _ => 0), (fun j => if j = 1 then -1 else 0), (fun _ => 0), (fun _ => 0), (fun _ => 0), (fun _ => 0), (fun _ => 0), (fun _ => 0), (fun _ => 0), (fun _ => 0), (fun _ => 0), (fun _ => 0), (fun _ => 0), (fun _ => 0), (fun _ => 0), (fun _ => 0), (fun _ => 0), (fun _ => -1), (fun _ => 0), (fun _ => 0)]
def M00 : Mem := fun i => M0L.getD i (fun _ => 0)
def wF (d : Gc) (a1 a2 : Nat) (b0 b1 : Nat → Nat) : va_W := wC9 d a1 b0 ++ wC10 d a2 b1
def adL (a1 a2 : Nat) (b0 b1 : Nat → Nat) : List Nat := [a1, (b0 0), (b0 1), (b0 2), (b0 3), (b0 4), (b0 5), (b0 6), (b0 7), (b0 8), (b0 9), (b0 10), (b0 11), (b0 12), (b0 13), (b0 14), (b0 15), (b0 16), (b0 17), (b0 18), (b0 19), (b0 20), (b0 21), (b0 22), (b0 23), (b0 24), (b0 25), (b0 26), (b0 27), (b0 28), (b0 29), (b0 30), (b0 31), (b0 32), (b0 33), (b0 34), (b0 35), (b0 36), (b0 37), (b0 38), (b0 39), (b0 40), (b0 41), (b0 42), (b0 43), (b0 44), (b0 45), (b0 46), (b0 47), (b0 48), (b0 49), (b0 50), (b0 51), (b0 52), (b0 53), (b0 54), (b0 55), (b0 56), (b0 57), (b0 58), (b0 59), (b0 60), (b0 61), (b0 62), (b0 63), (b0 64), (b0 65), (b0 66), (b0 67), (b0 68), (b0 69), (b0 70), (b0 71), (b0 72), (b0 73), (b0 74), (b0 75), (b0 76), a2, (b1 0), (b1 1), (b1 2), (b1 3), (b1 4), (b1 5), (b1 6), (b1 7), (b1 8), (b1 9), (b1 10), (b1 11), (b1 12), (b1 13), (b1 14), (b1 15)]
def gW (d : Gc) (a1 a2 : Nat) (b0 b1 : Nat → Nat) : Gl := (d.1, d.2, fun i => (adL a1 a2 b0 b1).getD i 0)
def prm : List Nat := [0, 1, 2, 3, 4, 5, 6, 7, 8, 9, 10, 11, 12, 13, 14, 15, 16, 17, 18, 19, 20, 21, 22, 23, 24, 25, 26, 27, 28, 29, 30, 31, 32, 33, 34, 35, 36, 37, 38, 39, 40, 41, 42, 43, 44, 45, 46, 47, 48, 49, 50, 51, 52, 53, 54, 55, 56, 57, 58, 59, 60, 61, 62, 63, 64, 65, 66, 67, 68, 69, 70, 71, 72, 73, 74, 75, 76, 77, 78, 79, 80, 81, 82, 83, 84, 85, 86, 87, 88, 89, 90, 91, 92, 93, 94]
def AtOk (d : Gc) (ws : va_W) (g : Gl) (i : Nat) : Prop := ∃ e : va_E, ws[prm.getD i 0]? = some (g.2.2 i, e) ∧ ∀ H : Heap, va_at d.1 vwCl (g.2.2 i, e) H → va_at d.1 vwCl (g.2.2 i, cellF g i (M00 i)) H
theorem at_0 (d : Gc) (a1 a2 : Nat) (b0 b1 : Nat → Nat) : AtOk d (wF d a1 a2 b0 b1) (gW d a1 a2 b0 b1) 0 := ⟨cellF (gW d a1 a2 b0 b1) 0 (M00 0), rfl, fun _ h => h⟩
theorem at_1 (d : Gc) (a1 a2 : Nat) (b0 b1 : Nat → Nat) : AtOk d (wF d a1 a2 b0 b1) (gW d a1 a2 b0 b1) 1 := ⟨cellF (gW d a1 a2 b0 b1) 1 (M00 1), rfl, fun _ h => h⟩
theorem at_2 (d : Gc) (a1 a2 : Nat) (b0 b1 : Nat → Nat) : AtOk d (wF d a1 a2 b0 b1) (gW d a1 a2 b0 b1) 2 := ⟨cellF (gW d a1 a2 b0 b1) 2 (M00 2), rfl, fun _ h => h⟩
theorem at_3 (d : Gc) (a1 a2 : Nat) (b0 b1 : Nat → Nat) : AtOk d (wF d a1 a2 b0 b1) (gW d a1 a2 b0 b1) 3 := ⟨cellF (gW d a1 a2 b0 b1) 3 (M00 3), rfl, fun _ h => h⟩
theorem at_4 (d : Gc) (a1 a2 : Nat) (b0 b1 : Nat → Nat) : AtOk d (wF d a1 a2 b0 b1) (gW d a1 a2 b0 b1) 4 := by
  refine ⟨.inl (d.2 2, 3, .inr (.inr (.inr (.inr (va_up (va_up (va_up (fun _ => none) 0 (some (b0 4))) 1 (some (b0 6))) 2 (some (b0 8))))))), rfl, fun H h => ?_⟩
  refine Eq.trans (b := some (vp_cell (d.2 2) (3, .inr (.inr (.inr (.inr (va_up (va_up (va_up (fun _ => none) 0 (some (b0 4))) 1 (some (b0 6))) 2 (some (b0 8))))))))) h (congrArg some ?_)
  show arrV (d.2 2) 3 (fun j : Nat => va_rf ((va_up (va_up (va_up (fun _ => none) 0 (some (b0 4))) 1 (some (b0 6))) 2 (some (b0 8))) j)) = arrV (d.2 2) 3 (fun j : Nat => va_rf (some ((gW d a1 a2 b0 b1).2.2 (4 + 1 + 2 * j))))
  refine arrV_cong (fun j hj => ?_)
  rcases (show j = 0 ∨ j = 1 ∨ j = 2 by have hj9 : j < 3 := hj; omega) with rfl | rfl | rfl <;> rfl
theorem at_5 (d : Gc) (a1 a2 : Nat) (b0 b1 : Nat → Nat) : AtOk d (wF d a1 a2 b0 b1) (gW d a1 a2 b0 b1) 5 := ⟨cellF (gW d a1 a2 b0 b1) 5 (M00 5), rfl, fun _ h => h⟩
theorem at_6 (d : Gc) (a1 a2 : Nat) (b0 b1 : Nat → Nat) : AtOk d (wF d a1 a2 b0 b1) (gW d a1 a2 b0 b1) 6 := ⟨cellF (gW d a1 a2 b0 b1) 6 (M00 6), rfl, fun _ h => h⟩
theorem at_7 (d : Gc) (a1 a2 : Nat) (b0 b1 : Nat → Nat) : AtOk d (wF d a1 a2 b0 b1) (gW d a1 a2 b0 b1) 7 := ⟨cellF (gW d a1 a2 b0 b1) 7 (M00 7), rfl, fun _ h => h⟩
theorem at_8 (d : Gc) (a1 a2 : Nat) (b0 b1 : Nat → Nat) : AtOk d (wF d a1 a2 b0 b1) (gW d a1 a2 b0 b1) 8 := ⟨cellF (gW d a1 a2 b0 b1) 8 (M00 8), rfl, fun _ h => h⟩
theorem at_9 (d : Gc) (a1 a2 : Nat) (b0 b1 : Nat → Nat) : AtOk d (wF d a1 a2 b0 b1) (gW d a1 a2 b0 b1) 9 := ⟨cellF (gW d a1 a2 b0 b1) 9 (M00 9), rfl, fun _ h => h⟩
theorem at_10 (d : Gc) (a1 a2 : Nat) (b0 b1 : Nat → Nat) : AtOk d (wF d a1 a2 b0 b1) (gW d a1 a2 b0 b1) 10 := ⟨cellF (gW d a1 a2 b0 b1) 10 (M00 10), rfl, fun _ h => h⟩
theorem at_11 (d : Gc) (a1 a2 : Nat) (b0 b1 : Nat → Nat) : AtOk d (wF d a1 a2 b0 b1) (gW d a1 a2 b0 b1) 11 := ⟨cellF (gW d a1 a2 b0 b1) 11 (M00 11), rfl, fun _ h => h⟩
theorem at_12 (d : Gc) (a1 a2 : Nat) (b0 b1 : Nat → Nat) : AtOk d (wF d a1 a2 b0 b1) (gW d a1 a2 b0 b1) 12 := ⟨cellF (gW d a1 a2 b0 b1) 12 (M00 12), rfl, fun _ h => h⟩
theorem at_13 (d : Gc) (a1 a2 : Nat) (b0 b1 : Nat → Nat) : AtOk d (wF d a1 a2 b0 b1) (gW d a1 a2 b0 b1) 13 := ⟨cellF (gW d a1 a2 b0 b1) 13 (M00 13), rfl, fun _ h => h⟩
theorem at_14 (d : Gc) (a1 a2 : Nat) (b0 b1 : Nat → Nat) : AtOk d (wF d a1 a2 b0 b1) (gW d a1 a2 b0 b1) 14 := ⟨cellF (gW d a1 a2 b0 b1) 14 (M00 14), rfl, fun _ h => h⟩
theorem at_15 (d : Gc) (a1 a2 : Nat) (b0 b1 : Nat → Nat) : AtOk d (wF d a1 a2 b0 b1) (gW d a1 a2 b0 b1) 15 := ⟨cellF (gW d a1 a2 b0 b1) 15 (M00 15), rfl, fun _ h => h⟩
theorem at_16 (d : Gc) (a1 a2 : Nat) (b0 b1 : Nat → Nat) : AtOk d (wF d a1 a2 b0 b1) (gW d a1 a2 b0 b1) 16 := ⟨cellF (gW d a1 a2 b0 b1) 16 (M00 16), rfl, fun _ h => h⟩
theorem at_17 (d : Gc) (a1 a2 : Nat) (b0 b1 : Nat → Nat) : AtOk d (wF d a1 a2 b0 b1) (gW d a1 a2 b0 b1) 17 := ⟨cellF (gW d a1 a2 b0 b1) 17 (M00 17), rfl, fun _ h => h⟩
theorem at_18 (d : Gc) (a1 a2 : Nat) (b0 b1 : Nat → Nat) : AtOk d (wF d a1 a2 b0 b1) (gW d a1 a2 b0 b1) 18 := ⟨cellF (gW d a1 a2 b0 b1) 18 (M00 18), rfl, fun _ h => h⟩
theorem at_19 (d : Gc) (a1 a2 : Nat) (b0 b1 : Nat → Nat) : AtOk d (wF d a1 a2 b0 b1) (gW d a1 a2 b0 b1) 19 := ⟨cellF (gW d a1 a2 b0 b1) 19 (M00 19), rfl, fun _ h => h⟩
theorem at_20 (d : Gc) (a1 a2 : Nat) (b0 b1 : Nat → Nat) : AtOk d (wF d a1 a2 b0 b1) (gW d a1 a2 b0 b1) 20 := ⟨cellF (gW d a1 a2 b0 b1) 20 (M00 20), rfl, fun _ h => h⟩
theorem at_21 (d : Gc) (a1 a2 : Nat) (b0 b1 : Nat → Nat) : AtOk d (wF d a1 a2 b0 b1) (gW d a1 a2 b0 b1) 21 := ⟨cellF (gW d a1 a2 b0 b1) 21 (M00 21), rfl, fun _ h => h⟩
theorem at_22 (d : Gc) (a1 a2 : Nat) (b0 b1 : Nat → Nat) : AtOk d (wF d a1 a2 b0 b1) (gW d a1 a2 b0 b1) 22 := ⟨cellF (gW d a1 a2 b0 b1) 22 (M00 22), rfl, fun _ h => h⟩
theorem at_23 (d : Gc) (a1 a2 : Nat) (b0 b1 : Nat → Nat) : AtOk d (wF d a1 a2 b0 b1) (gW d a1 a2 b0 b1) 23 := ⟨cellF (gW d a1 a2 b0 b1) 23 (M00 23), rfl, fun _ h => h⟩
theorem at_24 (d : Gc) (a1 a2 : Nat) (b0 b1 : Nat → Nat) : AtOk d (wF d a1 a2 b0 b1) (gW d a1 a2 b0 b1) 24 := by
  refine ⟨.inl (d.2 2, 3, .inr (.inr (.inr (.inr (va_up (va_up (va_up (fun _ => none) 0 (some (b0 24))) 1 (some (b0 26))) 2 (some (b0 28))))))), rfl, fun H h => ?_⟩
  refine Eq.trans (b := some (vp_cell (d.2 2) (3, .inr (.inr (.inr (.inr (va_up (va_up (va_up (fun _ => none) 0 (some (b0 24))) 1 (some (b0 26))) 2 (some (b0 28))))))))) h (congrArg some ?_)
  show arrV (d.2 2) 3 (fun j : Nat => va_rf ((va_up (va_up (va_up (fun _ => none) 0 (some (b0 24))) 1 (some (b0 26))) 2 (some (b0 28))) j)) = arrV (d.2 2) 3 (fun j : Nat => va_rf (some ((gW d a1 a2 b0 b1).2.2 (24 + 1 + 2 * j))))
  refine arrV_cong (fun j hj => ?_)
  rcases (show j = 0 ∨ j = 1 ∨ j = 2 by have hj9 : j < 3 := hj; omega) with rfl | rfl | rfl <;> rfl
theorem at_25 (d : Gc) (a1 a2 : Nat) (b0 b1 : Nat → Nat) : AtOk d (wF d a1 a2 b0 b1) (gW d a1 a2 b0 b1) 25 := ⟨cellF (gW d a1 a2 b0 b1) 25 (M00 25), rfl, fun _ h => h⟩
theorem at_26 (d : Gc) (a1 a2 : Nat) (b0 b1 : Nat → Nat) : AtOk d (wF d a1 a2 b0 b1) (gW d a1 a2 b0 b1) 26 := ⟨cellF (gW d a1 a2 b0 b1) 26 (M00 26), rfl, fun _ h => h⟩
theorem at_27 (d : Gc) (a1 a2 : Nat) (b0 b1 : Nat → Nat) : AtOk d (wF d a1 a2 b0 b1) (gW d a1 a2 b0 b1) 27 := ⟨cellF (gW d a1 a2 b0 b1) 27 (M00 27), rfl, fun _ h => h⟩
theorem at_28 (d : Gc) (a1 a2 : Nat) (b0 b1 : Nat → Nat) : AtOk d (wF d a1 a2 b0 b1) (gW d a1 a2 b0 b1) 28 := ⟨cellF (gW d a1 a2 b0 b1) 28 (M00 28), rfl, fun _ h => h⟩
theorem at_29 (d : Gc) (a1 a2 : Nat) (b0 b1 : Nat → Nat) : AtOk d (wF d a1 a2 b0 b1) (gW d a1 a2 b0 b1) 29 := ⟨cellF (gW d a1 a2 b0 b1) 29 (M00 29), rfl, fun _ h => h⟩
theorem at_30 (d : Gc) (a1 a2 : Nat) (b0 b1 : Nat → Nat) : AtOk d (wF d a1 a2 b0 b1) (gW d a1 a2 b0 b1) 30 := ⟨cellF (gW d a1 a2 b0 b1) 30 (M00 30), rfl, fun _ h => h⟩
theorem at_31 (d : Gc) (a1 a2 : Nat) (b0 b1 : Nat → Nat) : AtOk d (wF d a1 a2 b0 b1) (gW d a1 a2 b0 b1) 31 := ⟨cellF (gW d a1 a2 b0 b1) 31 (M00 31), rfl, fun _ h => h⟩
theorem at_32 (d : Gc) (a1 a2 : Nat) (b0 b1 : Nat → Nat) : AtOk d (wF d a1 a2 b0 b1) (gW d a1 a2 b0 b1) 32 := ⟨cellF (gW d a1 a2 b0 b1) 32 (M00 32), rfl, fun _ h => h⟩
theorem at_33 (d : Gc) (a1 a2 : Nat) (b0 b1 : Nat → Nat) : AtOk d (wF d a1 a2 b0 b1) (gW d a1 a2 b0 b1) 33 := ⟨cellF (gW d a1 a2 b0 b1) 33 (M00 33), rfl, fun _ h => h⟩
theorem at_34 (d : Gc) (a1 a2 : Nat) (b0 b1 : Nat → Nat) : AtOk d (wF d a1 a2 b0 b1) (gW d a1 a2 b0 b1) 34 := ⟨cellF (gW d a1 a2 b0 b1) 34 (M00 34), rfl, fun _ h => h⟩
theorem at_35 (d : Gc) (a1 a2 : Nat) (b0 b1 : Nat → Nat) : AtOk d (wF d a1 a2 b0 b1) (gW d a1 a2 b0 b1) 35 := ⟨cellF (gW d a1 a2 b0 b1) 35 (M00 35), rfl, fun _ h => h⟩
theorem at_36 (d : Gc) (a1 a2 : Nat) (b0 b1 : Nat → Nat) : AtOk d (wF d a1 a2 b0 b1) (gW d a1 a2 b0 b1) 36 := ⟨cellF (gW d a1 a2 b0 b1) 36 (M00 36), rfl, fun _ h => h⟩
theorem at_37 (d : Gc) (a1 a2 : Nat) (b0 b1 : Nat → Nat) : AtOk d (wF d a1 a2 b0 b1) (gW d a1 a2 b0 b1) 37 := ⟨cellF (gW d a1 a2 b0 b1) 37 (M00 37), rfl, fun _ h => h⟩
theorem at_38 (d : Gc) (a1 a2 : Nat) (b0 b1 : Nat → Nat) : AtOk d (wF d a1 a2 b0 b1) (gW d a1 a2 b0 b1) 38 := ⟨cellF (gW d a1 a2 b0 b1) 38 (M00 38), rfl, fun _ h => h⟩
theorem at_39 (d : Gc) (a1 a2 : Nat) (b0 b1 : Nat → Nat) : AtOk d (wF d a1 a2 b0 b1) (gW d a1 a2 b0 b1) 39 := ⟨cellF (gW d a1 a2 b0 b1) 39 (M00 39), rfl, fun _ h => h⟩
theorem at_40 (d : Gc) (a1 a2 : Nat) (b0 b1 : Nat → Nat) : AtOk d (wF d a1 a2 b0 b1) (gW d a1 a2 b0 b1) 40 := ⟨cellF (gW d a1 a2 b0 b1) 40 (M00 40), rfl, fun _ h => h⟩
theorem at_41 (d : Gc) (a1 a2 : Nat) (b0 b1 : Nat → Nat) : AtOk d (wF d a1 a2 b0 b1) (gW d a1 a2 b0 b1) 41 := ⟨cellF (gW d a1 a2 b0 b1) 41 (M00 41), rfl, fun _ h => h⟩
theorem at_42 (d : Gc) (a1 a2 : Nat) (b0 b1 : Nat → Nat) : AtOk d (wF d a1 a2 b0 b1) (gW d a1 a2 b0 b1) 42 := ⟨cellF (gW d a1 a2 b0 b1) 42 (M00 42), rfl, fun _ h => h⟩
theorem at_43 (d : Gc) (a1 a2 : Nat) (b0 b1 : Nat → Nat) : AtOk d (wF d a1 a2 b0 b1) (gW d a1 a2 b0 b1) 43 := by
  refine ⟨.inl (d.2 2, 3, .inr (.inr (.inr (.inr (va_up (va_up (va_up (fun _ => none) 0 (some (b0 43))) 1 (some (b0 45))) 2 (some (b0 47))))))), rfl, fun H h => ?_⟩
  refine Eq.trans (b := some (vp_cell (d.2 2) (3, .inr (.inr (.inr (.inr (va_up (va_up (va_up (fun _ => none) 0 (some (b0 43))) 1 (some (b0 45))) 2 (some (b0 47))))))))) h (congrArg some ?_)
  show arrV (d.2 2) 3 (fun j : Nat => va_rf ((va_up (va_up (va_up (fun _ => none) 0 (some (b0 43))) 1 (some (b0 45))) 2 (some (b0 47))) j)) = arrV (d.2 2) 3 (fun j : Nat => va_rf (some ((gW d a1 a2 b0 b1).2.2 (43 + 1 + 2 * j))))
  refine arrV_cong (fun j hj => ?_)
  rcases (show j = 0 ∨ j = 1 ∨ j = 2 by have hj9 : j < 3 := hj; omega) with rfl | rfl | rfl <;> rfl
theorem at_44 (d : Gc) (a1 a2 : Nat) (b0 b1 : Nat → Nat) : AtOk d (wF d a1 a2 b0 b1) (gW d a1 a2 b0 b1) 44 := ⟨cellF (gW d a1 a2 b0 b1) 44 (M00 44), rfl, fun _ h => h⟩
theorem at_45 (d : Gc) (a1 a2 : Nat) (b0 b1 : Nat → Nat) : AtOk d (wF d a1 a2 b0 b1) (gW d a1 a2 b0 b1) 45 := ⟨cellF (gW d a1 a2 b0 b1) 45 (M00 45), rfl, fun _ h => h⟩
theorem at_46 (d : Gc) (a1 a2 : Nat) (b0 b1 : Nat → Nat) : AtOk d (wF d a1 a2 b0 b1) (gW d a1 a2 b0 b1) 46 := ⟨cellF (gW d a1 a2 b0 b1) 46 (M00 46), rfl, fun _ h => h⟩
theorem at_47 (d : Gc) (a1 a2 : Nat) (b0 b1 : Nat → Nat) : AtOk d (wF d a1 a2 b0 b1) (gW d a1 a2 b0 b1) 47 := ⟨cellF (gW d a1 a2 b0 b1) 47 (M00 47), rfl, fun _ h => h⟩
theorem at_48 (d : Gc) (a1 a2 : Nat) (b0 b1 : Nat → Nat) : AtOk d (wF d a1 a2 b0 b1) (gW d a1 a2 b0 b1) 48 := ⟨cellF (gW d a1 a2 b0 b1) 48 (M00 48), rfl, fun _ h => h⟩
theorem at_49 (d : Gc) (a1 a2 : Nat) (b0 b1 : Nat → Nat) : AtOk d (wF d a1 a2 b0 b1) (gW d a1 a2 b0 b1) 49 := ⟨cellF (gW d a1 a2 b0 b1) 49 (M00 49), rfl, fun _ h => h⟩
theorem at_50 (d : Gc) (a1 a2 : Nat) (b0 b1 : Nat → Nat) : AtOk d (wF d a1 a2 b0 b1) (gW d a1 a2 b0 b1) 50 := ⟨cellF (gW d a1 a2 b0 b1) 50 (M00 50), rfl, fun _ h => h⟩
theorem at_51 (d : Gc) (a1 a2 : Nat) (b0 b1 : Nat → Nat) : AtOk d (wF d a1 a2 b0 b1) (gW d a1 a2 b0 b1) 51 := ⟨cellF (gW d a1 a2 b0 b1) 51 (M00 51), rfl, fun _ h => h⟩
theorem at_52 (d : Gc) (a1 a2 : Nat) (b0 b1 : Nat → Nat) : AtOk d (wF d a1 a2 b0 b1) (gW d a1 a2 b0 b1) 52 := ⟨cellF (gW d a1 a2 b0 b1) 52 (M00 52), rfl, fun _ h => h⟩
theorem at_53 (d : Gc) (a1 a2 : Nat) (b0 b1 : Nat → Nat) : AtOk d (wF d a1 a2 b0 b1) (gW d a1 a2 b0 b1) 53 := ⟨cellF (gW d a1 a2 b0 b1) 53 (M00 53), rfl, fun _ h => h⟩
theorem at_54 (d : Gc) (a1 a2 : Nat) (b0 b1 : Nat → Nat) : AtOk d (wF d a1 a2 b0 b1) (gW d a1 a2 b0 b1) 54 := ⟨cellF (gW d a1 a2 b0 b1) 54 (M00 54), rfl, fun _ h => h⟩
theorem at_55 (d : Gc) (a1 a2 : Nat) (b0 b1 : Nat → Nat) : AtOk d (wF d a1 a2 b0 b1) (gW d a1 a2 b0 b1) 55 := ⟨cellF (gW d a1 a2 b0 b1) 55 (M00 55), rfl, fun _ h => h⟩
theorem at_56 (d : Gc) (a1 a2 : Nat) (b0 b1 : Nat → Nat) : AtOk d (wF d a1 a2 b0 b1) (gW d a1 a2 b0 b1) 56 := ⟨cellF (gW d a1 a2 b0 b1) 56 (M00 56), rfl, fun _ h => h⟩
theorem at_57 (d : Gc) (a1 a2 : Nat) (b0 b1 : Nat → Nat) : AtOk d (wF d a1 a2 b0 b1) (gW d a1 a2 b0 b1) 57 := ⟨cellF (gW d a1 a2 b0 b1) 57 (M00 57), rfl, fun _ h => h⟩
theorem at_58 (d : Gc) (a1 a2 : Nat) (b0 b1 : Nat → Nat) : AtOk d (wF d a1 a2 b0 b1) (gW d a1 a2 b0 b1) 58 := ⟨cellF (gW d a1 a2 b0 b1) 58 (M00 58), rfl, fun _ h => h⟩
theorem at_59 (d : Gc) (a1 a2 : Nat) (b0 b1 : Nat → Nat) : AtOk d (wF d a1 a2 b0 b1) (gW d a1 a2 b0 b1) 59 := ⟨cellF (gW d a1 a2 b0 b1) 59 (M00 59), rfl, fun _ h => h⟩
theorem at_60 (d : Gc) (a1 a2 : Nat) (b0 b1 : Nat → Nat) : AtOk d (wF d a1 a2 b0 b1) (gW d a1 a2 b0 b1) 60 := ⟨cellF (gW d a1 a2 b0 b1) 60 (M00 60), rfl, fun _ h => h⟩
theorem at_61 (d : Gc) (a1 a2 : Nat) (b0 b1 : Nat → Nat) : AtOk d (wF d a1 a2 b0 b1) (gW d a1 a2 b0 b1) 61 := ⟨cellF (gW d a1 a2 b0 b1) 61 (M00 61), rfl, fun _ h => h⟩
theorem at_62 (d : Gc) (a1 a2 : Nat) (b0 b1 : Nat → Nat) : AtOk d (wF d a1 a2 b0 b1) (gW d a1 a2 b0 b1) 62 := ⟨cellF (gW d a1 a2 b0 b1) 62 (M00 62), rfl, fun _ h => h⟩
theorem at_63 (d : Gc) (a1 a2 : Nat) (b0 b1 : Nat → Nat) : AtOk d (wF d a1 a2 b0 b1) (gW d a1 a2 b0 b1) 63 := ⟨cellF (gW d a1 a2 b0 b1) 63 (M00 63), rfl, fun _ h => h⟩
theorem at_64 (d : Gc) (a1 a2 : Nat) (b0 b1 : Nat → Nat) : AtOk d (wF d a1 a2 b0 b1) (gW d a1 a2 b0 b1) 64 := ⟨cellF (gW d a1 a2 b0 b1) 64 (M00 64), rfl, fun _ h => h⟩
theorem at_65 (d : Gc) (a1 a2 : Nat) (b0 b1 : Nat → Nat) : AtOk d (wF d a1 a2 b0 b1) (gW d a1 a2 b0 b1) 65 := by
  refine ⟨.inl (d.2 3, 6, .inr (.inr (.inr (.inr (va_up (va_up (va_up (va_up (va_up (va_up (fun _ => none) 0 (some (b0 65))) 1 (some (b0 67))) 2 (some (b0 69))) 3 (some (b0 71))) 4 (some (b0 73))) 5 (some (b0 75))))))), rfl, fun H h => ?_⟩
  refine Eq.trans (b := some (vp_cell (d.2 3) (6, .inr (.inr (.inr (.inr (va_up (va_up (va_up (va_up (va_up (va_up (fun _ => none) 0 (some (b0 65))) 1 (some (b0 67))) 2 (some (b0 69))) 3 (some (b0 71))) 4 (some (b0 73))) 5 (some (b0 75))))))))) h (congrArg some ?_)
  show arrV (d.2 3) 6 (fun j : Nat => va_rf ((va_up (va_up (va_up (va_up (va_up (va_up (fun _ => none) 0 (some (b0 65))) 1 (some (b0 67))) 2 (some (b0 69))) 3 (some (b0 71))) 4 (some (b0 73))) 5 (some (b0 75))) j)) = arrV (d.2 3) 6 (fun j : Nat => va_rf (some ((gW d a1 a2 b0 b1).2.2 (65 + 1 + 2 * j))))
  refine arrV_cong (fun j hj => ?_)
  rcases (show j = 0 ∨ j = 1 ∨ j = 2 ∨ j = 3 ∨ j = 4 ∨ j = 5 by have hj9 : j < 6 := hj; omega) with rfl | rfl | rfl | rfl | rfl | rfl <;> rfl
theorem at_66 (d : Gc) (a1 a2 : Nat) (b0 b1 : Nat → Nat) : AtOk d (wF d a1 a2 b0 b1) (gW d a1 a2 b0 b1) 66 := ⟨cellF (gW d a1 a2 b0 b1) 66 (M00 66), rfl, fun _ h => h⟩
theorem at_67 (d : Gc) (a1 a2 : Nat) (b0 b1 : Nat → Nat) : AtOk d (wF d a1 a2 b0 b1) (gW d a1 a2 b0 b1) 67 := ⟨cellF (gW d a1 a2 b0 b1) 67 (M00 67), rfl, fun _ h => h⟩
theorem at_68 (d : Gc) (a1 a2 : Nat) (b0 b1 : Nat → Nat) : AtOk d (wF d a1 a2 b0 b1) (gW d a1 a2 b0 b1) 68 := ⟨cellF (gW d a1 a2 b0 b1) 68 (M00 68), rfl, fun _ h => h⟩
theorem at_69 (d : Gc) (a1 a2 : Nat) (b0 b1 : Nat → Nat) : AtOk d (wF d a1 a2 b0 b1) (gW d a1 a2 b0 b1) 69 := ⟨cellF (gW d a1 a2 b0 b1) 69 (M00 69), rfl, fun _ h => h⟩
theorem at_70 (d : Gc) (a1 a2 : Nat) (b0 b1 : Nat → Nat) : AtOk d (wF d a1 a2 b0 b1) (gW d a1 a2 b0 b1) 70 := ⟨cellF (gW d a1 a2 b0 b1) 70 (M00 70), rfl, fun _ h => h⟩
theorem at_71 (d : Gc) (a1 a2 : Nat) (b0 b1 : Nat → Nat) : AtOk d (wF d a1 a2 b0 b1) (gW d a1 a2 b0 b1) 71 := ⟨cellF (gW d a1 a2 b0 b1) 71 (M00 71), rfl, fun _ h => h⟩
theorem at_72 (d : Gc) (a1 a2 : Nat) (b0 b1 : Nat → Nat) : AtOk d (wF d a1 a2 b0 b1) (gW d a1 a2 b0 b1) 72 := ⟨cellF (gW d a1 a2 b0 b1) 72 (M00 72), rfl, fun _ h => h⟩
theorem at_73 (d : Gc) (a1 a2 : Nat) (b0 b1 : Nat → Nat) : AtOk d (wF d a1 a2 b0 b1) (gW d a1 a2 b0 b1) 73 := ⟨cellF (gW d a1 a2 b0 b1) 73 (M00 73), rfl, fun _ h => h⟩
theorem at_74 (d : Gc) (a1 a2 : Nat) (b0 b1 : Nat → Nat) : AtOk d (wF d a1 a2 b0 b1) (gW d a1 a2 b0 b1) 74 := ⟨cellF (gW d a1 a2 b0 b1) 74 (M00 74), rfl, fun _ h => h⟩
theorem at_75 (d : Gc) (a1 a2 : Nat) (b0 b1 : Nat → Nat) : AtOk d (wF d a1 a2 b0 b1) (gW d a1 a2 b0 b1) 75 := ⟨cellF (gW d a1 a2 b0 b1) 75 (M00 75), rfl, fun _ h => h⟩
theorem at_76 (d : Gc) (a1 a2 : Nat) (b0 b1 : Nat → Nat) : AtOk d (wF d a1 a2 b0 b1) (gW d a1 a2 b0 b1) 76 := ⟨cellF (gW d a1 a2 b0 b1) 76 (M00 76), rfl, fun _ h => h⟩
theorem at_77 (d : Gc) (a1 a2 : Nat) (b0 b1 : Nat → Nat) : AtOk d (wF d a1 a2 b0 b1) (gW d a1 a2 b0 b1) 77 := ⟨cellF (gW d a1 a2 b0 b1) 77 (M00 77), rfl, fun _ h => h⟩
theorem at_78 (d : Gc) (a1 a2 : Nat) (b0 b1 : Nat → Nat) : AtOk d (wF d a1 a2 b0 b1) (gW d a1 a2 b0 b1) 78 := ⟨cellF (gW d a1 a2 b0 b1) 78 (M00 78), rfl, fun _ h => h⟩
theorem at_79 (d : Gc) (a1 a2 : Nat) (b0 b1 : Nat → Nat) : AtOk d (wF d a1 a2 b0 b1) (gW d a1 a2 b0 b1) 79 := ⟨cellF (gW d a1 a2 b0 b1) 79 (M00 79), rfl, fun _ h => h⟩
theorem at_80 (d : Gc) (a1 a2 : Nat) (b0 b1 : Nat → Nat) : AtOk d (wF d a1 a2 b0 b1) (gW d a1 a2 b0 b1) 80 := ⟨cellF (gW d a1 a2 b0 b1) 80 (M00 80), rfl, fun _ h => h⟩
theorem at_81 (d : Gc) (a1 a2 : Nat) (b0 b1 : Nat → Nat) : AtOk d (wF d a1 a2 b0 b1) (gW d a1 a2 b0 b1) 81 := ⟨cellF (gW d a1 a2 b0 b1) 81 (M00 81), rfl, fun _ h => h⟩
theorem at_82 (d : Gc) (a1 a2 : Nat) (b0 b1 : Nat → Nat) : AtOk d (wF d a1 a2 b0 b1) (gW d a1 a2 b0 b1) 82 := ⟨cellF (gW d a1 a2 b0 b1) 82 (M00 82), rfl, fun _ h => h⟩
theorem at_83 (d : Gc) (a1 a2 : Nat) (b0 b1 : Nat → Nat) : AtOk d (wF d a1 a2 b0 b1) (gW d a1 a2 b0 b1) 83 := ⟨cellF (gW d a1 a2 b0 b1) 83 (M00 83), rfl, fun _ h => h⟩
theorem at_84 (d : Gc) (a1 a2 : Nat) (b0 b1 : Nat → Nat) : AtOk d (wF d a1 a2 b0 b1) (gW d a1 a2 b0 b1) 84 := ⟨cellF (gW d a1 a2 b0 b1) 84 (M00 84), rfl, fun _ h => h⟩
theorem at_85 (d : Gc) (a1 a2 : Nat) (b0 b1 : Nat → Nat) : AtOk d (wF d a1 a2 b0 b1) (gW d a1 a2 b0 b1) 85 := ⟨cellF (gW d a1 a2 b0 b1) 85 (M00 85), rfl, fun _ h => h⟩
theorem at_86 (d : Gc) (a1 a2 : Nat) (b0 b1 : Nat → Nat) : AtOk d (wF d a1 a2 b0 b1) (gW d a1 a2 b0 b1) 86 := ⟨cellF (gW d a1 a2 b0 b1) 86 (M00 86), rfl, fun _ h => h⟩
theorem at_87 (d : Gc) (a1 a2 : Nat) (b0 b1 : Nat → Nat) : AtOk d (wF d a1 a2 b0 b1) (gW d a1 a2 b0 b1) 87 := ⟨cellF (gW d a1 a2 b0 b1) 87 (M00 87), rfl, fun _ h => h⟩
theorem at_88 (d : Gc) (a1 a2 : Nat) (b0 b1 : Nat → Nat) : AtOk d (wF d a1 a2 b0 b1) (gW d a1 a2 b0 b1) 88 := ⟨cellF (gW d a1 a2 b0 b1) 88 (M00 88), rfl, fun _ h => h⟩
theorem at_89 (d : Gc) (a1 a2 : Nat) (b0 b1 : Nat → Nat) : AtOk d (wF d a1 a2 b0 b1) (gW d a1 a2 b0 b1) 89 := ⟨cellF (gW d a1 a2 b0 b1) 89 (M00 89), rfl, fun _ h => h⟩
theorem at_90 (d : Gc) (a1 a2 : Nat) (b0 b1 : Nat → Nat) : AtOk d (wF d a1 a2 b0 b1) (gW d a1 a2 b0 b1) 90 := ⟨cellF (gW d a1 a2 b0 b1) 90 (M00 90), rfl, fun _ h => h⟩
theorem at_91 (d : Gc) (a1 a2 : Nat) (b0 b1 : Nat → Nat) : AtOk d (wF d a1 a2 b0 b1) (gW d a1 a2 b0 b1) 91 := ⟨cellF (gW d a1 a2 b0 b1) 91 (M00 91), rfl, fun _ h => h⟩
theorem at_92 (d : Gc) (a1 a2 : Nat) (b0 b1 : Nat → Nat) : AtOk d (wF d a1 a2 b0 b1) (gW d a1 a2 b0 b1) 92 := by
  refine ⟨.inl (d.2 0, 6, .inl (upd (upd (upd (upd (upd (upd (fun _ => iI 0) 0 (iI (-1))) 1 (iI (-1))) 2 (iI (-1))) 3 (iI (-1))) 4 (iI (-1))) 5 (iI (-1)))), rfl, fun H h => ?_⟩
  refine Eq.trans (b := some (vp_cell (d.2 0) (6, .inl (upd (upd (upd (upd (upd (upd (fun _ => iI 0) 0 (iI (-1))) 1 (iI (-1))) 2 (iI (-1))) 3 (iI (-1))) 4 (iI (-1))) 5 (iI (-1)))))) h (congrArg some ?_)
  show arrV (d.2 0) 6 (fun j : Nat => .int (((upd (upd (upd (upd (upd (upd (fun _ => iI 0) 0 (iI (-1))) 1 (iI (-1))) 2 (iI (-1))) 3 (iI (-1))) 4 (iI (-1))) 5 (iI (-1)))) j)) = arrV (d.2 0) 6 (fun j : Nat => .int (iI (M00 92 j)))
  refine arrV_cong (fun j hj => ?_)
  rcases (show j = 0 ∨ j = 1 ∨ j = 2 ∨ j = 3 ∨ j = 4 ∨ j = 5 by have hj9 : j < 6 := hj; omega) with rfl | rfl | rfl | rfl | rfl | rfl <;> rfl
theorem at_93 (d : Gc) (a1 a2 : Nat) (b0 b1 : Nat → Nat) : AtOk d (wF d a1 a2 b0 b1) (gW d a1 a2 b0 b1) 93 := ⟨cellF (gW d a1 a2 b0 b1) 93 (M00 93), rfl, fun _ h => h⟩
theorem at_94 (d : Gc) (a1 a2 : Nat) (b0 b1 : Nat → Nat) : AtOk d (wF d a1 a2 b0 b1) (gW d a1 a2 b0 b1) 94 := ⟨cellF (gW d a1 a2 b0 b1) 94 (M00 94), rfl, fun _ h => h⟩
theorem at_all (d : Gc) (a1 a2 : Nat) (b0 b1 : Nat → Nat) : ∀ i : Nat, i < 95 → AtOk d (wF d a1 a2 b0 b1) (gW d a1 a2 b0 b1) i := by
  have h : ∀ i ∈ ([0, 1, 2, 3, 4, 5, 6, 7, 8, 9, 10, 11, 12, 13, 14, 15, 16, 17, 18, 19, 20, 21, 22, 23, 24, 25, 26, 27, 28, 29, 30, 31, 32, 33, 34, 35, 36, 37, 38, 39, 40, 41, 42, 43, 44, 45, 46, 47, 48, 49, 50, 51, 52, 53, 54, 55, 56, 57, 58, 59, 60, 61, 62, 63, 64, 65, 66, 67, 68, 69, 70, 71, 72, 73, 74, 75, 76, 77, 78, 79, 80, 81, 82, 83, 84, 85, 86, 87, 88, 89, 90, 91, 92, 93, 94] : List Nat), AtOk d (wF d a1 a2 b0 b1) (gW d a1 a2 b0 b1) i := List.forall_mem_cons.mpr ⟨at_0 d a1 a2 b0 b1, List.forall_mem_cons.mpr ⟨at_1 d a1 a2 b0 b1, List.forall_mem_cons.mpr ⟨at_2 d a1 a2 b0 b1, List.forall_mem_cons.mpr ⟨at_3 d a1 a2 b0 b1, List.forall_mem_cons.mpr ⟨at_4 d a1 a2 b0 b1, List.forall_mem_cons.mpr ⟨at_5 d a1 a2 b0 b1, List.forall_mem_cons.mpr ⟨at_6 d a1 a2 b0 b1, List.forall_mem_cons.mpr ⟨at_7 d a1 a2 b0 b1, List.forall_mem_cons.mpr ⟨at_8 d a1 a2 b0 b1, List.forall_mem_cons.mpr ⟨at_9 d a1 a2 b0 b1, List.forall_mem_cons.mpr ⟨at_10 d a1 a2 b0 b1, List.forall_mem_cons.mpr ⟨at_11 d a1 a2 b0 b1, List.forall_mem_cons.mpr ⟨at_12 d a1 a2 b0 b1, List.forall_mem_cons.mpr ⟨at_13 d a1 a2 b0 b1, List.forall_mem_cons.mpr ⟨at_14 d a1 a2 b0 b1, List.forall_mem_cons.mpr ⟨at_15 d a1 a2 b0 b1, List.forall_mem_cons.mpr ⟨at_16 d a1 a2 b0 b1, List.forall_mem_cons.mpr ⟨at_17 d a1 a2 b0 b1, List.forall_mem_cons.mpr ⟨at_18 d a1 a2 b0 b1, List.forall_mem_cons.mpr ⟨at_19 d a1 a2 b0 b1, List.forall_mem_cons.mpr ⟨at_20 d a1 a2 b0 b1, List.forall_mem_cons.mpr ⟨at_21 d a1 a2 b0 b1, List.forall_mem_cons.mpr ⟨at_22 d a1 a2 b0 b1, List.forall_mem_cons.mpr ⟨at_23 d a1 a2 b0 b1, List.forall_mem_cons.mpr ⟨at_24 d a1 a2 b0 b1, List.forall_mem_cons.mpr ⟨at_25 d a1 a2 b0 b1, List.forall_mem_cons.mpr ⟨at_26 d a1 a2 b0 b1, List.forall_mem_cons.mpr ⟨at_27 d a1 a2 b0 b1, List.forall_mem_cons.mpr ⟨at_28 d a1 a2 b0 b1, List.forall_mem_cons.mpr ⟨at_29 d a1 a2 b0 b1, List.forall_mem_cons.mpr ⟨at_30 d a1 a2 b0 b1, List.forall_mem_cons.mpr ⟨at_31 d a1 a2 b0 b1, List.forall_mem_cons.mpr ⟨at_32 d a1 a2 b0 b1, List.forall_mem_cons.mpr ⟨at_33 d a1 a2 b0 b1, List.forall_mem_cons.mpr ⟨at_34 d a1 a2 b0 b1, List.forall_mem_cons.mpr ⟨at_35 d a1 a2 b0 b1, List.forall_mem_cons.mpr ⟨at_36 d a1 a2 b0 b1, List.forall_mem_cons.mpr ⟨at_37 d a1 a2 b0 b1, List.forall_mem_cons.mpr ⟨at_38 d a1 a2 b0 b1, List.forall_mem_cons.mpr ⟨at_39 d a1 a2 b0 b1, List.forall_mem_cons.mpr ⟨at_40 d a1 a2 b0 b1, List.forall_mem_cons.mpr ⟨at_41 d a1 a2 b0 b1, List.forall_mem_cons.mpr ⟨at_42 d a1 a2 b0 b1, List.forall_mem_cons.mpr ⟨at_43 d a1 a2 b0 b1, List.forall_mem_cons.mpr ⟨at_44 d a1 a2 b0 b1, List.forall_mem_cons.mpr ⟨at_45 d a1 a2 b0 b1, List.forall_mem_cons.mpr ⟨at_46 d a1 a2 b0 b1, List.forall_mem_cons.mpr ⟨at_47 d a1 a2 b0 b1, List.forall_mem_cons.mpr ⟨at_48 d a1 a2 b0 b1, List.forall_mem_cons.mpr ⟨at_49 d a1 a2 b0 b1, List.forall_mem_cons.mpr ⟨at_50 d a1 a2 b0 b1, List.forall_mem_cons.mpr ⟨at_51 d a1 a2 b0 b1, List.forall_mem_cons.mpr ⟨at_52 d a1 a2 b0 b1, List.forall_mem_cons.mpr ⟨at_53 d a1 a2 b0 b1, List.forall_mem_cons.mpr ⟨at_54 d a1 a2 b0 b1, List.forall_mem_cons.mpr ⟨at_55 d a1 a2 b0 b1, List.forall_mem_cons.mpr ⟨at_56 d a1 a2 b0 b1, List.forall_mem_cons.mpr ⟨at_57 d a1 a2 b0 b1, List.forall_mem_cons.mpr ⟨at_58 d a1 a2 b0 b1, List.forall_mem_cons.mpr ⟨at_59 d a1 a2 b0 b1, List.forall_mem_cons.mpr ⟨at_60 d a1 a2 b0 b1, List.forall_mem_cons.mpr ⟨at_61 d a1 a2 b0 b1, List.forall_mem_cons.mpr ⟨at_62 d a1 a2 b0 b1, List.forall_mem_cons.mpr ⟨at_63 d a1 a2 b0 b1, List.forall_mem_cons.mpr ⟨at_64 d a1 a2 b0 b1, List.forall_mem_cons.mpr ⟨at_65 d a1 a2 b0 b1, List.forall_mem_cons.mpr ⟨at_66 d a1 a2 b0 b1, List.forall_mem_cons.mpr ⟨at_67 d a1 a2 b0 b1, List.forall_mem_cons.mpr ⟨at_68 d a1 a2 b0 b1, List.forall_mem_cons.mpr ⟨at_69 d a1 a2 b0 b1, List.forall_mem_cons.mpr ⟨at_70 d a1 a2 b0 b1, List.forall_mem_cons.mpr ⟨at_71 d a1 a2 b0 b1, List.forall_mem_cons.mpr ⟨at_72 d a1 a2 b0 b1, List.forall_mem_cons.mpr ⟨at_73 d a1 a2 b0 b1, List.forall_mem_cons.mpr ⟨at_74 d a1 a2 b0 b1, List.forall_mem_cons.mpr ⟨at_75 d a1 a2 b0 b1, List.forall_mem_cons.mpr ⟨at_76 d a1 a2 b0 b1, List.forall_mem_cons.mpr ⟨at_77 d a1 a2 b0 b1, List.forall_mem_cons.mpr ⟨at_78 d a1 a2 b0 b1, List.forall_mem_cons.mpr ⟨at_79 d a1 a2 b0 b1, List.forall_mem_cons.mpr ⟨at_80 d a1 a2 b0 b1, List.forall_mem_cons.mpr ⟨at_81 d a1 a2 b0 b1, List.forall_mem_cons.mpr ⟨at_82 d a1 a2 b0 b1, List.forall_mem_cons.mpr ⟨at_83 d a1 a2 b0 b1, List.forall_mem_cons.mpr ⟨at_84 d a1 a2 b0 b1, List.forall_mem_cons.mpr ⟨at_85 d a1 a2 b0 b1, List.forall_mem_cons.mpr ⟨at_86 d a1 a2 b0 b1, List.forall_mem_cons.mpr ⟨at_87 d a1 a2 b0 b1, List.forall_mem_cons.mpr ⟨at_88 d a1 a2 b0 b1, List.forall_mem_cons.mpr ⟨at_89 d a1 a2 b0 b1, List.forall_mem_cons.mpr ⟨at_90 d a1 a2 b0 b1, List.forall_mem_cons.mpr ⟨at_91 d a1 a2 b0 b1, List.forall_mem_cons.mpr ⟨at_92 d a1 a2 b0 b1, List.forall_mem_cons.mpr ⟨at_93 d a1 a2 b0 b1, List.forall_mem_cons.mpr ⟨at_94 d a1 a2 b0 b1, fun _ h => absurd h List.not_mem_nil⟩⟩⟩⟩⟩⟩⟩⟩⟩⟩⟩⟩⟩⟩⟩⟩⟩⟩⟩⟩⟩⟩⟩⟩⟩⟩⟩⟩⟩⟩⟩⟩⟩⟩⟩⟩⟩⟩⟩⟩⟩⟩⟩⟩⟩⟩⟩⟩⟩⟩⟩⟩⟩⟩⟩⟩⟩⟩⟩⟩⟩⟩⟩⟩⟩⟩⟩⟩⟩⟩⟩⟩⟩⟩⟩⟩⟩⟩⟩⟩⟩⟩⟩⟩⟩⟩⟩⟩⟩⟩⟩⟩⟩⟩⟩
  exact fun i hi => h i ((by decide +kernel : ∀ i : Nat, i < 95 → i ∈ ([0, 1, 2, 3, 4, 5, 6, 7, 8, 9, 10, 11, 12, 13, 14, 15, 16, 17, 18, 19, 20, 21, 22, 23, 24, 25, 26, 27, 28, 29, 30, 31, 32, 33, 34, 35, 36, 37, 38, 39, 40, 41, 42, 43, 44, 45, 46, 47, 48, 49, 50, 51, 52, 53, 54, 55, 56, 57, 58, 59, 60, 61, 62, 63, 64, 65, 66, 67, 68, 69, 70, 71, 72, 73, 74, 75, 76, 77, 78, 79, 80, 81, 82, 83, 84, 85, 86, 87, 88, 89, 90, 91, 92, 93, 94] : List Nat)) i hi)
theorem wld_of {d : Gc} {a1 a2 : Nat} {b0 b1 : Nat → Nat} {H : Heap} (hP : va_P d.1 vwCl (wF d a1 a2 b0 b1) H) : va_P (gW d a1 a2 b0 b1).1 vwCl (wld (gW d a1 a2 b0 b1) M00) H := by
  intro k x hk
  have h9 : k < 95 := by
    rcases Nat.lt_or_ge k 95 with h1 | h1
    · exact h1
    · rw [List.getElem?_eq_none (by rw [wld_len]; exact h1)] at hk; cases hk
  rw [wld_get _ _ h9] at hk
  cases hk
  obtain ⟨e9, h1, h2⟩ := at_all d a1 a2 b0 b1 k h9
  exact h2 H (hP _ _ h1)
theorem inj_of {d : Gc} {a1 a2 : Nat} {b0 b1 : Nat → Nat} {A : Nat → Prop} (hD9 : va_D A (wF d a1 a2 b0 b1)) : Inj (gW d a1 a2 b0 b1) := by
  intro i j hi hj h
  obtain ⟨e1, h1, -⟩ := at_all d a1 a2 b0 b1 i hi
  obtain ⟨e2, h2, -⟩ := at_all d a1 a2 b0 b1 j hj
  exact (by decide +kernel : ∀ i, i < 95 → ∀ j, j < 95 → prm.getD i 0 = prm.getD j 0 → i = j) i hi j hj (hD9.1 _ _ _ _ h1 h2 h)
theorem ad_in {d : Gc} {a1 a2 : Nat} {b0 b1 : Nat → Nat} {A : Nat → Prop} (hD9 : va_D A (wF d a1 a2 b0 b1)) : ∀ i, i < 95 → A ((gW d a1 a2 b0 b1).2.2 i) := by
  intro i hi
  obtain ⟨e1, h1, -⟩ := at_all d a1 a2 b0 b1 i hi
  exact hD9.2 _ _ h1
set_option maxRecDepth 100000 in
set_option maxHeartbeats 4000000 in
theorem inv_M00 : InvP M00 := by
  have e2 : M00 2 = (fun _ => 0) := rfl
  have e3 : M00 3 = (fun _ => 0) := rfl
  have e5 : M00 5 = (fun _ => 0) := rfl
  have e6 : M00 6 = (fun _ => 0) := rfl
  have e7 : M00 7 = (fun _ => 0) := rfl
  have e8 : M00 8 = (fun _ => 0) := rfl
  have e9 : M00 9 = (fun _ => 0) := rfl
  have e10 : M00 10 = (fun _ => 0) := rfl
  have e11 : M00 11 = (fun _ => 0) := rfl
  have e12 : M00 12 = (fun j => if j = 2 then 5 else 0) := rfl
  have e13 : M00 13 = (fun _ => 0) := rfl
  have e14 : M00 14 = (fun _ => 0) := rfl
  have e15 : M00 15 = (fun j => if j = 2 then 8 else 0) := rfl
  have e16 : M00 16 = (fun _ => 0) := rfl
  have e17 : M00 17 = (fun _ => 0) := rfl
  have e18 : M00 18 = (fun j => if j = 2 then 8 else 0) := rfl
  have e19 : M00 19 = (fun _ => 0) := rfl
  have e20 : M00 20 = (fun _ => 0) := rfl
  have e22 : M00 22 = (fun _ => 0) := rfl
  have e23 : M00 23 = (fun _ => 0) := rfl
  have e25 : M00 25 = (fun _ => 0) := rfl
  have e26 : M00 26 = (fun _ => 0) := rfl
  have e27 : M00 27 = (fun _ => 0) := rfl
  have e28 : M00 28 = (fun _ => 0) := rfl
  have e29 : M00 29 = (fun _ => 0) := rfl
  have e30 : M00 30 = (fun _ => 0) := rfl
  have e31 : M00 31 = (fun _ => 0) := rfl
  have e32 : M00 32 = (fun j => if j = 2 then 5 else 0) := rfl
  have e33 : M00 33 = (fun _ => 0) := rfl
  have e34 : M00 34 = (fun _ => 0) := rfl
  have e35 : M00 35 = (fun j => if j = 2 then 8 else 0) := rfl
  have e36 : M00 36 = (fun _ => 0) := rfl
  have e37 : M00 37 = (fun _ => 0) := rfl
  have e38 : M00 38 = (fun j => if j = 2 then 8 else 0) := rfl
  have e39 : M00 39 = (fun _ => 0) := rfl
  have e40 : M00 40 = (fun _ => 0) := rfl
  have e0 : M00 0 = (fun _ => 0) := rfl
  have e78 : M00 78 = (fun _ => 0) := rfl
  have e62 : M00 62 = (fun j => if j = 3 then -1 else 0) := rfl
  have e63 : M00 63 = (fun _ => 0) := rfl
  have e79 : M00 79 = (fun _ => 0) := rfl
  have e80 : M00 80 = (fun _ => 0) := rfl
  have e82 : M00 82 = (fun _ => 0) := rfl
  have e92 : M00 92 = (fun _ => -1) := rfl
  have e93 : M00 93 = (fun _ => 0) := rfl
  have e94 : M00 94 = (fun _ => 0) := rfl
  have e66 : M00 66 = (fun j => if j = 1 then -1 else 0) := rfl
  have e67 : M00 67 = (fun _ => 0) := rfl
  have e68 : M00 68 = (fun j => if j = 1 then -1 else 0) := rfl
  have e69 : M00 69 = (fun _ => 0) := rfl
  have e70 : M00 70 = (fun j => if j = 1 then -1 else 0) := rfl
  have e71 : M00 71 = (fun _ => 0) := rfl
  have e72 : M00 72 = (fun j => if j = 1 then -1 else 0) := rfl
  have e73 : M00 73 = (fun _ => 0) := rfl
  have e74 : M00 74 = (fun j => if j = 1 then -1 else 0) := rfl
  have e75 : M00 75 = (fun _ => 0) := rfl
  have e76 : M00 76 = (fun j => if j = 1 then -1 else 0) := rfl
  have e77 : M00 77 = (fun _ => 0) := rfl
  simp only [InvP, P1, P2, P3, F4, F5, P6, P7, RelP, BasP, RwP, R3P, TpP, TpV, TpW, WOk, RwOk, bdf, e2, e3, e5, e6, e7, e8, e9, e10, e11, e12, e13, e14, e15, e16, e17, e18, e19, e20, e22, e23, e25, e26, e27, e28, e29, e30, e31, e32, e33, e34, e35, e36, e37, e38, e39, e40, e0, e78, e62, e63, e79, e80, e82, e92, e93, e94, e66, e67, e68, e69, e70, e71, e72, e73, e74, e75, e76, e77]
  simp [bsK, bsN, bsA, tdW, rwH, rwN, sn5, tpI]
  exact fun _ _ _ _ _ _ => ⟨by decide, by decide⟩
