theorem pkW_rng {W : Int → Int} (hw : WOk W) : 0 ≤ pkW W ∧ pkW W ≤ 129600 := by
  have h1 := bst_rng (jnW W) 30
  exact jnW_rng hw _ h1.1 (by omega)
/-- a row of two numbers comes to rows at a, how many at c -/
def adW (W : Int → Int) (c a x y : Int) : Int → Int := up (up (up W (a + 2 * W c) x) (a + 2 * W c + 1) y) c (W c + 1)
theorem fot_cg {F F' S S' J : Int → Int} : ∀ (k : Nat) (r : Int), 0 ≤ r → (∀ q : Int, 0 ≤ q → q < r + k → F q = F' q ∧ S q = S' q) → fot F S J k r = fot F' S' J k r := by
  intro k
  induction k with
  | zero => intro r _ _; rfl
  | succ k ih =>
    intro r hr h
    have h1 := h r hr (by omega)
    rw [fot, fot, h1.1, h1.2, ih (r + 1) (by omega) (fun q q0 q1 => h q q0 (by omega))]
def EvW (W : Int → Int) : Prop := (0 ≤ W 56 ∧ W 56 ≤ 8) ∧ ∀ r : Int, 0 ≤ r → r < W 56 → (0 ≤ W (57 + 2 * r) ∧ W (57 + 2 * r) ≤ 3) ∧ (0 ≤ W (58 + 2 * r) ∧ W (58 + 2 * r) ≤ 7) ∧ (W (57 + 2 * r) = 2 → W (58 + 2 * r) ≤ 2)
/-- behind the first r EVENTS -/
def hpW (W : Int → Int) : Nat → Int → Int
  | 0 => W
  | r + 1 => hapW (W (57 + 2 * r)) (W (58 + 2 * r)) (hpW W r)
theorem hpW_s {W : Int → Int} {r : Int} (h : 0 ≤ r) : hpW W (r + 1).toNat = hapW (W (57 + 2 * r)) (W (58 + 2 * r)) (hpW W r.toNat) := by
  have e1 : (r + 1).toNat = r.toNat + 1 := by omega
  have e2 : ((r.toNat : Nat) : Int) = r := Int.toNat_of_nonneg h
  rw [e1, hpW, e2]
theorem hapW_far {w n : Int} {W : Int → Int} (h0 : 0 ≤ n) (h7 : n ≤ 7) (h2 : w = 2 → n ≤ 2) : ∀ j : Int, 45 ≤ j → hapW w n W j = W j := by
  intro j hj
  unfold hapW
  split
  · exact up_ne (by omega)
  · split
    · exact up_ne (by omega)
    · split
      · rename_i c; exact up_ne (by have := h2 c; omega)
      · exact if_neg (by omega)
theorem hapW_WOk {w n : Int} {W : Int → Int} (hw : WOk W) (h0 : 0 ≤ n) (h7 : n ≤ 7) (h2 : w = 2 → n ≤ 2) : WOk (hapW w n W) := by
  have hn := hw.1 n h0 (by omega)
  unfold hapW
  split
  · exact WOk_up hw h0 (by omega) (by omega) (by omega)
  · split
    · exact WOk_up hw h0 (by omega) (by omega) (by omega)
    · split
      · rename_i c
        have n2 := h2 c
        obtain ⟨hR, hT, hm9, hb9, hz9⟩ := hw
        refine ⟨fun j j0 j1 => by rw [up_ne (by omega)]; exact hR j j0 j1, fun j j0 j1 => ?_, by rw [up_ne (by omega)]; exact hm9, fun b b0 b1 => ?_, fun b b0 b1 => ?_⟩
        · unfold tdW; rw [up_ne (by omega)]; exact hT j j0 j1
        · obtain ⟨q1, q2, q3, q4, q5⟩ := hb9 b b0 b1
          refine ⟨fun j j0 j1 => ?_, by rw [up_ne (by omega)]; exact q2, ?_, ?_, ?_⟩
          · unfold bsA; rw [up_ne (by omega)]; exact q1 j j0 j1
          · unfold bsK at q3 ⊢
            by_cases e9 : b = n
            · subst e9; rw [up_same]; omega
            · rw [up_ne (by omega)]; exact q3
          · unfold bsN at q4 ⊢; rw [up_ne (by omega)]; exact q4
          · unfold bsK bsN at q5 ⊢
            by_cases e9 : b = n
            · subst e9; rw [up_same]; omega
            · rw [up_ne (by omega), up_ne (by omega)]; exact q5
        · rw [up_ne (by omega)] at b1
          have q1 := hz9 b b0 b1
          unfold bsA at q1 ⊢
          rw [up_ne (by omega)]; exact q1
      · refine WOk_far hw (fun j hj => if_neg (by omega)) (fun j j0 j1 => ?_)
        show 0 ≤ (if 0 ≤ j ∧ j < 8 then sft n W j else W j) ∧ (if 0 ≤ j ∧ j < 8 then sft n W j else W j) ≤ 20
        rw [if_pos (by omega)]
        unfold sft
        split
        · omega
        · exact hw.1 (j - n) (by omega) (by omega)
theorem hpW_far {W : Int → Int} (hw : WOk W) (hev : EvW W) : ∀ r : Nat, (r : Int) ≤ W 56 → WOk (hpW W r) ∧ (∀ j : Int, 45 ≤ j → hpW W r j = W j) ∧ hpW W r 20 = W 20 := by
  intro r
  induction r with
  | zero => intro _; exact ⟨hw, fun j _ => rfl, rfl⟩
  | succ r ih =>
    intro hr
    obtain ⟨h1, h2, h3⟩ := ih (by omega)
    have h4 := hev.2 r (by omega) (by omega)
    refine ⟨hapW_WOk h1 h4.2.1.1 h4.2.1.2 h4.2.2, fun j hj => (hapW_far h4.2.1.1 h4.2.1.2 h4.2.2 j hj).trans (h2 j hj), ?_⟩
    rw [← h3]
    show hapW (W (57 + 2 * r)) (W (58 + 2 * r)) (hpW W r) 20 = hpW W r 20
    unfold hapW
    split
    · exact up_ne (by omega)
    · split
      · exact up_ne (by omega)
      · split
        · rename_i c9; exact up_ne (by have := h4.2.2 c9; omega)
        · exact if_neg (by omega)
/-! TAPES: sorts, sizes, items -/
def TpW (S Z I : Int → Int) : Prop := ∀ t : Int, 0 ≤ t → t < 6 → (-1 ≤ S t ∧ S t ≤ 4) ∧ (0 ≤ Z t ∧ Z t ≤ 60) ∧ ∀ k : Int, 0 ≤ k → k < 60 → i64 (I (60 * t + k))
def tpI (I : Int → Int) (t : Int) : Int → Int := fun k => I (60 * t + k)
def zrI (I : Int → Int) (t : Int) : Int → Int := fun j => if 60 * t ≤ j ∧ j < 60 * t + 60 then 0 else I j
def shI (I : Int → Int) (t i o j n : Int) : Int → Int := fun q => if 60 * o + j ≤ q ∧ q < 60 * o + j + n then I (60 * t + i + (q - 60 * o - j)) else I q
