/-! worlds that are equal where cells look -/
def Ceq (i : Nat) (f f' : Int → Int) : Prop := ((kd i = 11 ∨ kd i = 12) ∧ ∀ k : Int, 0 ≤ k → k < ln i → f k = f' k) ∨ ∀ g : Gl, cellF g i f = cellF g i f'
def Meq (M M' : Mem) : Prop := ∀ i : Nat, i < 95 → Ceq i (M i) (M' i)
theorem wld_eqv {g : Gl} {M M' : Mem} {H : Heap} (h : Meq M M') (hP : va_P g.1 vwCl (wld g M) H) : va_P g.1 vwCl (wld g M') H := by
  intro k q hq
  rcases Nat.lt_or_ge k 95 with h1 | h1
  · have h2 := hP k _ (wld_get _ _ h1)
    rw [wld_get _ _ h1] at hq
    cases hq
    rcases h k h1 with ⟨hk, he⟩ | he
    · rcases hk with hk | hk
      · rw [cellF_11 _ hk] at h2 ⊢
        have e9 : vp_cell (g.2.1 0) (ln k, .inl (fun j : Nat => iI (M k j))) = vp_cell (g.2.1 0) (ln k, .inl (fun j : Nat => iI (M' k j))) := by
          rw [vp_cell_i, vp_cell_i]
          exact arrV_cong (fun j hj => by show Value.int (iI (M k j)) = Value.int (iI (M' k j)); rw [he j (by omega) (by omega)])
        show H[g.2.2 k]? = some (vp_cell _ _)
        rw [← e9]; exact h2
      · rw [cellF_12 _ hk] at h2 ⊢
        have e9 : vp_cell (g.2.1 1) (ln k, .inr (.inl (fun j : Nat => lI (M k j)))) = vp_cell (g.2.1 1) (ln k, .inr (.inl (fun j : Nat => lI (M' k j)))) := by
          rw [vp_cell_l, vp_cell_l]
          exact arrV_cong (fun j hj => by show Value.long (lI (M k j)) = Value.long (lI (M' k j)); rw [he j (by omega) (by omega)])
        show H[g.2.2 k]? = some (vp_cell _ _)
        rw [← e9]; exact h2
    · rw [← he g]; exact h2
  · rw [List.getElem?_eq_none (by rw [wld_len]; exact h1)] at hq; cases hq
theorem v_eqv {z : Fz} {g : Gl} {nL : Nat} {M : Mem} {ls : List (Nat × Value)} {st : List Value} {pc : Nat} (M' : Mem) (h : Meq M M') (kk : V z g nL M' ls st pc) : V z g nL M ls st pc := by
  obtain ⟨p, l, e, R, s, m, args, below, meth, c, cells, slots, Q⟩ := z
  intro H locs la hP hS hl
  exact kk H locs la (wld_eqv h hP) hS hl
theorem ceq_a {i : Nat} {f f' : Int → Int} (h : kd i = 11 ∨ kd i = 12) (he : ∀ k : Int, 0 ≤ k → k < ln i → f k = f' k) : Ceq i f f' := Or.inl ⟨h, he⟩
theorem ceq_e {i : Nat} {f f' : Int → Int} (h : f = f') : Ceq i f f' := Or.inr (fun g => by rw [h])
theorem ceq_0 {i : Nat} {f f' : Int → Int} (h : kd i = 0) (h1 : f 1 = f' 1) (h2 : f 2 = f' 2) (h3 : f 3 = f' 3) : Ceq i f f' := Or.inr (fun g => by rw [cellF_0 _ h, cellF_0 _ h, h1, h2, h3])
theorem ceq_4 {i : Nat} {f f' : Int → Int} (h : kd i = 4) (h2 : f 2 = f' 2) (h3 : f 3 = f' 3) : Ceq i f f' := Or.inr (fun g => by rw [cellF_4 _ h, cellF_4 _ h, h2, h3])
theorem ceq_5 {i : Nat} {f f' : Int → Int} (h : kd i = 5) (h1 : f 1 = f' 1) (h2 : f 2 = f' 2) (h3 : f 3 = f' 3) (h5 : f 5 = f' 5) : Ceq i f f' := Or.inr (fun g => by rw [cellF_5 _ h, cellF_5 _ h, h1, h2, h3, h5])
theorem ceq_6 {i : Nat} {f f' : Int → Int} (h : kd i = 6) (h2 : f 2 = f' 2) : Ceq i f f' := Or.inr (fun g => by rw [cellF_6 _ h, cellF_6 _ h, h2])
theorem ceq_8 {i : Nat} {f f' : Int → Int} (h : kd i = 8) (h1 : f 1 = f' 1) (h2 : f 2 = f' 2) : Ceq i f f' := Or.inr (fun g => by rw [cellF_8 _ h, cellF_8 _ h, h1, h2])
theorem ceq_9 {i : Nat} {f f' : Int → Int} (h : kd i = 9) (h2 : f 2 = f' 2) : Ceq i f f' := Or.inr (fun g => by rw [cellF_9 _ h, cellF_9 _ h, h2])
/-! RAIN, BASINS, TOLD of the class against the row of numbers Q: pointwise, or written over it -/
def BasP (M : Mem) (q : Nat) (Q : Int → Int) (b : Int) : Prop := M q 1 = Q (21 + 8 * b) ∧ M q 2 = bsK Q b ∧ M q 3 = bsN Q b ∧ ∀ k : Int, 0 ≤ k → k < 5 → M (q + 1) k = bsA Q b k
def BasF (M : Mem) (q : Nat) (Q : Int → Int) (b : Int) : Prop := M q 1 = Q (21 + 8 * b) ∧ M q 2 = bsK Q b ∧ M q 3 = bsN Q b ∧ M (q + 1) = bsA Q b
def RelP (M : Mem) (s : Nat) (Q : Int → Int) : Prop := M s 2 = Q 20 ∧ (∀ k : Int, 0 ≤ k → k < 8 → M (s + 1) k = Q k) ∧ (∀ k : Int, 0 ≤ k → k < 12 → M (s + 9) k = tdW Q k) ∧ BasP M (s + 3) Q 0 ∧ BasP M (s + 5) Q 1 ∧ BasP M (s + 7) Q 2
def RelF (M : Mem) (s : Nat) (Q : Int → Int) : Prop := M s 2 = Q 20 ∧ M (s + 1) = Q ∧ M (s + 9) = tdW Q ∧ BasF M (s + 3) Q 0 ∧ BasF M (s + 5) Q 1 ∧ BasF M (s + 7) Q 2
theorem BasF.P {M : Mem} {q : Nat} {Q : Int → Int} {b : Int} (h : BasF M q Q b) : BasP M q Q b := ⟨h.1, h.2.1, h.2.2.1, fun k _ _ => by rw [h.2.2.2]⟩
theorem RelF.P {M : Mem} {s : Nat} {Q : Int → Int} (h : RelF M s Q) : RelP M s Q := ⟨h.1, fun k _ _ => by rw [h.2.1], fun k _ _ => by rw [h.2.2.1], h.2.2.2.1.P, h.2.2.2.2.1.P, h.2.2.2.2.2.P⟩
def vB (f Q : Int → Int) (b : Int) : Int → Int := up (up (up f 1 (Q (21 + 8 * b))) 2 (bsK Q b)) 3 (bsN Q b)
theorem vB_vB (f Q Q' : Int → Int) (b : Int) : vB (vB f Q b) Q' b = vB f Q' b := by
  unfold vB
  funext j; unfold up; by_cases h1 : j = 1 <;> by_cases h2 : j = 2 <;> by_cases h3 : j = 3 <;> simp [h1, h2, h3]
def cnQ (M : Mem) (s : Nat) (Q : Int → Int) : Mem := up1 (up1 (up1 (up1 (up1 (up1 (up1 (up1 (up1 M s (up (M s) 2 (Q 20))) (s + 1) Q) (s + 3) (vB (M (s + 3)) Q 0)) (s + 4) (bsA Q 0)) (s + 5) (vB (M (s + 5)) Q 1)) (s + 6) (bsA Q 1)) (s + 7) (vB (M (s + 7)) Q 2)) (s + 8) (bsA Q 2)) (s + 9) (tdW Q)
theorem cnQ_of {M1 M : Mem} {Q : Int → Int} (h : RelP M1 2 Q) (ho : ∀ i : Nat, i < 2 ∨ i = 4 ∨ 11 < i → M1 i = M i) : Meq M1 (cnQ M 2 Q) := by
  obtain ⟨a1, a2, a3, ⟨b1, b2, b3, b4⟩, ⟨c1, c2, c3, c4⟩, ⟨d1, d2, d3, d4⟩⟩ := h
  intro i _
  by_cases y2 : i = 2
  · subst y2; exact ceq_6 rfl a1
  by_cases y3 : i = 3
  · subst y3; exact ceq_a (Or.inl rfl) a2
  by_cases y5 : i = 5
  · subst y5; exact ceq_0 rfl b1 b2 b3
  by_cases y6 : i = 6
  · subst y6; exact ceq_a (Or.inl rfl) b4
  by_cases y7 : i = 7
  · subst y7; exact ceq_0 rfl c1 c2 c3
  by_cases y8 : i = 8
  · subst y8; exact ceq_a (Or.inl rfl) c4
  by_cases y9 : i = 9
  · subst y9; exact ceq_0 rfl d1 d2 d3
  by_cases y10 : i = 10
  · subst y10; exact ceq_a (Or.inl rfl) d4
  by_cases y11 : i = 11
  · subst y11; exact ceq_a (Or.inl rfl) a3
  refine ceq_e ?_
  rw [ho i (by omega)]
  unfold cnQ
  rw [up1_ne (by omega), up1_ne (by omega), up1_ne (by omega), up1_ne (by omega), up1_ne (by omega), up1_ne (by omega), up1_ne (by omega), up1_ne (by omega), up1_ne (by omega)]
theorem RelF.site {M : Mem} {Q : Int → Int} (h : RelF M 2 Q) (hw : WOk Q) : SiteOk M 2 := by
  obtain ⟨a1, a2, a3, ⟨b1, b2, b3, b4⟩, ⟨c1, c2, c3, c4⟩, ⟨d1, d2, d3, d4⟩⟩ := h
  obtain ⟨hR, -, hm9, hq9, -⟩ := hw
  have q0 := hq9 0 (by omega) (by omega)
  have q1 := hq9 1 (by omega) (by omega)
  have q2 := hq9 2 (by omega) (by omega)
  refine ⟨?_, ?_, ⟨?_, ?_, ?_, ?_⟩, ⟨?_, ?_, ?_, ?_⟩, ⟨?_, ?_, ?_, ?_⟩⟩
  · rw [a2]; exact hR
  · rw [a1]; exact hm9
  · rw [b4]; exact q0.1
  · rw [b1]; exact q0.2.1
  · rw [b2]; exact q0.2.2.1
  · rw [b3]; exact q0.2.2.2.1
  · rw [c4]; exact q1.1
  · rw [c1]; exact q1.2.1
  · rw [c2]; exact q1.2.2.1
  · rw [c3]; exact q1.2.2.2.1
  · rw [d4]; exact q2.1
  · rw [d1]; exact q2.2.1
  · rw [d2]; exact q2.2.2.1
  · rw [d3]; exact q2.2.2.2.1
theorem RelF.told {M : Mem} {Q : Int → Int} (h : RelF M 2 Q) (hw : WOk Q) : bdf (M 11) 12 0 999 := by
  have h1 : M 11 = tdW Q := h.2.2.1
  rw [h1]; exact hw.2.1
/-! what calls do to it -/
theorem BasP_far {M M1 : Mem} {q : Nat} {Q Q' : Int → Int} {b : Int} (h : BasP M q Q b) (h1 : M1 q = M q) (h2 : M1 (q + 1) = M (q + 1)) (hQ : ∀ k : Int, 0 ≤ k → k < 8 → Q' (21 + 8 * b + k) = Q (21 + 8 * b + k)) : BasP M1 q Q' b := by
  obtain ⟨b1, b2, b3, b4⟩ := h
  unfold bsK bsN at *
  have z0 := hQ 0 (by omega) (by omega)
  rw [Int.add_zero] at z0
  refine ⟨by rw [h1, z0]; exact b1, by rw [h1]; unfold bsK; rw [hQ 6 (by omega) (by omega)]; exact b2, by rw [h1]; unfold bsN; rw [hQ 7 (by omega) (by omega)]; exact b3, fun k k0 k1 => ?_⟩
  rw [h2, b4 k k0 k1]
  have z := hQ (1 + k) (by omega) (by omega)
  unfold bsA
  rw [show 21 + 8 * b + 1 + k = 21 + 8 * b + (1 + k) by omega, z]
/-- RAIN, TOLD alone -/
theorem RelP_low {M M1 : Mem} {Q Q' : Int → Int} (h : RelF M 2 Q) (h1 : M1 2 = M 2) (h5 : M1 5 = M 5) (h6 : M1 6 = M 6) (h7 : M1 7 = M 7) (h8 : M1 8 = M 8) (h9 : M1 9 = M 9) (h10 : M1 10 = M 10) (hQ : ∀ j : Int, 20 ≤ j → Q' j = Q j) (hR : ∀ k : Int, 0 ≤ k → k < 8 → M1 3 k = Q' k) (hT9 : ∀ k : Int, 0 ≤ k → k < 12 → M1 11 k = tdW Q' k) : RelP M1 2 Q' := by
  obtain ⟨a1, a2, a3, b, c, d⟩ := h
  exact ⟨by rw [h1, hQ 20 (by decide)]; exact a1, hR, hT9, BasP_far b.P h5 h6 (fun k k0 k1 => hQ _ (by omega)), BasP_far c.P h7 h8 (fun k k0 k1 => hQ _ (by omega)), BasP_far d.P h9 h10 (fun k k0 k1 => hQ _ (by omega))⟩
theorem RelP_hold {M : Mem} {Q : Int → Int} (h : RelF M 2 Q) {b k n : Int} (hb0 : 0 ≤ b) (hb1 : b < 3) : RelP (up1 M (basQ b) (up (up (M (basQ b)) 2 k) 3 n)) 2 (up (up Q (21 + 8 * b + 6) k) (21 + 8 * b + 7) n) := by
  have ho : ∀ j : Int, j ≠ 21 + 8 * b + 6 → j ≠ 21 + 8 * b + 7 → up (up Q (21 + 8 * b + 6) k) (21 + 8 * b + 7) n j = Q j := fun j h1 h2 => by rw [up_ne h2, up_ne h1]
  obtain ⟨a1, a2, a3, ⟨b1, b2, b3, b4⟩, ⟨c1, c2, c3, c4⟩, ⟨d1, d2, d3, d4⟩⟩ := h
  have hR : ∀ q : Int, 0 ≤ q → q < 8 → M 3 q = up (up Q (21 + 8 * b + 6) k) (21 + 8 * b + 7) n q := fun q q0 q1 => by rw [ho q (by omega) (by omega), a2]
  have hT9 : ∀ q : Int, 0 ≤ q → q < 12 → M 11 q = tdW (up (up Q (21 + 8 * b + 6) k) (21 + 8 * b + 7) n) q := fun q q0 q1 => by
    unfold tdW; rw [ho _ (by omega) (by omega), a3]; rfl
  have hm9 : M 2 2 = up (up Q (21 + 8 * b + 6) k) (21 + 8 * b + 7) n 20 := by rw [ho 20 (by omega) (by omega)]; exact a1
  rcases (show b = 0 ∨ b = 1 ∨ b = 2 by omega) with rfl | rfl | rfl
  · refine ⟨hm9, hR, hT9, ⟨?_, rfl, rfl, fun j j0 j1 => ?_⟩, ?_, ?_⟩
    · exact b1
    · show M 6 j = _; rw [b4]; unfold bsA; rw [ho _ (by omega) (by omega)]
    · exact BasP_far (M := M) (Q := Q) ⟨c1, c2, c3, fun j _ _ => by rw [c4]⟩ rfl rfl (fun k k0 k1 => ho _ (by omega) (by omega))
    · exact BasP_far (M := M) (Q := Q) ⟨d1, d2, d3, fun j _ _ => by rw [d4]⟩ rfl rfl (fun k k0 k1 => ho _ (by omega) (by omega))
  · refine ⟨hm9, hR, hT9, ?_, ⟨?_, rfl, rfl, fun j j0 j1 => ?_⟩, ?_⟩
    · exact BasP_far (M := M) (Q := Q) ⟨b1, b2, b3, fun j _ _ => by rw [b4]⟩ rfl rfl (fun k k0 k1 => ho _ (by omega) (by omega))
    · exact c1
    · show M 8 j = _; rw [c4]; unfold bsA; rw [ho _ (by omega) (by omega)]
    · exact BasP_far (M := M) (Q := Q) ⟨d1, d2, d3, fun j _ _ => by rw [d4]⟩ rfl rfl (fun k k0 k1 => ho _ (by omega) (by omega))
  · refine ⟨hm9, hR, hT9, ?_, ?_, ⟨?_, rfl, rfl, fun j j0 j1 => ?_⟩⟩
    · exact BasP_far (M := M) (Q := Q) ⟨b1, b2, b3, fun j _ _ => by rw [b4]⟩ rfl rfl (fun k k0 k1 => ho _ (by omega) (by omega))
    · exact BasP_far (M := M) (Q := Q) ⟨c1, c2, c3, fun j _ _ => by rw [c4]⟩ rfl rfl (fun k k0 k1 => ho _ (by omega) (by omega))
    · exact d1
    · show M 10 j = _; rw [d4]; unfold bsA; rw [ho _ (by omega) (by omega)]
def basM (M : Mem) (c : Int) (N : Int → Int) : Mem := up1 (up1 (up1 M (basQ (M 2 2)) (up (up (up (M (basQ (M 2 2))) 1 c) 2 0) 3 0)) (basQ (M 2 2) + 1) N) 2 (up (M 2) 2 (M 2 2 + 1))
theorem RelP_basin {M : Mem} {Q : Int → Int} (h : RelF M 2 Q) {c : Int} {N : Int → Int} (h0 : 0 ≤ Q 20) (h3 : Q 20 < 3) (hN9 : ∀ k : Int, 0 ≤ k → k < 5 → N k = cpN N c k) : RelP (basM M c N) 2 (comW Q c N) := by
  obtain ⟨a1, a2, a3, ⟨b1, b2, b3, b4⟩, ⟨c1, c2, c3, c4⟩, ⟨d1, d2, d3, d4⟩⟩ := h
  have hlow : ∀ j : Int, j < 20 → comW Q c N j = Q j := fun j hj => by
    unfold comW; rw [if_neg (by omega), if_neg (by omega), if_neg (by omega), if_neg (by omega)]
  have h20 : comW Q c N 20 = Q 20 + 1 := by unfold comW; rw [if_pos rfl]
  have hoth : ∀ b : Int, 0 ≤ b → b < 3 → b ≠ Q 20 → ∀ k : Int, 0 ≤ k → k < 8 → comW Q c N (21 + 8 * b + k) = Q (21 + 8 * b + k) := fun b b0 b1 hne k k0 k1 => by
    unfold comW; rw [if_neg (by omega), if_neg (by omega), if_neg (by omega), if_neg (by omega)]
  have hA9 : ∀ b : Int, b = Q 20 → ∀ k : Int, 0 ≤ k → k < 5 → bsA (comW Q c N) b k = N k := fun b hb9 k k0 k1 => by
    rw [hN9 k k0 k1]
    unfold bsA comW; rw [if_neg (by omega), if_neg (by omega), if_pos (by omega)]
    congr 1; omega
  have hP9 : ∀ b : Int, b = Q 20 → comW Q c N (21 + 8 * b) = c := fun b hb9 => by unfold comW; rw [if_neg (by omega), if_pos (by omega)]
  have hK9 : ∀ b : Int, b = Q 20 → bsK (comW Q c N) b = 0 := fun b hb9 => by unfold bsK comW; rw [if_neg (by omega), if_neg (by omega), if_neg (by omega), if_pos (by omega)]
  have hM9 : ∀ b : Int, b = Q 20 → bsN (comW Q c N) b = 0 := fun b hb9 => by unfold bsN comW; rw [if_neg (by omega), if_neg (by omega), if_neg (by omega), if_pos (by omega)]
  have hR : ∀ q : Int, 0 ≤ q → q < 8 → M 3 q = comW Q c N q := fun q q0 q1 => by rw [hlow q (by omega), a2]
  have hT9 : ∀ q : Int, 0 ≤ q → q < 12 → M 11 q = tdW (comW Q c N) q := fun q q0 q1 => by
    unfold tdW; rw [hlow _ (by omega), a3]; rfl
  have B0 : BasP M 5 Q 0 := ⟨b1, b2, b3, fun j _ _ => by rw [b4]⟩
  have B1 : BasP M 7 Q 1 := ⟨c1, c2, c3, fun j _ _ => by rw [c4]⟩
  have B2 : BasP M 9 Q 2 := ⟨d1, d2, d3, fun j _ _ => by rw [d4]⟩
  have e9 : M 2 2 = Q 20 := a1
  unfold basM
  rw [e9]
  rcases (show Q 20 = 0 ∨ Q 20 = 1 ∨ Q 20 = 2 by omega) with x9 | x9 | x9
  · rw [x9]
    refine ⟨?_, hR, hT9, ⟨?_, ?_, ?_, fun j j0 j1 => ?_⟩, BasP_far B1 rfl rfl (hoth 1 (by omega) (by omega) (by omega)), BasP_far B2 rfl rfl (hoth 2 (by omega) (by omega) (by omega))⟩
    · rw [h20, x9]; rfl
    · exact (hP9 0 x9.symm).symm
    · exact (hK9 0 x9.symm).symm
    · exact (hM9 0 x9.symm).symm
    · exact (hA9 0 x9.symm j j0 j1).symm
  · rw [x9]
    refine ⟨?_, hR, hT9, BasP_far B0 rfl rfl (hoth 0 (by omega) (by omega) (by omega)), ⟨?_, ?_, ?_, fun j j0 j1 => ?_⟩, BasP_far B2 rfl rfl (hoth 2 (by omega) (by omega) (by omega))⟩
    · rw [h20, x9]; rfl
    · exact (hP9 1 x9.symm).symm
    · exact (hK9 1 x9.symm).symm
    · exact (hM9 1 x9.symm).symm
    · exact (hA9 1 x9.symm j j0 j1).symm
  · rw [x9]
    refine ⟨?_, hR, hT9, BasP_far B0 rfl rfl (hoth 0 (by omega) (by omega) (by omega)), BasP_far B1 rfl rfl (hoth 1 (by omega) (by omega) (by omega)), ⟨?_, ?_, ?_, fun j j0 j1 => ?_⟩⟩
    · rw [h20, x9]; rfl
    · exact (hP9 2 x9.symm).symm
    · exact (hK9 2 x9.symm).symm
    · exact (hM9 2 x9.symm).symm
    · exact (hA9 2 x9.symm j j0 j1).symm
theorem dgv_ok {N : Int → Int} {c : Int} (h1 : 1 ≤ c ∧ c ≤ 5) (hb9 : bdf N c 0 9) (h0 : 0 < N 0) : (1 ≤ dgv N c.toNat ∧ dgv N c.toNat ≤ 99999) ∧ dgn (dgv N c.toNat) = c ∧ ∀ k : Int, 0 ≤ k → k < c → dgt (dgv N c.toNat) c k = N k := by
  have x0 := hb9 0 (by omega) (by omega)
  rcases (show c = 1 ∨ c = 2 ∨ c = 3 ∨ c = 4 ∨ c = 5 by omega) with rfl | rfl | rfl | rfl | rfl
  · have e9 : dgv N (1 : Int).toNat = N 0 := by
      show 10 * 0 + N (0 : Nat) = N 0
      simp
    rw [e9]
    refine ⟨by omega, by unfold dgn; (repeat' split) <;> omega, fun k k0 k1 => ?_⟩
    rcases (show k = 0 by omega) with rfl
    simp [dgt, p10]; omega
  · have x1 := hb9 1 (by omega) (by omega)
    have e9 : dgv N (2 : Int).toNat = 10 * N 0 + N 1 := by
      show 10 * (10 * 0 + N (0 : Nat)) + N (1 : Nat) = _
      simp
    rw [e9]
    refine ⟨by omega, by unfold dgn; (repeat' split) <;> omega, fun k k0 k1 => ?_⟩
    rcases (show k = 0 ∨ k = 1 by omega) with rfl | rfl <;> simp [dgt, p10] <;> omega
  · have x1 := hb9 1 (by omega) (by omega)
    have x2 := hb9 2 (by omega) (by omega)
    have e9 : dgv N (3 : Int).toNat = 10 * (10 * N 0 + N 1) + N 2 := by
      show 10 * (10 * (10 * 0 + N (0 : Nat)) + N (1 : Nat)) + N (2 : Nat) = _
      simp
    rw [e9]
    refine ⟨by omega, by unfold dgn; (repeat' split) <;> omega, fun k k0 k1 => ?_⟩
    rcases (show k = 0 ∨ k = 1 ∨ k = 2 by omega) with rfl | rfl | rfl <;> simp [dgt, p10] <;> omega
  · have x1 := hb9 1 (by omega) (by omega)
    have x2 := hb9 2 (by omega) (by omega)
    have x3 := hb9 3 (by omega) (by omega)
    have e9 : dgv N (4 : Int).toNat = 10 * (10 * (10 * N 0 + N 1) + N 2) + N 3 := by
      show 10 * (10 * (10 * (10 * 0 + N (0 : Nat)) + N (1 : Nat)) + N (2 : Nat)) + N (3 : Nat) = _
      simp
    rw [e9]
    refine ⟨by omega, by unfold dgn; (repeat' split) <;> omega, fun k k0 k1 => ?_⟩
    rcases (show k = 0 ∨ k = 1 ∨ k = 2 ∨ k = 3 by omega) with rfl | rfl | rfl | rfl <;> simp [dgt, p10] <;> omega
  · have x1 := hb9 1 (by omega) (by omega)
    have x2 := hb9 2 (by omega) (by omega)
    have x3 := hb9 3 (by omega) (by omega)
    have x4 := hb9 4 (by omega) (by omega)
    have e9 : dgv N (5 : Int).toNat = 10 * (10 * (10 * (10 * N 0 + N 1) + N 2) + N 3) + N 4 := by
      show 10 * (10 * (10 * (10 * (10 * 0 + N (0 : Nat)) + N (1 : Nat)) + N (2 : Nat)) + N (3 : Nat)) + N (4 : Nat) = _
      simp
    rw [e9]
    refine ⟨by omega, by unfold dgn; (repeat' split) <;> omega, fun k k0 k1 => ?_⟩
    rcases (show k = 0 ∨ k = 1 ∨ k = 2 ∨ k = 3 ∨ k = 4 by omega) with rfl | rfl | rfl | rfl | rfl <;> simp [dgt, p10] <;> omega
theorem dgt_cp {v c : Int} (k : Int) : dgt v c k = cpN (dgt v c) c k := by
  unfold cpN dgt
  by_cases x1 : k < c
  · rw [if_pos x1, if_pos x1]
  · rw [if_neg x1, if_neg x1]
