theorem some_iv {a b : Int} (h : a = b) : some (iv a) = some (iv b) := by rw [h]
theorem some_jv {a b : Int} (h : a = b) : some (jv a) = some (jv b) := by rw [h]
theorem basF {M : Mem} (hI : InvF M) {b : Int} (h0 : 0 ≤ b) (h1 : b < 3) : BasF M (basQ b) (M 79) b := by
  rcases (show b = 0 ∨ b = 1 ∨ b = 2 by omega) with rfl | rfl | rfl
  · exact hI.1.1.2.2.2.1
  · exact hI.1.1.2.2.2.2.1
  · exact hI.1.1.2.2.2.2.2
theorem tpF {M : Mem} (hI : InvF M) {t : Int} (h0 : 0 ≤ t) (h1 : t < 6) : TpF M (tpQ t) t := by
  obtain ⟨a, b, c, d, e, f⟩ := hI.2.2.2.2.2.2.1
  rcases (show t = 0 ∨ t = 1 ∨ t = 2 ∨ t = 3 ∨ t = 4 ∨ t = 5 by omega) with rfl | rfl | rfl | rfl | rfl | rfl
  · exact a
  · exact b
  · exact c
  · exact d
  · exact e
  · exact f
theorem fl_cg {R R' A A' : Int → Int} (hR : ∀ m : Nat, m < 8 → R m = R' m) (hA : ∀ k : Int, 0 ≤ k → k < 5 → A k = A' k) : fl R A 8 = fl R' A' 8 := by
  funext h
  exact flw_cg 8 hR hA
theorem jnw_cg {R R' : Int → Int} {A A' : Nat → Int → Int} {K K' N N' : Nat → Int} (hR : ∀ m : Nat, m < 8 → R m = R' m) : ∀ n : Nat, (∀ b : Nat, b < n → (∀ k : Int, 0 ≤ k → k < 5 → A b k = A' b k) ∧ K b = K' b ∧ N b = N' b) → jnw R A K N n = jnw R' A' K' N' n := by
  intro n
  induction n with
  | zero => intro _; rfl
  | succ n ih =>
    intro h
    have h1 := h n (by omega)
    funext j
    show jnw R A K N n j + otp (K n) (N n) (fl R (A n) 8) j = jnw R' A' K' N' n j + otp (K' n) (N' n) (fl R' (A' n) 8) j
    rw [ih (fun b hb => h b (by omega)), h1.2.1, h1.2.2, fl_cg hR h1.1]
/-- JOINED by other rain -/
def jnRW (W R : Int → Int) : Int → Int := jnw R (fun b => bsA W b) (fun b => bsK W b) (fun b => bsN W b) (W 20).toNat
theorem sel3_b {M : Mem} (hI : InvF M) (b : Nat) (hb : b < 3) : sel3 (M 6) (M 8) (M 10) b = bsA (M 79) b ∧ sel3 (M 5 2) (M 7 2) (M 9 2) b = bsK (M 79) b ∧ sel3 (M 5 3) (M 7 3) (M 9 3) b = bsN (M 79) b := by
  obtain ⟨b1, b2, b3, b4⟩ := hI.1.1.2.2.2.1
  obtain ⟨c1, c2, c3, c4⟩ := hI.1.1.2.2.2.2.1
  obtain ⟨d1, d2, d3, d4⟩ := hI.1.1.2.2.2.2.2
  rcases (show b = 0 ∨ b = 1 ∨ b = 2 by omega) with rfl | rfl | rfl
  · exact ⟨b4, b2, b3⟩
  · exact ⟨c4, c2, c3⟩
  · exact ⟨d4, d2, d3⟩
theorem jnR_W {M : Mem} (hI : InvF M) (R : Int → Int) : jnR M R = jnRW (M 79) R := by
  unfold jnR jnRW
  have e1 : M 2 2 = M 79 20 := hI.1.1.1
  have hm := hI.1.2.2.2.1
  rw [e1]
  exact jnw_cg (fun _ _ => rfl) _ (fun b hb => by
    have h1 := sel3_b hI b (by omega)
    exact ⟨fun k _ _ => by rw [h1.1], h1.2.1, h1.2.2⟩)
theorem jnS_W {M : Mem} (hI : InvF M) : jnS M 2 (M 2 2).toNat = jnW (M 79) := by
  have h1 := jnR_W hI (M 3)
  have e3 : M 3 = M 79 := hI.1.1.2.1
  rw [e3] at h1
  show jnw (M 3) (sel3 (M 6) (M 8) (M 10)) (sel3 (M 5 2) (M 7 2) (M 9 2)) (sel3 (M 5 3) (M 7 3) (M 9 3)) (M 2 2).toNat = jnW (M 79)
  rw [e3]; exact h1
theorem jnW_far {W V : Int → Int} (hm : W 20 ≤ 3) (h : ∀ j : Int, 8 ≤ j → V j = W j) : jnW V = jnRW W V := by
  unfold jnW jnN jnRW
  rw [h 20 (by decide)]
  exact jnw_cg (fun _ _ => rfl) _ (fun b hb => ⟨fun k k0 k1 => by unfold bsA; exact h _ (by omega), h _ (by omega), h _ (by omega)⟩)
theorem pkR_W {M : Mem} (hI : InvF M) {V : Int → Int} (h : ∀ j : Int, 8 ≤ j → V j = M 79 j) : pkR M V = pkW V := by
  unfold pkR pkW
  rw [jnR_W hI, jnW_far hI.1.2.2.2.1.2 h]
theorem oda_cg {f f' : Int → Int} {l : Int} : ∀ n : Nat, (∀ v : Nat, v < n → f v = f' v) → oda f l n = oda f' l n := by
  intro n
  induction n with
  | zero => intro _; rfl
  | succ n ih => intro h; rw [oda, oda, ih (fun v hv => h v (by omega)), h n (by omega)]
theorem ftN_cg {f f' : Int → Int} : ∀ n : Nat, (∀ k : Nat, k < n → f (20 - k) = f' (20 - k)) → ftN f n = ftN f' n ∧ ftL f n = ftL f' n := by
  intro n
  induction n with
  | zero => intro _; exact ⟨rfl, rfl⟩
  | succ n ih =>
    intro h
    obtain ⟨h1, h2⟩ := ih (fun k hk => h k (by omega))
    rw [ftN, ftN, ftL, ftL, h1, h2, h n (by omega)]
    exact ⟨rfl, rfl⟩
theorem exI_cg {P P' : Int → Int → Int} {s : Int} {a : Int × Int} : ∀ n : Nat, (∀ t : Nat, t < n → P s (s + 1 + t) = P' s (s + 1 + t)) → exI P s a n = exI P' s a n := by
  intro n
  induction n with
  | zero => intro _; rfl
  | succ n ih => intro h; rw [exI, exI, ih (fun t ht => h t (by omega))]; unfold stp; rw [h n (by omega)]
theorem exO_cg {P P' : Int → Int → Int} {p0 : Int} : ∀ n : Nat, n ≤ 8 → (∀ s t : Int, 0 ≤ s → s < t → t < 8 → P s t = P' s t) → exO P p0 n = exO P' p0 n := by
  intro n
  induction n with
  | zero => intro _ _; rfl
  | succ n ih =>
    intro hn h
    rw [exO, exO, ih (by omega) h]
    exact exI_cg _ (fun t ht => h _ _ (by omega) (by omega) (by omega))
theorem sn5_fot {W J : Int → Int} (hn : W 45 ≤ 5) : fot (sn5 (rwH W 46)) (sn5 (rwN W 46)) J (W 45).toNat 0 = fot (rwH W 46) (rwN W 46) J (W 45).toNat 0 :=
  fot_cg _ _ (by decide) (fun q q0 q1 => by unfold sn5; rw [if_pos (by omega), if_pos (by omega)]; exact ⟨rfl, rfl⟩)
theorem hpW_lo {W : Int → Int} (hw : WOk W) (hr : RwOk W) : ∀ r : Nat, (r : Int) ≤ W 56 → (∀ j : Int, 0 ≤ j → j < 8 → hpW W r j = hpR (rwH W 57) (rwN W 57) W r j) ∧ (∀ b : Int, 0 ≤ b → b < 3 → bsK (hpW W r) b = hpK (rwH W 57) (rwN W 57) b (bsK W b) r ∧ bsN (hpW W r) b = bsN W b ∧ ∀ k : Int, 0 ≤ k → k < 5 → bsA (hpW W r) b k = bsA W b k) := by
  intro r
  induction r with
  | zero => intro _; exact ⟨fun j _ _ => rfl, fun b _ _ => ⟨rfl, rfl, fun k _ _ => rfl⟩⟩
  | succ r ih =>
    intro hn
    obtain ⟨h1, h2⟩ := ih (by omega)
    have q := hr.2.1.2 r (by omega) (by omega)
    have hm := hw.2.2.1
    have eN : rwN W 57 r = W (58 + 2 * r) := by unfold rwN; congr 1; omega
    have eH : rwH W 57 r = W (57 + 2 * r) := rfl
    refine ⟨fun j j0 j1 => ?_, fun b b0 b1 => ?_⟩
    · rw [hpW, hpR, eN, eH]
      have h0 := h1 j j0 j1
      have hn0 := h1 (W (58 + 2 * r)) (by omega) (by omega)
      unfold hapW hapR
      split
      · by_cases e9 : j = W (58 + 2 * r)
        · rw [e9, up_same, up_same, hn0]
        · rw [up_ne e9, up_ne e9]; exact h0
      · split
        · by_cases e9 : j = W (58 + 2 * r)
          · rw [e9, up_same, up_same]
          · rw [up_ne e9, up_ne e9]; exact h0
        · split
          · rename_i c9
            rw [up_ne (by have := q.2.2 c9; omega)]; exact h0
          · show (if 0 ≤ j ∧ j < 8 then sft (W (58 + 2 * r)) (hpW W r) j else hpW W r j) = _
            rw [if_pos ⟨j0, j1⟩]
            unfold sft
            split
            · rfl
            · exact h1 _ (by omega) (by omega)
    · obtain ⟨g1, g2, g3⟩ := h2 b b0 b1
      rw [hpW, hpK, eN, eH]
      have hlo : ∀ j : Int, 21 ≤ j → ¬ (W (57 + 2 * r) = 2 ∧ j = 21 + 8 * W (58 + 2 * r) + 6) → hapW (W (57 + 2 * r)) (W (58 + 2 * r)) (hpW W r) j = hpW W r j := fun j j0 hj => by
        unfold hapW
        split
        · exact up_ne (by omega)
        · split
          · exact up_ne (by omega)
          · split
            · rename_i c9; exact up_ne (fun x => hj ⟨c9, x⟩)
            · exact if_neg (by omega)
      refine ⟨?_, ?_, fun k k0 k1 => ?_⟩
      · by_cases c9 : W (57 + 2 * r) = 2 ∧ W (58 + 2 * r) = b
        · rw [if_pos c9]
          unfold bsK hapW
          rw [if_neg (by omega), if_neg (by omega), if_pos c9.1, c9.2, up_same]
        · rw [if_neg c9, ← g1]
          exact hlo _ (by omega) (by omega)
      · rw [← g2]; exact hlo _ (by omega) (by omega)
      · rw [← g3 k k0 k1]; exact hlo _ (by omega) (by omega)
theorem after_W {M : Mem} (hI : InvF M) : jnK M (hpR (M 16) (M 17) (M 3) (M 15 3).toNat) (hpK (M 16) (M 17) 0 (M 5 2) (M 15 3).toNat) (hpK (M 16) (M 17) 1 (M 7 2) (M 15 3).toNat) (hpK (M 16) (M 17) 2 (M 9 2) (M 15 3).toNat) = jnW (hpW (M 79) (M 79 56).toNat) := by
  have e16 : M 16 = rwH (M 79) 57 := hI.2.1.1.2.1.2.1
  have e17 : M 17 = rwN (M 79) 57 := hI.2.1.1.2.1.2.2
  have e15 : M 15 3 = M 79 56 := hI.2.1.1.2.1.1
  have e3 : M 3 = M 79 := hI.1.1.2.1
  have e2 : M 2 2 = M 79 20 := hI.1.1.1
  have hb := hI.2.1.2.2.1.1
  have hl := hpW_lo hI.1.2 hI.2.1.2 (M 79 56).toNat (by omega)
  have hf := hpW_far hI.1.2 ⟨hb, fun r r0 r1 => by
    have q := hI.2.1.2.2.1.2 r r0 r1
    have hm := hI.1.2.2.2.1
    exact ⟨q.1, q.2.1, fun x => by have := q.2.2 x; omega⟩⟩ (M 79 56).toNat (by omega)
  have hm := hI.1.2.2.2.1
  have s0 := sel3_b hI
  unfold jnK jnW jnN
  rw [hf.2.2, e2, e16, e17, e15, e3]
  refine jnw_cg (fun m hm8 => (hl.1 m (by omega) (by omega)).symm) _ (fun b hb9 => ?_)
  have g := hl.2 b (by omega) (by omega)
  have s1 := s0 b (by omega)
  refine ⟨fun k k0 k1 => ?_, ?_, ?_⟩
  · rw [s1.1]; exact (g.2.2 k k0 k1).symm
  · rw [g.1]
    obtain ⟨b1, b2, b3, b4⟩ := hI.1.1.2.2.2.1
    obtain ⟨c1, c2, c3, c4⟩ := hI.1.1.2.2.2.2.1
    obtain ⟨d1, d2, d3, d4⟩ := hI.1.1.2.2.2.2.2
    have f2 : M 5 2 = bsK (M 79) 0 := b2
    have f3 : M 7 2 = bsK (M 79) 1 := c2
    have f4 : M 9 2 = bsK (M 79) 2 := d2
    rw [f2, f3, f4]
    rcases (show b = 0 ∨ b = 1 ∨ b = 2 by omega) with rfl | rfl | rfl <;> rfl
  · rw [s1.2.2]; exact g.2.1.symm
