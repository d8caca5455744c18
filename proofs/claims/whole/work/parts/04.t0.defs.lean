theorem up_c3 (f : Int → Int) (a a' b c : Int) : up (up (up (up f 6 a) 7 b) 9 c) 6 a' = up (up (up f 6 a') 7 b) 9 c := by
  funext j; unfold up; by_cases h1 : j = 6 <;> by_cases h2 : j = 7 <;> by_cases h3 : j = 9 <;> simp [h1, h2, h3]
theorem up_c4 (f : Int → Int) (a a' b c c' : Int) : up (up (up (up (up f 6 a) 7 b) 9 c) 6 a') 9 c' = up (up (up f 6 a') 7 b) 9 c' := by
  rw [up_c3, up_up]
theorem up_c5 (f : Int → Int) (a a' b b' c c' : Int) : up (up (up (up (up (up f 6 a) 7 b) 9 c) 6 a') 7 b') 9 c' = up (up (up f 6 a') 7 b') 9 c' := by
  funext j; unfold up; by_cases h1 : j = 6 <;> by_cases h2 : j = 7 <;> by_cases h3 : j = 9 <;> simp [h1, h2, h3]
theorem up1_sw {M : Mem} {i j : Nat} {f h : Int → Int} (hij : i ≠ j) : up1 (up1 M i f) j h = up1 (up1 M j h) i f := by
  funext k
  by_cases h1 : k = i
  · subst h1; rw [up1_ne hij, up1_same, up1_same]
  · by_cases h2 : k = j
    · subst h2; rw [up1_same, up1_ne h1, up1_same]
    · rw [up1_ne h2, up1_ne h1, up1_ne h1, up1_ne h2]
theorem zz_k {M : Mem} {F X : Int → Int} : up1 (up1 M 83 F) 78 X = up1 (up1 (up1 (up1 M 83 F) 78 X) 81 (M 81)) 79 (M 79) := by
  funext j
  by_cases h1 : j = 79
  · subst h1; rw [up1_same, up1_ne (by decide), up1_ne (by decide)]
  · rw [up1_ne (i := 79) h1]
    by_cases h2 : j = 81
    · subst h2; rw [up1_same, up1_ne (by decide), up1_ne (by decide)]
    · rw [up1_ne (i := 81) h2]
theorem ClOk_cg {s n : Int} {V V' : Int → Int} (hc : ClOk s n V) (h : ∀ j : Int, 0 ≤ j → j < n → V j = V' j) : ClOk s n V' := by
  have hb9 : ∀ hi : Int, bdf V n 0 hi → bdf V' n 0 hi := fun hi q j j0 j1 => by rw [← h j j0 j1]; exact q j j0 j1
  rcases hc with ⟨x1, x2, x3⟩ | ⟨x1, x2, x3⟩ | ⟨x1, x2, x3⟩ | ⟨x1, x2, x3⟩
  · exact Or.inl ⟨x1, x2, hb9 _ x3⟩
  · exact Or.inr (Or.inl ⟨x1, x2, hb9 _ x3⟩)
  · exact Or.inr (Or.inr (Or.inl ⟨x1, x2, hb9 _ x3⟩))
  · exact Or.inr (Or.inr (Or.inr ⟨x1, x2, hb9 _ x3⟩))
theorem clR_cnt {T : Int → Int} {L p : Int} (h : (clR T L p).1 = 1) : (clR T L p).2.2 ≤ 12 := by
  have hc := clR_ok h
  rcases hc with ⟨x1, x2, x3⟩ | ⟨x1, x2, x3⟩ | ⟨x1, x2, x3⟩ | ⟨x1, x2, x3⟩ <;> omega
theorem StC_s {G T : Int → Int} {L m p : Int} (hst : ∀ k : Nat, (k : Int) < m → StC G T L (cps T L k) k ∧ (clR T L (cps T L k)).1 = 1) (hm9 : 0 ≤ m) (h1 : (clR T L p).1 = 1) (hp : p = cps T L m.toNat) : ∀ k : Nat, (k : Int) < m + 1 → StC (clS G m (sgn T L p) (clR T L p).2.2 (clV T L p)) T L (cps T L k) k ∧ (clR T L (cps T L k)).1 = 1 := by
  intro k hk
  by_cases e9 : (k : Int) = m
  · have e8 : k = m.toNat := by omega
    subst e8
    rw [← hp]
    refine ⟨⟨?_, ?_, fun j j0 j1 => ?_⟩, h1⟩
    · unfold clS; rw [if_pos (by omega)]
    · unfold clS; rw [if_neg (by omega), if_pos (by omega)]
    · unfold clS; rw [if_neg (by omega), if_neg (by omega), if_pos (by omega)]; congr 1; omega
  · have q := hst k (by omega)
    have q2 := clR_cnt q.2
    obtain ⟨⟨q3, q4, q5⟩, q6⟩ := q
    have hf9 : ∀ j : Int, 14 * (k : Int) ≤ j → j < 14 * m → clS G m (sgn T L p) (clR T L p).2.2 (clV T L p) j = G j := fun j j0 j1 => by
      unfold clS; rw [if_neg (by omega), if_neg (by omega), if_neg (by omega)]
    refine ⟨⟨?_, ?_, fun j j0 j1 => ?_⟩, q6⟩
    · rw [hf9 _ (by omega) (by omega)]; exact q3
    · rw [hf9 _ (by omega) (by omega)]; exact q4
    · rw [hf9 _ (by omega) (by omega)]; exact q5 j j0 j1
theorem doN_s {T : Int → Int} {L p d : Int} {n : Nat} {Q : Int → Int} : (d + (doN T L (n + 1) p Q).1, (doN T L (n + 1) p Q).2) = (d + ((dcW (sgn T L p) (clR T L p).2.2 (clV T L p) Q).1 + (doN T L n ((clR T L p).2.1 + 1) (dcW (sgn T L p) (clR T L p).2.2 (clV T L p) Q).2).1), (doN T L n ((clR T L p).2.1 + 1) (dcW (sgn T L p) (clR T L p).2.2 (clV T L p) Q).2).2) := rfl
