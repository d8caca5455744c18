theorem fed_6 {M : Mem} (hI : InvF M) {c : Int} (h0 : 0 ≤ c ∧ c ≤ 127) (hl : M 78 5 < 100) : P6 (up1 (up1 (up1 (up1 M 63 (up (M 63) (M 62 1) c)) 62 (up (M 62) 1 (M 62 1 + 1))) 82 (up (M 82) (M 78 5) c)) 78 (up (M 78) 5 (M 78 5 + 1))) := by
  obtain ⟨⟨t1, t2⟩, t3, t4⟩ := hI.2.2.2.2.2.1
  refine ⟨⟨?_, fun k k0 k1 => ?_⟩, ?_, ?_⟩
  · show M 62 1 + 1 = M 78 5 + 1
    rw [t1]
  · show up (M 63) (M 62 1) c k = up (M 82) (M 78 5) c k
    rw [t1, t2]
  · show 0 ≤ M 78 5 + 1 ∧ M 78 5 + 1 ≤ 100
    omega
  · show bdf (up (M 82) (M 78 5) c) 100 0 127
    exact bdf_up t4 h0.1 h0.2
theorem rd_6 {M M2 : Mem} (hI : InvF M) (hk : ∀ i : Nat, i = 63 ∨ i = 82 → M2 i = M i) (h62 : M2 62 1 = 0) (h785 : M2 78 5 = 0) : P6 M2 := by
  obtain ⟨⟨t1, t2⟩, t3, t4⟩ := hI.2.2.2.2.2.1
  refine ⟨⟨by rw [h62, h785], fun k k0 k1 => by rw [hk 63 (by omega), hk 82 (by omega), t2]⟩, by rw [h785]; decide, by rw [hk 82 (by omega)]; exact t4⟩
theorem rd_0 {M M2 : Mem} (hI : InvF M) (hk : ∀ i : Nat, i ≤ 40 ∨ i = 63 ∨ (66 ≤ i ∧ i ≤ 80 ∧ i ≠ 78) ∨ i = 82 ∨ 92 ≤ i → M2 i = M i) (h62 : M2 62 1 = 0) (h785 : M2 78 5 = 0) (h2 : M2 78 2 = M 78 2) : InvP M2 :=
  ⟨k1 hI (fun i hi => hk i (by omega)), k2 hI (fun i hi => hk i (by omega)), k3 hI (fun i hi => hk i (by omega)), k4 hI (by rw [hk 12 (by omega)]) (by rw [hk 15 (by omega)]) (by rw [hk 18 (by omega)]), k5 hI (by rw [hk 0 (by omega)]) h2, rd_6 hI (fun i hi => hk i (by omega)) h62 h785, k7 hI (fun i hi => hk i (by omega))⟩
/-- where the k-th CLAUSE from p on is -/
def cqs (T : Int → Int) (L p : Int) : Nat → Int
  | 0 => p
  | k + 1 => (clR T L (cqs T L p k)).2.1 + 1
theorem cqs_s (T : Int → Int) (L p : Int) : ∀ k : Nat, cqs T L p (k + 1) = cqs T L ((clR T L p).2.1 + 1) k := by
  intro k
  induction k with
  | zero => rfl
  | succ k ih =>
    show (clR T L (cqs T L p (k + 1))).2.1 + 1 = (clR T L (cqs T L ((clR T L p).2.1 + 1) k)).2.1 + 1
    rw [ih]
theorem dcW_20 {s n : Int} {V W : Int → Int} (hc : ClOk s n V) : W 20 ≤ (dcW s n V W).2 20 := by
  rcases hc with ⟨rfl, x2, -⟩ | ⟨rfl, x2, -⟩ | ⟨rfl, x2, -⟩ | ⟨rfl, x2, -⟩
  · rw [dcW_b]; split
    · show W 20 ≤ comW W n V 20
      unfold comW; rw [if_pos rfl]; omega
    · exact Int.le_refl _
  · rw [dcW_k]; split
    · rename_i c9
      show W 20 ≤ up (up W (21 + 8 * V 0 + 6) (V 1)) (21 + 8 * V 0 + 7) (V 2) 20
      have h1 := c9.1.1
      rw [up_ne (by omega), up_ne (by omega)]; exact Int.le_refl _
    · exact Int.le_refl _
  · rw [dcW_w]; split
    · show W 20 ≤ lay (cpN V n) W 20
      unfold lay; rw [if_neg (by omega)]; exact Int.le_refl _
    · exact Int.le_refl _
  · rw [dcW_t (by decide) (by decide) (by decide)]
    show W 20 ≤ ldT (cpN V n) W 20
    unfold ldT; rw [if_neg (by omega)]; exact Int.le_refl _
theorem ffR_ok {T : Int → Int} {L : Int} : ∀ (k : Nat) (p : Int), (0 ≤ p ∧ p ≤ L) → ffR T L k p = -1 → ∀ j : Nat, j < ncl T L k p → (clR T L (cqs T L p j)).1 = 1 := by
  intro k
  induction k with
  | zero => intro p hp h; exact absurd (show p = -1 from h) (by omega)
  | succ k ih =>
    intro p hp h j hj
    have hc := clR_rng (T := T) hp
    rw [ffR] at h
    rw [ncl] at hj
    split at h
    · omega
    · split at h
      · rename_i x1 x2
        rw [if_pos x2] at hj
        rcases (show j = 0 by omega) with rfl
        show (clR T L p).1 = 1
        omega
      · rename_i x1 x2
        rw [if_neg x2] at hj
        split at h
        · omega
        · rename_i x3
          have h59 : sgn T L (clR T L p).2.1 = 59 := by
            by_cases q : sgn T L (clR T L p).2.1 = 59
            · exact q
            · exact absurd (Or.inr q) x3
          cases j with
          | zero => show (clR T L p).1 = 1; omega
          | succ j => rw [cqs_s]; exact ih _ (by omega) h j (by omega)
theorem doN_ok {T : Int → Int} {L : Int} : ∀ (n : Nat) (p : Int) (W : Int → Int), WOk W → (∀ k : Nat, k < n → (clR T L (cqs T L p k)).1 = 1) → WOk (doN T L n p W).2 ∧ (∀ j : Int, 45 ≤ j → (doN T L n p W).2 j = W j) ∧ W 20 ≤ (doN T L n p W).2 20 := by
  intro n
  induction n with
  | zero => intro p W hw _; exact ⟨hw, fun j _ => rfl, Int.le_refl _⟩
  | succ n ih =>
    intro p W hw hc
    have h0 := clR_ok (hc 0 (by omega))
    have h1 := dcW_WOk hw h0
    have h2 := ih ((clR T L p).2.1 + 1) _ h1 (fun k hk => by have := hc (k + 1) (by omega); rw [cqs_s] at this; exact this)
    refine ⟨h2.1, fun j hj => (h2.2.1 j hj).trans (dcW_far hw.2.2.1 j hj), Int.le_trans (dcW_20 h0) h2.2.2⟩
theorem rd_1 {M M2 : Mem} {n : Nat} (hI : InvF M) (hk : ∀ i : Nat, i ≤ 1 ∨ (12 ≤ i ∧ i ≤ 40) ∨ i = 63 ∨ (66 ≤ i ∧ i ≤ 77) ∨ i = 80 ∨ i = 82 ∨ 92 ≤ i → M2 i = M i) (hr : RelP M2 2 (doN (M 82) (M 78 5) n 0 (M 79)).2) (h79 : M2 79 = (doN (M 82) (M 78 5) n 0 (M 79)).2) (h62 : M2 62 1 = 0) (h785 : M2 78 5 = 0) (h2 : M2 78 2 = M 78 2) (hc : ∀ k : Nat, k < n → (clR (M 82) (M 78 5) (cqs (M 82) (M 78 5) 0 k)).1 = 1) : InvP M2 := by
  have h := doN_ok n 0 (M 79) hI.1.2 hc
  exact ⟨k1w (M := M) h79 hr h.1, k2w hI (fun i hi => hk i (by omega)) h79 h.2.1 h.2.2, k3 hI (fun i hi => hk i (by omega)), k4 hI (by rw [hk 12 (by omega)]) (by rw [hk 15 (by omega)]) (by rw [hk 18 (by omega)]), k5 hI (by rw [hk 0 (by omega)]) h2, rd_6 hI (fun i hi => hk i (by omega)) h62 h785, k7 hI (fun i hi => hk i (by omega))⟩
