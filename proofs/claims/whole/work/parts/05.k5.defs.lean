theorem k7t {M M2 : Mem} (hI : InvF M) {t : Int} (t0 : 0 ≤ t) (t1 : t < 6) (hk : ∀ i : Nat, 66 ≤ i ∧ i ≤ 77 → i ≠ tpQ t → i ≠ tpQ t + 1 → M2 i = M i) (h92 : ∀ j : Int, j ≠ t → M2 92 j = M 92 j) (h93 : ∀ j : Int, j ≠ t → M2 93 j = M 93 j) (h94 : ∀ j : Int, 0 ≤ j → j < 6 → j ≠ t → ∀ k : Int, 0 ≤ k → k < 60 → M2 94 (60 * j + k) = M 94 (60 * j + k))
    (ht : TpP M2 (tpQ t) t) (v1 : -1 ≤ M2 92 t ∧ M2 92 t ≤ 4) (v2 : 0 ≤ M2 93 t ∧ M2 93 t ≤ 60) (v3 : ∀ k : Int, 0 ≤ k → k < 60 → i64 (M2 94 (60 * t + k))) (v4 : M2 92 t = -1 → M2 93 t = 0) : P7 M2 := by
  obtain ⟨hT, hV, hZ⟩ := hI.2.2.2.2.2.2
  have one : ∀ (j : Int) (q : Nat), 0 ≤ j → j < 6 → q = tpQ j → TpP M2 q j := by
    intro j q j0 j1 hq
    subst hq
    by_cases q9 : j = t
    · rw [q9]; exact ht
    · have h1 := tpF hI j0 j1
      have n1 : tpQ j ≠ tpQ t := by unfold tpQ; omega
      have n2 : tpQ j ≠ tpQ t + 1 := by unfold tpQ; omega
      have n3 : tpQ j + 1 ≠ tpQ t := by unfold tpQ; omega
      have n4 : tpQ j + 1 ≠ tpQ t + 1 := by unfold tpQ; omega
      have b1 : 66 ≤ tpQ j ∧ tpQ j ≤ 76 := by unfold tpQ; omega
      refine ⟨by rw [hk _ (by omega) n1 n2, h92 j q9]; exact h1.1, by rw [hk _ (by omega) n1 n2, h93 j q9]; exact h1.2.1, fun k k0 k1 => ?_⟩
      rw [hk _ (by omega) n3 n4, h1.2.2]
      unfold tpI
      exact (h94 j j0 j1 q9 k k0 k1).symm
  refine ⟨⟨one 0 66 (by omega) (by omega) rfl, one 1 68 (by omega) (by omega) rfl, one 2 70 (by omega) (by omega) rfl, one 3 72 (by omega) (by omega) rfl, one 4 74 (by omega) (by omega) rfl, one 5 76 (by omega) (by omega) rfl⟩, fun j j0 j1 => ?_, fun j j0 j1 q8 => ?_⟩
  · by_cases q9 : j = t
    · rw [q9]; exact ⟨v1, v2, v3⟩
    · have h1 := hV j j0 j1
      rw [h92 j q9, h93 j q9]
      exact ⟨h1.1, h1.2.1, fun k k0 k1 => by rw [h94 j j0 j1 q9 k k0 k1]; exact h1.2.2 k k0 k1⟩
  · by_cases q9 : j = t
    · rw [q9] at q8 ⊢; exact v4 q8
    · rw [h92 j q9] at q8; rw [h93 j q9]; exact hZ j j0 j1 q8
theorem nrw_rng {s v : Int} (hs : 0 ≤ s ∧ s ≤ 4) (hv : i64 v) : i64 (nrw s v) := by
  unfold nrw
  split
  · have h1 := Int.le_bmod (x := v) (m := 256) (by decide)
    have h2 := Int.bmod_lt (x := v) (m := 256) (by decide)
    omega
  · split
    · have h1 := Int.le_bmod (x := v) (m := 65536) (by decide)
      have h2 := Int.bmod_lt (x := v) (m := 65536) (by decide)
      omega
    · split
      · have h1 := Int.le_bmod (x := v) (m := 4294967296) (by decide)
        have h2 := Int.bmod_lt (x := v) (m := 4294967296) (by decide)
        omega
      · split
        · split <;> omega
        · exact hv
