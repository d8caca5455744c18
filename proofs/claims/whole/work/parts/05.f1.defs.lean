theorem kSite {M M2 : Mem} {W' : Int → Int} (h : InvF M) (hr : RelP M2 2 W') (hwk : WOk W') (h79 : M2 79 = W') (hW : ∀ j : Int, 45 ≤ j → W' j = M 79 j) (h20 : M 79 20 ≤ W' 20) (hk : ∀ i : Nat, i ≤ 1 ∨ (12 ≤ i ∧ i ≤ 40) ∨ i = 62 ∨ i = 63 ∨ (66 ≤ i ∧ i ≤ 77) ∨ i = 80 ∨ i = 82 ∨ 92 ≤ i → M2 i = M i) (h2 : M2 78 2 = M 78 2) (h5 : M2 78 5 = M 78 5) : InvP M2 :=
  ⟨k1w (M := M) h79 hr hwk, k2w h (fun i hi => hk i (by omega)) h79 hW h20, k3 h (fun i hi => hk i (by omega)), k4 h (by rw [hk 12 (by omega)]) (by rw [hk 15 (by omega)]) (by rw [hk 18 (by omega)]), k5 h (by rw [hk 0 (by omega)]) h2, k6 h (by rw [hk 62 (by omega)]) (hk 63 (by omega)) h5 (hk 82 (by omega)), k7 h (fun i hi => hk i (by omega))⟩
theorem WOk_tell {W : Int → Int} (hw : WOk W) {h v : Int} (h0 : 0 ≤ h) (h1 : h < 12) (v0 : 0 ≤ v) (v1 : v ≤ 999) : WOk (up W (8 + h) v) := by
  obtain ⟨hR, hT9, hm9, hq9, hz9⟩ := hw
  refine ⟨fun j j0 j1 => by rw [up_ne (by omega)]; exact hR j j0 j1, fun j j0 j1 => ?_, by rw [up_ne (by omega)]; exact hm9, fun d d0 d1 => ?_, fun d d0 d1 => ?_⟩
  · unfold tdW
    by_cases e9 : j = h
    · rw [e9, up_same]; omega
    · rw [up_ne (by omega)]; exact hT9 j j0 j1
  · obtain ⟨q1, q2, q3, q4, q5⟩ := hq9 d d0 d1
    simp only [bsK, bsN] at q3 q4 q5 ⊢
    refine ⟨fun j j0 j1 => by unfold bsA; rw [up_ne (by omega)]; exact q1 j j0 j1, ?_⟩
    rw [up_ne (by omega), up_ne (by omega), up_ne (by omega)]
    exact ⟨q2, q3, q4, q5⟩
  · rw [up_ne (by omega)] at d1
    have q1 := hz9 d d0 d1
    unfold bsA at q1 ⊢
    rw [up_ne (by omega)]; exact q1
theorem dgn_rng {v : Int} (h : 1 ≤ v ∧ v ≤ 99999) : 1 ≤ dgn v ∧ dgn v ≤ 5 := by
  unfold dgn; (repeat' split) <;> omega
theorem dgt_rng (v : Int) : bdf (dgt v (dgn v)) (dgn v) 0 9 := fun k k0 k1 => by
  unfold dgt; split <;> omega
theorem dgt_top {v : Int} (h : 1 ≤ v ∧ v ≤ 99999) : 0 < dgt v (dgn v) 0 := by
  have h1 := dgn_rng h
  unfold dgt
  rw [if_pos (by omega)]
  unfold dgn
  (repeat' split) <;> simp [p10] <;> omega
theorem jdF_100 {it ou : Int → Int} {i n : Int} (hn : n ≤ 0) : jdF it ou i n 30 0 = 100 := by
  rw [jdF, if_neg (by omega)]; rfl
