theorem pr_feed {M M1 M2 : Mem} {r1 r2 : Option Value} {c : Int} (hI : InvF M) (a1 : ((fun rv M' => (rv = some (iv (-2)) ∧ M' = M ∧ (¬ (0 ≤ c ∧ c ≤ 127))) ∨ (rv = some (iv (-4)) ∧ M' = M ∧ (0 ≤ c ∧ c ≤ 127) ∧ (M 62 1 = 100)) ∨ (rv = some (iv (M 62 1 + 1)) ∧ M' = (up1 (up1 M 63 (up (M 63) (M 62 1) c)) 62 (up (M 62) 1 (M 62 1 + 1))) ∧ (0 ≤ c ∧ c ≤ 127) ∧ (M 62 1 < 100)))) r1 M1) (a2 : ((fun rv M' => (rv = some (iv (-2)) ∧ M' = M1 ∧ (¬ (0 ≤ c ∧ c ≤ 127))) ∨ (rv = some (iv (-4)) ∧ M' = M1 ∧ (0 ≤ c ∧ c ≤ 127) ∧ (M1 78 5 = 100)) ∨ (rv = some (iv (M1 78 5 + 1)) ∧ M' = (up1 (up1 M1 82 (up (M1 82) (M1 78 5) c)) 78 (up (M1 78) 5 (M1 78 5 + 1))) ∧ (0 ≤ c ∧ c ≤ 127) ∧ (M1 78 5 < 100)))) r2 M2) : ∃ x : Int, r1 = some (iv x) ∧ r2 = some (iv x) ∧ InvP M2 := by
  have h20 : M 2 2 = M 79 20 := hI.1.1.1
  have h3 : M 3 = M 79 := hI.1.1.2.1
  have h11 : M 11 = tdW (M 79) := hI.1.1.2.2.1
  have hw := hI.1.2
  have hm9 := hw.2.2.1
  have ht1 : M 62 1 = M 78 5 := hI.2.2.2.2.2.1.1.1
  have htr := hI.2.2.2.2.2.1.2.1
  rcases a1 with ⟨rfl, hM1, xp0⟩ | ⟨rfl, hM1, xp0, xp1⟩ | ⟨rfl, hM1, xp0, xp1⟩
  · skip
    have e78 : M1 78 = M 78 := by rw [hM1]
    have e79 : M1 79 = M 79 := by rw [hM1]
    have e80 : M1 80 = M 80 := by rw [hM1]
    have e82 : M1 82 = M 82 := by rw [hM1]
    have e92 : M1 92 = M 92 := by rw [hM1]
    have e93 : M1 93 = M 93 := by rw [hM1]
    have e94 : M1 94 = M 94 := by rw [hM1]
    try simp only [e78, e79, e80, e82, e92, e93, e94] at a2
    rcases a2 with ⟨rfl, hM2, yp0⟩ | ⟨rfl, hM2, yp0, yp1⟩ | ⟨rfl, hM2, yp0, yp1⟩
    · skip
      refine ⟨_, some_iv (rfl), rfl, ?_⟩
      exact (kAll hI (fun i hi => by rw [hM2]; skip; rw [hM1]) (by rw [hM2]; exact congrFun e78 2) (by rw [hM2]; exact congrFun e78 5))
    · skip
      exfalso; omega
    · skip
      exfalso; omega
  · skip
    have e78 : M1 78 = M 78 := by rw [hM1]
    have e79 : M1 79 = M 79 := by rw [hM1]
    have e80 : M1 80 = M 80 := by rw [hM1]
    have e82 : M1 82 = M 82 := by rw [hM1]
    have e92 : M1 92 = M 92 := by rw [hM1]
    have e93 : M1 93 = M 93 := by rw [hM1]
    have e94 : M1 94 = M 94 := by rw [hM1]
    try simp only [e78, e79, e80, e82, e92, e93, e94] at a2
    rcases a2 with ⟨rfl, hM2, yp0⟩ | ⟨rfl, hM2, yp0, yp1⟩ | ⟨rfl, hM2, yp0, yp1⟩
    · skip
      exfalso; omega
    · skip
      refine ⟨_, some_iv (rfl), rfl, ?_⟩
      exact (kAll hI (fun i hi => by rw [hM2]; skip; rw [hM1]) (by rw [hM2]; exact congrFun e78 2) (by rw [hM2]; exact congrFun e78 5))
    · skip
      exfalso; omega
  · skip
    have e78 : M1 78 = M 78 := by rw [hM1]; (repeat (rw [up1_ne (by first | omega | (unfold basQ; omega) | (unfold tpQ; omega))]))
    have e79 : M1 79 = M 79 := by rw [hM1]; (repeat (rw [up1_ne (by first | omega | (unfold basQ; omega) | (unfold tpQ; omega))]))
    have e80 : M1 80 = M 80 := by rw [hM1]; (repeat (rw [up1_ne (by first | omega | (unfold basQ; omega) | (unfold tpQ; omega))]))
    have e82 : M1 82 = M 82 := by rw [hM1]; (repeat (rw [up1_ne (by first | omega | (unfold basQ; omega) | (unfold tpQ; omega))]))
    have e92 : M1 92 = M 92 := by rw [hM1]; (repeat (rw [up1_ne (by first | omega | (unfold basQ; omega) | (unfold tpQ; omega))]))
    have e93 : M1 93 = M 93 := by rw [hM1]; (repeat (rw [up1_ne (by first | omega | (unfold basQ; omega) | (unfold tpQ; omega))]))
    have e94 : M1 94 = M 94 := by rw [hM1]; (repeat (rw [up1_ne (by first | omega | (unfold basQ; omega) | (unfold tpQ; omega))]))
    try simp only [e78, e79, e80, e82, e92, e93, e94] at a2
    rcases a2 with ⟨rfl, hM2, yp0⟩ | ⟨rfl, hM2, yp0, yp1⟩ | ⟨rfl, hM2, yp0, yp1⟩
    · skip
      exfalso; omega
    · skip
      exfalso; omega
    · skip
      refine ⟨_, some_iv (by rw [ht1]), rfl, ?_⟩
      exact ⟨k1 hI (fun i hi => by rw [hM2]; (repeat (rw [up1_ne (by first | omega | (unfold basQ; omega) | (unfold tpQ; omega))])); rw [hM1]; (repeat (rw [up1_ne (by first | omega | (unfold basQ; omega) | (unfold tpQ; omega))]))), k2 hI (fun i hi => by rw [hM2]; (repeat (rw [up1_ne (by first | omega | (unfold basQ; omega) | (unfold tpQ; omega))])); rw [hM1]; (repeat (rw [up1_ne (by first | omega | (unfold basQ; omega) | (unfold tpQ; omega))]))), k3 hI (fun i hi => by rw [hM2]; (repeat (rw [up1_ne (by first | omega | (unfold basQ; omega) | (unfold tpQ; omega))])); rw [hM1]; (repeat (rw [up1_ne (by first | omega | (unfold basQ; omega) | (unfold tpQ; omega))]))), k4 hI (by rw [hM2, hM1]; rfl) (by rw [hM2, hM1]; rfl) (by rw [hM2, hM1]; rfl), k5 hI (by rw [hM2, hM1]; rfl) (by rw [hM2, hM1]; rfl), (by rw [hM2, hM1]; exact fed_6 hI (by omega) (by omega)), k7 hI (fun i hi => by rw [hM2]; (repeat (rw [up1_ne (by first | omega | (unfold basQ; omega) | (unfold tpQ; omega))])); rw [hM1]; (repeat (rw [up1_ne (by first | omega | (unfold basQ; omega) | (unfold tpQ; omega))])))⟩
theorem pr_read {M M1 M2 : Mem} {r1 r2 : Option Value}  (hI : InvF M) (a1 : ((fun rv M' => (∃ (Z N : Int → Int), rv = some (iv (-10 - (ffR (M 63) (M 62 1) 12 0))) ∧ M' = (up1 (up1 M 62 Z) 64 N) ∧ (0 ≤ (ffR (M 63) (M 62 1) 12 0)) ∧ (Z 1 = 0)) ∨ (∃ (Z N : Int → Int), rv = some (iv (doN (M 63) (M 62 1) (ncl (M 63) (M 62 1) 12 0) 0 (M 79)).1) ∧ M' = (up1 (up1 (up1 (up1 (up1 (up1 (up1 (up1 (up1 (up1 (up1 M 2 (up (M 2) 2 ((doN (M 63) (M 62 1) (ncl (M 63) (M 62 1) 12 0) 0 (M 79)).2 20))) 3 ((doN (M 63) (M 62 1) (ncl (M 63) (M 62 1) 12 0) 0 (M 79)).2)) 5 (vB (M 5) (doN (M 63) (M 62 1) (ncl (M 63) (M 62 1) 12 0) 0 (M 79)).2 0)) 6 (bsA (doN (M 63) (M 62 1) (ncl (M 63) (M 62 1) 12 0) 0 (M 79)).2 0)) 7 (vB (M 7) (doN (M 63) (M 62 1) (ncl (M 63) (M 62 1) 12 0) 0 (M 79)).2 1)) 8 (bsA (doN (M 63) (M 62 1) (ncl (M 63) (M 62 1) 12 0) 0 (M 79)).2 1)) 9 (vB (M 9) (doN (M 63) (M 62 1) (ncl (M 63) (M 62 1) 12 0) 0 (M 79)).2 2)) 10 (bsA (doN (M 63) (M 62 1) (ncl (M 63) (M 62 1) 12 0) 0 (M 79)).2 2)) 11 (tdW (doN (M 63) (M 62 1) (ncl (M 63) (M 62 1) 12 0) 0 (M 79)).2)) 62 Z) 64 N) ∧ ((ffR (M 63) (M 62 1) 12 0) = -1) ∧ (Z 1 = 0)))) r1 M1) (a2 : ((fun rv M' => (∃ (G X : Int → Int), rv = some (iv (-10 - (ffR (M1 82) (M1 78 5) 12 0))) ∧ M' = (up1 (up1 M1 83 G) 78 X) ∧ (0 ≤ (ffR (M1 82) (M1 78 5) 12 0)) ∧ (X 5 = 0) ∧ (∀ j : Int, j ≠ 5 → j ≠ 6 → j ≠ 7 → j ≠ 9 → X j = M1 78 j)) ∨ (∃ (G X D : Int → Int), rv = some (iv (doN (M1 82) (M1 78 5) (ncl (M1 82) (M1 78 5) 12 0) 0 (M1 79)).1) ∧ M' = (up1 (up1 (up1 (up1 M1 83 G) 78 X) 81 D) 79 ((doN (M1 82) (M1 78 5) (ncl (M1 82) (M1 78 5) 12 0) 0 (M1 79)).2)) ∧ ((ffR (M1 82) (M1 78 5) 12 0) = -1) ∧ (X 5 = 0) ∧ (∀ j : Int, j ≠ 5 → j ≠ 6 → j ≠ 7 → j ≠ 9 → X j = M1 78 j)))) r2 M2) : ∃ x : Int, r1 = some (iv x) ∧ r2 = some (iv x) ∧ InvP M2 := by
  have h20 : M 2 2 = M 79 20 := hI.1.1.1
  have h3 : M 3 = M 79 := hI.1.1.2.1
  have h11 : M 11 = tdW (M 79) := hI.1.1.2.2.1
  have hw := hI.1.2
  have hm9 := hw.2.2.1
  have ht1 : M 62 1 = M 78 5 := hI.2.2.2.2.2.1.1.1
  have ht2 : M 63 = M 82 := hI.2.2.2.2.2.1.1.2
  have htr := hI.2.2.2.2.2.1.2.1
  rcases a1 with ⟨x0, x1, rfl, hM1, xp0, xp1⟩ | ⟨x0, x1, rfl, hM1, xp0, xp1⟩
  · skip
    simp only [ht1, ht2] at xp0 hM1 ⊢
    have e78 : M1 78 = M 78 := by rw [hM1]; (repeat (rw [up1_ne (by first | omega | (unfold basQ; omega) | (unfold tpQ; omega))]))
    have e79 : M1 79 = M 79 := by rw [hM1]; (repeat (rw [up1_ne (by first | omega | (unfold basQ; omega) | (unfold tpQ; omega))]))
    have e80 : M1 80 = M 80 := by rw [hM1]; (repeat (rw [up1_ne (by first | omega | (unfold basQ; omega) | (unfold tpQ; omega))]))
    have e82 : M1 82 = M 82 := by rw [hM1]; (repeat (rw [up1_ne (by first | omega | (unfold basQ; omega) | (unfold tpQ; omega))]))
    have e92 : M1 92 = M 92 := by rw [hM1]; (repeat (rw [up1_ne (by first | omega | (unfold basQ; omega) | (unfold tpQ; omega))]))
    have e93 : M1 93 = M 93 := by rw [hM1]; (repeat (rw [up1_ne (by first | omega | (unfold basQ; omega) | (unfold tpQ; omega))]))
    have e94 : M1 94 = M 94 := by rw [hM1]; (repeat (rw [up1_ne (by first | omega | (unfold basQ; omega) | (unfold tpQ; omega))]))
    try simp only [e78, e79, e80, e82, e92, e93, e94] at a2
    rcases a2 with ⟨y0, y1, rfl, hM2, yp0, yp1, yp2⟩ | ⟨y0, y1, y2, rfl, hM2, yp0, yp1, yp2⟩
    · skip
      refine ⟨_, some_iv (rfl), rfl, ?_⟩
      exact (rd_0 hI (fun i hi => by rw [hM2]; (repeat (rw [up1_ne (by first | omega | (unfold basQ; omega) | (unfold tpQ; omega))])); rw [hM1]; (repeat (rw [up1_ne (by first | omega | (unfold basQ; omega) | (unfold tpQ; omega))]))) (by rw [hM2, hM1]; exact xp1) (by rw [hM2, hM1]; exact yp1) (by rw [hM2, hM1]; exact yp2 2 (by decide) (by decide) (by decide) (by decide)))
    · skip
      exfalso; omega
  · skip
    simp only [ht1, ht2] at xp0 hM1 ⊢
    have e78 : M1 78 = M 78 := by rw [hM1]; (repeat (rw [up1_ne (by first | omega | (unfold basQ; omega) | (unfold tpQ; omega))]))
    have e79 : M1 79 = M 79 := by rw [hM1]; (repeat (rw [up1_ne (by first | omega | (unfold basQ; omega) | (unfold tpQ; omega))]))
    have e80 : M1 80 = M 80 := by rw [hM1]; (repeat (rw [up1_ne (by first | omega | (unfold basQ; omega) | (unfold tpQ; omega))]))
    have e82 : M1 82 = M 82 := by rw [hM1]; (repeat (rw [up1_ne (by first | omega | (unfold basQ; omega) | (unfold tpQ; omega))]))
    have e92 : M1 92 = M 92 := by rw [hM1]; (repeat (rw [up1_ne (by first | omega | (unfold basQ; omega) | (unfold tpQ; omega))]))
    have e93 : M1 93 = M 93 := by rw [hM1]; (repeat (rw [up1_ne (by first | omega | (unfold basQ; omega) | (unfold tpQ; omega))]))
    have e94 : M1 94 = M 94 := by rw [hM1]; (repeat (rw [up1_ne (by first | omega | (unfold basQ; omega) | (unfold tpQ; omega))]))
    try simp only [e78, e79, e80, e82, e92, e93, e94] at a2
    rcases a2 with ⟨y0, y1, rfl, hM2, yp0, yp1, yp2⟩ | ⟨y0, y1, y2, rfl, hM2, yp0, yp1, yp2⟩
    · skip
      exfalso; omega
    · skip
      refine ⟨_, some_iv (rfl), rfl, ?_⟩
      exact (rd_1 hI (n := ncl (M 82) (M 78 5) 12 0) (fun i hi => by rw [hM2]; (repeat (rw [up1_ne (by first | omega | (unfold basQ; omega) | (unfold tpQ; omega))])); rw [hM1]; (repeat (rw [up1_ne (by first | omega | (unfold basQ; omega) | (unfold tpQ; omega))]))) (by rw [hM2, hM1]; exact ⟨rfl, fun _ _ _ => rfl, fun _ _ _ => rfl, ⟨rfl, rfl, rfl, fun _ _ _ => rfl⟩, ⟨rfl, rfl, rfl, fun _ _ _ => rfl⟩, ⟨rfl, rfl, rfl, fun _ _ _ => rfl⟩⟩) (by rw [hM2, hM1]; rfl) (by rw [hM2, hM1]; exact xp1) (by rw [hM2, hM1]; exact yp1) (by rw [hM2, hM1]; exact yp2 2 (by decide) (by decide) (by decide) (by decide)) (ffR_ok 12 0 ⟨by decide, htr.1⟩ xp0))
