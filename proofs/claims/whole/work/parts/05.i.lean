theorem pr_see {M M1 M2 : Mem} {r1 r2 : Option Value} {h : Int} {n : Int} (hI : InvF M) (a1 : ((fun rv M' => (rv = some (iv 0) ∧ M' = (up1 M 12 (up (M 12) 3 0)) ∧ (h = -1)) ∨ (rv = some (iv (-1)) ∧ M' = M ∧ (h ≠ -1) ∧ (¬ (0 ≤ h ∧ h ≤ 29))) ∨ (rv = some (iv (-2)) ∧ M' = M ∧ (0 ≤ h ∧ h ≤ 29) ∧ (¬ (0 ≤ n ∧ n ≤ 9999))) ∨ (rv = some (iv (-4)) ∧ M' = M ∧ (0 ≤ h ∧ h ≤ 29) ∧ (0 ≤ n ∧ n ≤ 9999) ∧ (M 12 3 = M 12 2)) ∨ (rv = some (iv (M 12 3 + 1)) ∧ M' = (up1 (up1 (up1 M 13 (up (M 13) (M 12 3) h)) 14 (up (M 14) (M 12 3) n)) 12 (up (M 12) 3 (M 12 3 + 1))) ∧ (0 ≤ h ∧ h ≤ 29) ∧ (0 ≤ n ∧ n ≤ 9999) ∧ (M 12 3 < M 12 2)))) r1 M1) (a2 : ((fun rv M' => (rv = some (iv 0) ∧ M' = (up1 M1 79 (up (M1 79) 45 0)) ∧ (h = -1)) ∨ (rv = some (iv (-1)) ∧ M' = M1 ∧ (h ≠ -1) ∧ (¬ (0 ≤ h ∧ h ≤ 29))) ∨ (rv = some (iv (-2)) ∧ M' = M1 ∧ (0 ≤ h ∧ h ≤ 29) ∧ (¬ (0 ≤ n ∧ n ≤ 9999))) ∨ (rv = some (iv (-4)) ∧ M' = M1 ∧ (0 ≤ h ∧ h ≤ 29) ∧ (0 ≤ n ∧ n ≤ 9999) ∧ (M1 79 45 = 5)) ∨ (rv = some (iv (M1 79 45 + 1)) ∧ M' = (up1 M1 79 (adW (M1 79) 45 46 h n)) ∧ (0 ≤ h ∧ h ≤ 29) ∧ (0 ≤ n ∧ n ≤ 9999) ∧ (M1 79 45 < 5)))) r2 M2) : ∃ x : Int, r1 = some (iv x) ∧ r2 = some (iv x) ∧ InvP M2 := by
  have h20 : M 2 2 = M 79 20 := hI.1.1.1
  have h3 : M 3 = M 79 := hI.1.1.2.1
  have h11 : M 11 = tdW (M 79) := hI.1.1.2.2.1
  have hw := hI.1.2
  have hm9 := hw.2.2.1
  have hq3 : M 12 3 = M 79 45 := hI.2.1.1.1.1
  have hqH : M 13 = sn5 (rwH (M 79) 46) := hI.2.1.1.1.2.1
  have hqN : M 14 = sn5 (rwN (M 79) 46) := hI.2.1.1.1.2.2
  have hq2 : M 12 2 = 5 := hI.2.2.2.1.1
  have hrw := hI.2.1.2
  have hr1 := hrw.1
  have hr2 := hrw.2.1
  have hr3 := hrw.2.2
  have hc1 := hr1.1
  have hc2 := hr2.1
  have hc3 := hr3.1
  rcases a1 with ⟨rfl, hM1, xp0⟩ | ⟨rfl, hM1, xp0, xp1⟩ | ⟨rfl, hM1, xp0, xp1⟩ | ⟨rfl, hM1, xp0, xp1, xp2⟩ | ⟨rfl, hM1, xp0, xp1, xp2⟩
  · skip
    have e78 : M1 78 = M 78 := by rw [hM1]; (repeat (rw [up1_ne (by first | omega | (unfold basQ; omega) | (unfold tpQ; omega))]))
    have e79 : M1 79 = M 79 := by rw [hM1]; (repeat (rw [up1_ne (by first | omega | (unfold basQ; omega) | (unfold tpQ; omega))]))
    have e80 : M1 80 = M 80 := by rw [hM1]; (repeat (rw [up1_ne (by first | omega | (unfold basQ; omega) | (unfold tpQ; omega))]))
    have e82 : M1 82 = M 82 := by rw [hM1]; (repeat (rw [up1_ne (by first | omega | (unfold basQ; omega) | (unfold tpQ; omega))]))
    have e92 : M1 92 = M 92 := by rw [hM1]; (repeat (rw [up1_ne (by first | omega | (unfold basQ; omega) | (unfold tpQ; omega))]))
    have e93 : M1 93 = M 93 := by rw [hM1]; (repeat (rw [up1_ne (by first | omega | (unfold basQ; omega) | (unfold tpQ; omega))]))
    have e94 : M1 94 = M 94 := by rw [hM1]; (repeat (rw [up1_ne (by first | omega | (unfold basQ; omega) | (unfold tpQ; omega))]))
    try simp only [e78, e79, e80, e82, e92, e93, e94] at a2
    rcases a2 with ⟨rfl, hM2, yp0⟩ | ⟨rfl, hM2, yp0, yp1⟩ | ⟨rfl, hM2, yp0, yp1⟩ | ⟨rfl, hM2, yp0, yp1, yp2⟩ | ⟨rfl, hM2, yp0, yp1, yp2⟩
    · skip
      refine ⟨_, some_iv (rfl), rfl, ?_⟩
      exact (kRow hI (W' := (up (M 79) 45 0)) (by rw [hM2]; rfl) (fun j hj => up_ne (by omega)) (fun i hi => by rw [hM2]; (repeat (rw [up1_ne (by first | omega | (unfold basQ; omega) | (unfold tpQ; omega))])); rw [hM1]; (repeat (rw [up1_ne (by first | omega | (unfold basQ; omega) | (unfold tpQ; omega))]))) (by rw [hM2, hM1]; exact rw12_0 hI) (rw12_0k hI) (k3 hI (fun i hi => by rw [hM2]; (repeat (rw [up1_ne (by first | omega | (unfold basQ; omega) | (unfold tpQ; omega))])); rw [hM1]; (repeat (rw [up1_ne (by first | omega | (unfold basQ; omega) | (unfold tpQ; omega))])))) (k4 hI (by rw [hM2, hM1]; rfl) (by rw [hM2, hM1]; rfl) (by rw [hM2, hM1]; rfl)) (k5 hI (by rw [hM2, hM1]; rfl) (by rw [hM2]; exact congrFun e78 2)) (k6 hI (by rw [hM2, hM1]; rfl) (by rw [hM2, hM1]; rfl) (by rw [hM2]; exact congrFun e78 5) (by rw [hM2, hM1]; rfl)) (k7 hI (fun i hi => by rw [hM2]; (repeat (rw [up1_ne (by first | omega | (unfold basQ; omega) | (unfold tpQ; omega))])); rw [hM1]; (repeat (rw [up1_ne (by first | omega | (unfold basQ; omega) | (unfold tpQ; omega))])))))
    · skip
      exfalso; omega
    · skip
      exfalso; omega
    · skip
      exfalso; omega
    · skip
      exfalso; omega
  · skip
    have e78 : M1 78 = M 78 := by rw [hM1]
    have e79 : M1 79 = M 79 := by rw [hM1]
    have e80 : M1 80 = M 80 := by rw [hM1]
    have e82 : M1 82 = M 82 := by rw [hM1]
    have e92 : M1 92 = M 92 := by rw [hM1]
    have e93 : M1 93 = M 93 := by rw [hM1]
    have e94 : M1 94 = M 94 := by rw [hM1]
    try simp only [e78, e79, e80, e82, e92, e93, e94] at a2
    rcases a2 with ⟨rfl, hM2, yp0⟩ | ⟨rfl, hM2, yp0, yp1⟩ | ⟨rfl, hM2, yp0, yp1⟩ | ⟨rfl, hM2, yp0, yp1, yp2⟩ | ⟨rfl, hM2, yp0, yp1, yp2⟩
    · skip
      exfalso; omega
    · skip
      refine ⟨_, some_iv (rfl), rfl, ?_⟩
      exact (kAll hI (fun i hi => by rw [hM2]; skip; rw [hM1]) (by rw [hM2]; exact congrFun e78 2) (by rw [hM2]; exact congrFun e78 5))
    · skip
      exfalso; omega
    · skip
      exfalso; omega
    · skip
      exfalso; omega
  · skip
    have e78 : M1 78 = M 78 := by rw [hM1]
    have e79 : M1 79 = M 79 := by rw [hM1]
    have e80 : M1 80 = M 80 := by rw [hM1]
    have e82 : M1 82 = M 82 := by rw [hM1]
    have e92 : M1 92 = M 92 := by rw [hM1]
    have e93 : M1 93 = M 93 := by rw [hM1]
    have e94 : M1 94 = M 94 := by rw [hM1]
    try simp only [e78, e79, e80, e82, e92, e93, e94] at a2
    rcases a2 with ⟨rfl, hM2, yp0⟩ | ⟨rfl, hM2, yp0, yp1⟩ | ⟨rfl, hM2, yp0, yp1⟩ | ⟨rfl, hM2, yp0, yp1, yp2⟩ | ⟨rfl, hM2, yp0, yp1, yp2⟩
    · skip
      exfalso; omega
    · skip
      exfalso; omega
    · skip
      refine ⟨_, some_iv (rfl), rfl, ?_⟩
      exact (kAll hI (fun i hi => by rw [hM2]; skip; rw [hM1]) (by rw [hM2]; exact congrFun e78 2) (by rw [hM2]; exact congrFun e78 5))
    · skip
      exfalso; omega
    · skip
      exfalso; omega
  · skip
    have e78 : M1 78 = M 78 := by rw [hM1]
    have e79 : M1 79 = M 79 := by rw [hM1]
    have e80 : M1 80 = M 80 := by rw [hM1]
    have e82 : M1 82 = M 82 := by rw [hM1]
    have e92 : M1 92 = M 92 := by rw [hM1]
    have e93 : M1 93 = M 93 := by rw [hM1]
    have e94 : M1 94 = M 94 := by rw [hM1]
    try simp only [e78, e79, e80, e82, e92, e93, e94] at a2
    rcases a2 with ⟨rfl, hM2, yp0⟩ | ⟨rfl, hM2, yp0, yp1⟩ | ⟨rfl, hM2, yp0, yp1⟩ | ⟨rfl, hM2, yp0, yp1, yp2⟩ | ⟨rfl, hM2, yp0, yp1, yp2⟩
    · skip
      exfalso; omega
    · skip
      exfalso; omega
    · skip
      exfalso; omega
    · skip
      refine ⟨_, some_iv (rfl), rfl, ?_⟩
      exact (kAll hI (fun i hi => by rw [hM2]; skip; rw [hM1]) (by rw [hM2]; exact congrFun e78 2) (by rw [hM2]; exact congrFun e78 5))
    · skip
      exfalso; omega
  · skip
    have e78 : M1 78 = M 78 := by rw [hM1]; (repeat (rw [up1_ne (by first | omega | (unfold basQ; omega) | (unfold tpQ; omega))]))
    have e79 : M1 79 = M 79 := by rw [hM1]; (repeat (rw [up1_ne (by first | omega | (unfold basQ; omega) | (unfold tpQ; omega))]))
    have e80 : M1 80 = M 80 := by rw [hM1]; (repeat (rw [up1_ne (by first | omega | (unfold basQ; omega) | (unfold tpQ; omega))]))
    have e82 : M1 82 = M 82 := by rw [hM1]; (repeat (rw [up1_ne (by first | omega | (unfold basQ; omega) | (unfold tpQ; omega))]))
    have e92 : M1 92 = M 92 := by rw [hM1]; (repeat (rw [up1_ne (by first | omega | (unfold basQ; omega) | (unfold tpQ; omega))]))
    have e93 : M1 93 = M 93 := by rw [hM1]; (repeat (rw [up1_ne (by first | omega | (unfold basQ; omega) | (unfold tpQ; omega))]))
    have e94 : M1 94 = M 94 := by rw [hM1]; (repeat (rw [up1_ne (by first | omega | (unfold basQ; omega) | (unfold tpQ; omega))]))
    try simp only [e78, e79, e80, e82, e92, e93, e94] at a2
    rcases a2 with ⟨rfl, hM2, yp0⟩ | ⟨rfl, hM2, yp0, yp1⟩ | ⟨rfl, hM2, yp0, yp1⟩ | ⟨rfl, hM2, yp0, yp1, yp2⟩ | ⟨rfl, hM2, yp0, yp1, yp2⟩
    · skip
      exfalso; omega
    · skip
      exfalso; omega
    · skip
      exfalso; omega
    · skip
      exfalso; omega
    · skip
      refine ⟨_, some_iv (by rw [hq3]), rfl, ?_⟩
      exact (kRow hI (W' := (adW (M 79) 45 46 h n)) (by rw [hM2]; rfl) (adW_low (by omega) (by omega)) (fun i hi => by rw [hM2]; (repeat (rw [up1_ne (by first | omega | (unfold basQ; omega) | (unfold tpQ; omega))])); rw [hM1]; (repeat (rw [up1_ne (by first | omega | (unfold basQ; omega) | (unfold tpQ; omega))]))) (by rw [hM2, hM1, hq3]; exact rw12_1 hI (by omega)) (rw12_1k hI (by omega) (by omega) (by omega)) (k3 hI (fun i hi => by rw [hM2]; (repeat (rw [up1_ne (by first | omega | (unfold basQ; omega) | (unfold tpQ; omega))])); rw [hM1]; (repeat (rw [up1_ne (by first | omega | (unfold basQ; omega) | (unfold tpQ; omega))])))) (k4 hI (by rw [hM2, hM1]; rfl) (by rw [hM2, hM1]; rfl) (by rw [hM2, hM1]; rfl)) (k5 hI (by rw [hM2, hM1]; rfl) (by rw [hM2]; exact congrFun e78 2)) (k6 hI (by rw [hM2, hM1]; rfl) (by rw [hM2, hM1]; rfl) (by rw [hM2]; exact congrFun e78 5) (by rw [hM2, hM1]; rfl)) (k7 hI (fun i hi => by rw [hM2]; (repeat (rw [up1_ne (by first | omega | (unfold basQ; omega) | (unfold tpQ; omega))])); rw [hM1]; (repeat (rw [up1_ne (by first | omega | (unfold basQ; omega) | (unfold tpQ; omega))])))))
theorem pr_event {M M1 M2 : Mem} {r1 r2 : Option Value} {w : Int} {n : Int} (hI : InvF M) (a1 : ((fun rv M' => (rv = some (iv 0) ∧ M' = (up1 M 15 (up (M 15) 3 0)) ∧ (w = -1)) ∨ (rv = some (iv (-1)) ∧ M' = M ∧ (w ≠ -1) ∧ (¬ (0 ≤ w ∧ w ≤ 3) ∨ (0 ≤ w ∧ w ≤ 1 ∧ ¬ (0 ≤ n ∧ n ≤ 7)) ∨ (w = 2 ∧ ¬ (0 ≤ n ∧ n < M 2 2)))) ∨ (rv = some (iv (-2)) ∧ M' = M ∧ (w = 3) ∧ (¬ (0 ≤ n ∧ n ≤ 7))) ∨ (rv = some (iv (-4)) ∧ M' = M ∧ ((0 ≤ w ∧ w ≤ 1 ∧ 0 ≤ n ∧ n ≤ 7) ∨ (w = 2 ∧ 0 ≤ n ∧ n < M 2 2) ∨ (w = 3 ∧ 0 ≤ n ∧ n ≤ 7)) ∧ (M 15 3 = M 15 2)) ∨ (rv = some (iv (M 15 3 + 1)) ∧ M' = (up1 (up1 (up1 M 16 (up (M 16) (M 15 3) w)) 17 (up (M 17) (M 15 3) n)) 15 (up (M 15) 3 (M 15 3 + 1))) ∧ ((0 ≤ w ∧ w ≤ 1 ∧ 0 ≤ n ∧ n ≤ 7) ∨ (w = 2 ∧ 0 ≤ n ∧ n < M 2 2) ∨ (w = 3 ∧ 0 ≤ n ∧ n ≤ 7)) ∧ (M 15 3 < M 15 2)))) r1 M1) (a2 : ((fun rv M' => (rv = some (iv 0) ∧ M' = (up1 M1 79 (up (M1 79) 56 0)) ∧ (w = -1)) ∨ (rv = some (iv (-1)) ∧ M' = M1 ∧ (w ≠ -1) ∧ (¬ (0 ≤ w ∧ w ≤ 3) ∨ (0 ≤ w ∧ w ≤ 1 ∧ ¬ (0 ≤ n ∧ n ≤ 7)) ∨ (w = 2 ∧ ¬ (0 ≤ n ∧ n < M1 79 20)))) ∨ (rv = some (iv (-2)) ∧ M' = M1 ∧ (w = 3) ∧ (¬ (0 ≤ n ∧ n ≤ 7))) ∨ (rv = some (iv (-4)) ∧ M' = M1 ∧ ((0 ≤ w ∧ w ≤ 1 ∧ 0 ≤ n ∧ n ≤ 7) ∨ (w = 2 ∧ 0 ≤ n ∧ n < M1 79 20) ∨ (w = 3 ∧ 0 ≤ n ∧ n ≤ 7)) ∧ (M1 79 56 = 8)) ∨ (rv = some (iv (M1 79 56 + 1)) ∧ M' = (up1 M1 79 (adW (M1 79) 56 57 w n)) ∧ ((0 ≤ w ∧ w ≤ 1 ∧ 0 ≤ n ∧ n ≤ 7) ∨ (w = 2 ∧ 0 ≤ n ∧ n < M1 79 20) ∨ (w = 3 ∧ 0 ≤ n ∧ n ≤ 7)) ∧ (M1 79 56 < 8)))) r2 M2) : ∃ x : Int, r1 = some (iv x) ∧ r2 = some (iv x) ∧ InvP M2 := by
  have h20 : M 2 2 = M 79 20 := hI.1.1.1
  have h3 : M 3 = M 79 := hI.1.1.2.1
  have h11 : M 11 = tdW (M 79) := hI.1.1.2.2.1
  have hw := hI.1.2
  have hm9 := hw.2.2.1
  have hq3 : M 15 3 = M 79 56 := hI.2.1.1.2.1.1
  have hqH : M 16 = rwH (M 79) 57 := hI.2.1.1.2.1.2.1
  have hqN : M 17 = rwN (M 79) 57 := hI.2.1.1.2.1.2.2
  have hq2 : M 15 2 = 8 := hI.2.2.2.1.2.1
  have hrw := hI.2.1.2
  have hr1 := hrw.1
  have hr2 := hrw.2.1
  have hr3 := hrw.2.2
  have hc1 := hr1.1
  have hc2 := hr2.1
  have hc3 := hr3.1
  rcases a1 with ⟨rfl, hM1, xp0⟩ | ⟨rfl, hM1, xp0, xp1⟩ | ⟨rfl, hM1, xp0, xp1⟩ | ⟨rfl, hM1, xp0, xp1⟩ | ⟨rfl, hM1, xp0, xp1⟩
  · skip
    have e78 : M1 78 = M 78 := by rw [hM1]; (repeat (rw [up1_ne (by first | omega | (unfold basQ; omega) | (unfold tpQ; omega))]))
    have e79 : M1 79 = M 79 := by rw [hM1]; (repeat (rw [up1_ne (by first | omega | (unfold basQ; omega) | (unfold tpQ; omega))]))
    have e80 : M1 80 = M 80 := by rw [hM1]; (repeat (rw [up1_ne (by first | omega | (unfold basQ; omega) | (unfold tpQ; omega))]))
    have e82 : M1 82 = M 82 := by rw [hM1]; (repeat (rw [up1_ne (by first | omega | (unfold basQ; omega) | (unfold tpQ; omega))]))
    have e92 : M1 92 = M 92 := by rw [hM1]; (repeat (rw [up1_ne (by first | omega | (unfold basQ; omega) | (unfold tpQ; omega))]))
    have e93 : M1 93 = M 93 := by rw [hM1]; (repeat (rw [up1_ne (by first | omega | (unfold basQ; omega) | (unfold tpQ; omega))]))
    have e94 : M1 94 = M 94 := by rw [hM1]; (repeat (rw [up1_ne (by first | omega | (unfold basQ; omega) | (unfold tpQ; omega))]))
    try simp only [e78, e79, e80, e82, e92, e93, e94] at a2
    rcases a2 with ⟨rfl, hM2, yp0⟩ | ⟨rfl, hM2, yp0, yp1⟩ | ⟨rfl, hM2, yp0, yp1⟩ | ⟨rfl, hM2, yp0, yp1⟩ | ⟨rfl, hM2, yp0, yp1⟩
    · skip
      refine ⟨_, some_iv (rfl), rfl, ?_⟩
      exact (kRow hI (W' := (up (M 79) 56 0)) (by rw [hM2]; rfl) (fun j hj => up_ne (by omega)) (fun i hi => by rw [hM2]; (repeat (rw [up1_ne (by first | omega | (unfold basQ; omega) | (unfold tpQ; omega))])); rw [hM1]; (repeat (rw [up1_ne (by first | omega | (unfold basQ; omega) | (unfold tpQ; omega))]))) (by rw [hM2, hM1]; exact rw15_0 hI) (rw15_0k hI) (k3 hI (fun i hi => by rw [hM2]; (repeat (rw [up1_ne (by first | omega | (unfold basQ; omega) | (unfold tpQ; omega))])); rw [hM1]; (repeat (rw [up1_ne (by first | omega | (unfold basQ; omega) | (unfold tpQ; omega))])))) (k4 hI (by rw [hM2, hM1]; rfl) (by rw [hM2, hM1]; rfl) (by rw [hM2, hM1]; rfl)) (k5 hI (by rw [hM2, hM1]; rfl) (by rw [hM2]; exact congrFun e78 2)) (k6 hI (by rw [hM2, hM1]; rfl) (by rw [hM2, hM1]; rfl) (by rw [hM2]; exact congrFun e78 5) (by rw [hM2, hM1]; rfl)) (k7 hI (fun i hi => by rw [hM2]; (repeat (rw [up1_ne (by first | omega | (unfold basQ; omega) | (unfold tpQ; omega))])); rw [hM1]; (repeat (rw [up1_ne (by first | omega | (unfold basQ; omega) | (unfold tpQ; omega))])))))
    · skip
      exfalso; omega
    · skip
      exfalso; omega
    · skip
      exfalso; omega
    · skip
      exfalso; omega
  · skip
    have e78 : M1 78 = M 78 := by rw [hM1]
    have e79 : M1 79 = M 79 := by rw [hM1]
    have e80 : M1 80 = M 80 := by rw [hM1]
    have e82 : M1 82 = M 82 := by rw [hM1]
    have e92 : M1 92 = M 92 := by rw [hM1]
    have e93 : M1 93 = M 93 := by rw [hM1]
    have e94 : M1 94 = M 94 := by rw [hM1]
    try simp only [e78, e79, e80, e82, e92, e93, e94] at a2
    rcases a2 with ⟨rfl, hM2, yp0⟩ | ⟨rfl, hM2, yp0, yp1⟩ | ⟨rfl, hM2, yp0, yp1⟩ | ⟨rfl, hM2, yp0, yp1⟩ | ⟨rfl, hM2, yp0, yp1⟩
    · skip
      exfalso; omega
    · skip
      refine ⟨_, some_iv (rfl), rfl, ?_⟩
      exact (kAll hI (fun i hi => by rw [hM2]; skip; rw [hM1]) (by rw [hM2]; exact congrFun e78 2) (by rw [hM2]; exact congrFun e78 5))
    · skip
      exfalso; omega
    · skip
      exfalso; omega
    · skip
      exfalso; omega
  · skip
    have e78 : M1 78 = M 78 := by rw [hM1]
    have e79 : M1 79 = M 79 := by rw [hM1]
    have e80 : M1 80 = M 80 := by rw [hM1]
    have e82 : M1 82 = M 82 := by rw [hM1]
    have e92 : M1 92 = M 92 := by rw [hM1]
    have e93 : M1 93 = M 93 := by rw [hM1]
    have e94 : M1 94 = M 94 := by rw [hM1]
    try simp only [e78, e79, e80, e82, e92, e93, e94] at a2
    rcases a2 with ⟨rfl, hM2, yp0⟩ | ⟨rfl, hM2, yp0, yp1⟩ | ⟨rfl, hM2, yp0, yp1⟩ | ⟨rfl, hM2, yp0, yp1⟩ | ⟨rfl, hM2, yp0, yp1⟩
    · skip
      exfalso; omega
    · skip
      exfalso; omega
    · skip
      refine ⟨_, some_iv (rfl), rfl, ?_⟩
      exact (kAll hI (fun i hi => by rw [hM2]; skip; rw [hM1]) (by rw [hM2]; exact congrFun e78 2) (by rw [hM2]; exact congrFun e78 5))
    · skip
      exfalso; omega
    · skip
      exfalso; omega
  · skip
    have e78 : M1 78 = M 78 := by rw [hM1]
    have e79 : M1 79 = M 79 := by rw [hM1]
    have e80 : M1 80 = M 80 := by rw [hM1]
    have e82 : M1 82 = M 82 := by rw [hM1]
    have e92 : M1 92 = M 92 := by rw [hM1]
    have e93 : M1 93 = M 93 := by rw [hM1]
    have e94 : M1 94 = M 94 := by rw [hM1]
    try simp only [e78, e79, e80, e82, e92, e93, e94] at a2
    rcases a2 with ⟨rfl, hM2, yp0⟩ | ⟨rfl, hM2, yp0, yp1⟩ | ⟨rfl, hM2, yp0, yp1⟩ | ⟨rfl, hM2, yp0, yp1⟩ | ⟨rfl, hM2, yp0, yp1⟩
    · skip
      exfalso; omega
    · skip
      exfalso; omega
    · skip
      exfalso; omega
    · skip
      refine ⟨_, some_iv (rfl), rfl, ?_⟩
      exact (kAll hI (fun i hi => by rw [hM2]; skip; rw [hM1]) (by rw [hM2]; exact congrFun e78 2) (by rw [hM2]; exact congrFun e78 5))
    · skip
      exfalso; omega
  · skip
    have e78 : M1 78 = M 78 := by rw [hM1]; (repeat (rw [up1_ne (by first | omega | (unfold basQ; omega) | (unfold tpQ; omega))]))
    have e79 : M1 79 = M 79 := by rw [hM1]; (repeat (rw [up1_ne (by first | omega | (unfold basQ; omega) | (unfold tpQ; omega))]))
    have e80 : M1 80 = M 80 := by rw [hM1]; (repeat (rw [up1_ne (by first | omega | (unfold basQ; omega) | (unfold tpQ; omega))]))
    have e82 : M1 82 = M 82 := by rw [hM1]; (repeat (rw [up1_ne (by first | omega | (unfold basQ; omega) | (unfold tpQ; omega))]))
    have e92 : M1 92 = M 92 := by rw [hM1]; (repeat (rw [up1_ne (by first | omega | (unfold basQ; omega) | (unfold tpQ; omega))]))
    have e93 : M1 93 = M 93 := by rw [hM1]; (repeat (rw [up1_ne (by first | omega | (unfold basQ; omega) | (unfold tpQ; omega))]))
    have e94 : M1 94 = M 94 := by rw [hM1]; (repeat (rw [up1_ne (by first | omega | (unfold basQ; omega) | (unfold tpQ; omega))]))
    try simp only [e78, e79, e80, e82, e92, e93, e94] at a2
    rcases a2 with ⟨rfl, hM2, yp0⟩ | ⟨rfl, hM2, yp0, yp1⟩ | ⟨rfl, hM2, yp0, yp1⟩ | ⟨rfl, hM2, yp0, yp1⟩ | ⟨rfl, hM2, yp0, yp1⟩
    · skip
      exfalso; omega
    · skip
      exfalso; omega
    · skip
      exfalso; omega
    · skip
      exfalso; omega
    · skip
      refine ⟨_, some_iv (by rw [hq3]), rfl, ?_⟩
      exact (kRow hI (W' := (adW (M 79) 56 57 w n)) (by rw [hM2]; rfl) (adW_low (by omega) (by omega)) (fun i hi => by rw [hM2]; (repeat (rw [up1_ne (by first | omega | (unfold basQ; omega) | (unfold tpQ; omega))])); rw [hM1]; (repeat (rw [up1_ne (by first | omega | (unfold basQ; omega) | (unfold tpQ; omega))]))) (by rw [hM2, hM1, hq3]; exact rw15_1 hI (by omega)) (rw15_1k hI (by omega) (by omega) (by omega) (by omega)) (k3 hI (fun i hi => by rw [hM2]; (repeat (rw [up1_ne (by first | omega | (unfold basQ; omega) | (unfold tpQ; omega))])); rw [hM1]; (repeat (rw [up1_ne (by first | omega | (unfold basQ; omega) | (unfold tpQ; omega))])))) (k4 hI (by rw [hM2, hM1]; rfl) (by rw [hM2, hM1]; rfl) (by rw [hM2, hM1]; rfl)) (k5 hI (by rw [hM2, hM1]; rfl) (by rw [hM2]; exact congrFun e78 2)) (k6 hI (by rw [hM2, hM1]; rfl) (by rw [hM2, hM1]; rfl) (by rw [hM2]; exact congrFun e78 5) (by rw [hM2, hM1]; rfl)) (k7 hI (fun i hi => by rw [hM2]; (repeat (rw [up1_ne (by first | omega | (unfold basQ; omega) | (unfold tpQ; omega))])); rw [hM1]; (repeat (rw [up1_ne (by first | omega | (unfold basQ; omega) | (unfold tpQ; omega))])))))
theorem pr_book {M M1 M2 : Mem} {r1 r2 : Option Value} {h : Int} {n : Int} (hI : InvF M) (a1 : ((fun rv M' => (rv = some (iv 0) ∧ M' = (up1 M 18 (up (M 18) 3 0)) ∧ (h = -1)) ∨ (rv = some (iv (-1)) ∧ M' = M ∧ (h ≠ -1) ∧ (¬ (0 ≤ h ∧ h ≤ 29))) ∨ (rv = some (iv (-2)) ∧ M' = M ∧ (0 ≤ h ∧ h ≤ 29) ∧ (¬ (0 ≤ n ∧ n ≤ 9999))) ∨ (rv = some (iv (-4)) ∧ M' = M ∧ (0 ≤ h ∧ h ≤ 29) ∧ (0 ≤ n ∧ n ≤ 9999) ∧ (M 18 3 = M 18 2)) ∨ (rv = some (iv (M 18 3 + 1)) ∧ M' = (up1 (up1 (up1 M 19 (up (M 19) (M 18 3) h)) 20 (up (M 20) (M 18 3) n)) 18 (up (M 18) 3 (M 18 3 + 1))) ∧ (0 ≤ h ∧ h ≤ 29) ∧ (0 ≤ n ∧ n ≤ 9999) ∧ (M 18 3 < M 18 2)))) r1 M1) (a2 : ((fun rv M' => (rv = some (iv 0) ∧ M' = (up1 M1 79 (up (M1 79) 73 0)) ∧ (h = -1)) ∨ (rv = some (iv (-1)) ∧ M' = M1 ∧ (h ≠ -1) ∧ (¬ (0 ≤ h ∧ h ≤ 29))) ∨ (rv = some (iv (-2)) ∧ M' = M1 ∧ (0 ≤ h ∧ h ≤ 29) ∧ (¬ (0 ≤ n ∧ n ≤ 9999))) ∨ (rv = some (iv (-4)) ∧ M' = M1 ∧ (0 ≤ h ∧ h ≤ 29) ∧ (0 ≤ n ∧ n ≤ 9999) ∧ (M1 79 73 = 8)) ∨ (rv = some (iv (M1 79 73 + 1)) ∧ M' = (up1 M1 79 (adW (M1 79) 73 74 h n)) ∧ (0 ≤ h ∧ h ≤ 29) ∧ (0 ≤ n ∧ n ≤ 9999) ∧ (M1 79 73 < 8)))) r2 M2) : ∃ x : Int, r1 = some (iv x) ∧ r2 = some (iv x) ∧ InvP M2 := by
  have h20 : M 2 2 = M 79 20 := hI.1.1.1
  have h3 : M 3 = M 79 := hI.1.1.2.1
  have h11 : M 11 = tdW (M 79) := hI.1.1.2.2.1
  have hw := hI.1.2
  have hm9 := hw.2.2.1
  have hq3 : M 18 3 = M 79 73 := hI.2.1.1.2.2.1
  have hqH : M 19 = rwH (M 79) 74 := hI.2.1.1.2.2.2.1
  have hqN : M 20 = rwN (M 79) 74 := hI.2.1.1.2.2.2.2
  have hq2 : M 18 2 = 8 := hI.2.2.2.1.2.2
  have hrw := hI.2.1.2
  have hr1 := hrw.1
  have hr2 := hrw.2.1
  have hr3 := hrw.2.2
  have hc1 := hr1.1
  have hc2 := hr2.1
  have hc3 := hr3.1
  rcases a1 with ⟨rfl, hM1, xp0⟩ | ⟨rfl, hM1, xp0, xp1⟩ | ⟨rfl, hM1, xp0, xp1⟩ | ⟨rfl, hM1, xp0, xp1, xp2⟩ | ⟨rfl, hM1, xp0, xp1, xp2⟩
  · skip
    have e78 : M1 78 = M 78 := by rw [hM1]; (repeat (rw [up1_ne (by first | omega | (unfold basQ; omega) | (unfold tpQ; omega))]))
    have e79 : M1 79 = M 79 := by rw [hM1]; (repeat (rw [up1_ne (by first | omega | (unfold basQ; omega) | (unfold tpQ; omega))]))
    have e80 : M1 80 = M 80 := by rw [hM1]; (repeat (rw [up1_ne (by first | omega | (unfold basQ; omega) | (unfold tpQ; omega))]))
    have e82 : M1 82 = M 82 := by rw [hM1]; (repeat (rw [up1_ne (by first | omega | (unfold basQ; omega) | (unfold tpQ; omega))]))
    have e92 : M1 92 = M 92 := by rw [hM1]; (repeat (rw [up1_ne (by first | omega | (unfold basQ; omega) | (unfold tpQ; omega))]))
    have e93 : M1 93 = M 93 := by rw [hM1]; (repeat (rw [up1_ne (by first | omega | (unfold basQ; omega) | (unfold tpQ; omega))]))
    have e94 : M1 94 = M 94 := by rw [hM1]; (repeat (rw [up1_ne (by first | omega | (unfold basQ; omega) | (unfold tpQ; omega))]))
    try simp only [e78, e79, e80, e82, e92, e93, e94] at a2
    rcases a2 with ⟨rfl, hM2, yp0⟩ | ⟨rfl, hM2, yp0, yp1⟩ | ⟨rfl, hM2, yp0, yp1⟩ | ⟨rfl, hM2, yp0, yp1, yp2⟩ | ⟨rfl, hM2, yp0, yp1, yp2⟩
    · skip
      refine ⟨_, some_iv (rfl), rfl, ?_⟩
      exact (kRow hI (W' := (up (M 79) 73 0)) (by rw [hM2]; rfl) (fun j hj => up_ne (by omega)) (fun i hi => by rw [hM2]; (repeat (rw [up1_ne (by first | omega | (unfold basQ; omega) | (unfold tpQ; omega))])); rw [hM1]; (repeat (rw [up1_ne (by first | omega | (unfold basQ; omega) | (unfold tpQ; omega))]))) (by rw [hM2, hM1]; exact rw18_0 hI) (rw18_0k hI) (k3 hI (fun i hi => by rw [hM2]; (repeat (rw [up1_ne (by first | omega | (unfold basQ; omega) | (unfold tpQ; omega))])); rw [hM1]; (repeat (rw [up1_ne (by first | omega | (unfold basQ; omega) | (unfold tpQ; omega))])))) (k4 hI (by rw [hM2, hM1]; rfl) (by rw [hM2, hM1]; rfl) (by rw [hM2, hM1]; rfl)) (k5 hI (by rw [hM2, hM1]; rfl) (by rw [hM2]; exact congrFun e78 2)) (k6 hI (by rw [hM2, hM1]; rfl) (by rw [hM2, hM1]; rfl) (by rw [hM2]; exact congrFun e78 5) (by rw [hM2, hM1]; rfl)) (k7 hI (fun i hi => by rw [hM2]; (repeat (rw [up1_ne (by first | omega | (unfold basQ; omega) | (unfold tpQ; omega))])); rw [hM1]; (repeat (rw [up1_ne (by first | omega | (unfold basQ; omega) | (unfold tpQ; omega))])))))
    · skip
      exfalso; omega
    · skip
      exfalso; omega
    · skip
      exfalso; omega
    · skip
      exfalso; omega
  · skip
    have e78 : M1 78 = M 78 := by rw [hM1]
    have e79 : M1 79 = M 79 := by rw [hM1]
    have e80 : M1 80 = M 80 := by rw [hM1]
    have e82 : M1 82 = M 82 := by rw [hM1]
    have e92 : M1 92 = M 92 := by rw [hM1]
    have e93 : M1 93 = M 93 := by rw [hM1]
    have e94 : M1 94 = M 94 := by rw [hM1]
    try simp only [e78, e79, e80, e82, e92, e93, e94] at a2
    rcases a2 with ⟨rfl, hM2, yp0⟩ | ⟨rfl, hM2, yp0, yp1⟩ | ⟨rfl, hM2, yp0, yp1⟩ | ⟨rfl, hM2, yp0, yp1, yp2⟩ | ⟨rfl, hM2, yp0, yp1, yp2⟩
    · skip
      exfalso; omega
    · skip
      refine ⟨_, some_iv (rfl), rfl, ?_⟩
      exact (kAll hI (fun i hi => by rw [hM2]; skip; rw [hM1]) (by rw [hM2]; exact congrFun e78 2) (by rw [hM2]; exact congrFun e78 5))
    · skip
      exfalso; omega
    · skip
      exfalso; omega
    · skip
      exfalso; omega
  · skip
    have e78 : M1 78 = M 78 := by rw [hM1]
    have e79 : M1 79 = M 79 := by rw [hM1]
    have e80 : M1 80 = M 80 := by rw [hM1]
    have e82 : M1 82 = M 82 := by rw [hM1]
    have e92 : M1 92 = M 92 := by rw [hM1]
    have e93 : M1 93 = M 93 := by rw [hM1]
    have e94 : M1 94 = M 94 := by rw [hM1]
    try simp only [e78, e79, e80, e82, e92, e93, e94] at a2
    rcases a2 with ⟨rfl, hM2, yp0⟩ | ⟨rfl, hM2, yp0, yp1⟩ | ⟨rfl, hM2, yp0, yp1⟩ | ⟨rfl, hM2, yp0, yp1, yp2⟩ | ⟨rfl, hM2, yp0, yp1, yp2⟩
    · skip
      exfalso; omega
    · skip
      exfalso; omega
    · skip
      refine ⟨_, some_iv (rfl), rfl, ?_⟩
      exact (kAll hI (fun i hi => by rw [hM2]; skip; rw [hM1]) (by rw [hM2]; exact congrFun e78 2) (by rw [hM2]; exact congrFun e78 5))
    · skip
      exfalso; omega
    · skip
      exfalso; omega
  · skip
    have e78 : M1 78 = M 78 := by rw [hM1]
    have e79 : M1 79 = M 79 := by rw [hM1]
    have e80 : M1 80 = M 80 := by rw [hM1]
    have e82 : M1 82 = M 82 := by rw [hM1]
    have e92 : M1 92 = M 92 := by rw [hM1]
    have e93 : M1 93 = M 93 := by rw [hM1]
    have e94 : M1 94 = M 94 := by rw [hM1]
    try simp only [e78, e79, e80, e82, e92, e93, e94] at a2
    rcases a2 with ⟨rfl, hM2, yp0⟩ | ⟨rfl, hM2, yp0, yp1⟩ | ⟨rfl, hM2, yp0, yp1⟩ | ⟨rfl, hM2, yp0, yp1, yp2⟩ | ⟨rfl, hM2, yp0, yp1, yp2⟩
    · skip
      exfalso; omega
    · skip
      exfalso; omega
    · skip
      exfalso; omega
    · skip
      refine ⟨_, some_iv (rfl), rfl, ?_⟩
      exact (kAll hI (fun i hi => by rw [hM2]; skip; rw [hM1]) (by rw [hM2]; exact congrFun e78 2) (by rw [hM2]; exact congrFun e78 5))
    · skip
      exfalso; omega
  · skip
    have e78 : M1 78 = M 78 := by rw [hM1]; (repeat (rw [up1_ne (by first | omega | (unfold basQ; omega) | (unfold tpQ; omega))]))
    have e79 : M1 79 = M 79 := by rw [hM1]; (repeat (rw [up1_ne (by first | omega | (unfold basQ; omega) | (unfold tpQ; omega))]))
    have e80 : M1 80 = M 80 := by rw [hM1]; (repeat (rw [up1_ne (by first | omega | (unfold basQ; omega) | (unfold tpQ; omega))]))
    have e82 : M1 82 = M 82 := by rw [hM1]; (repeat (rw [up1_ne (by first | omega | (unfold basQ; omega) | (unfold tpQ; omega))]))
    have e92 : M1 92 = M 92 := by rw [hM1]; (repeat (rw [up1_ne (by first | omega | (unfold basQ; omega) | (unfold tpQ; omega))]))
    have e93 : M1 93 = M 93 := by rw [hM1]; (repeat (rw [up1_ne (by first | omega | (unfold basQ; omega) | (unfold tpQ; omega))]))
    have e94 : M1 94 = M 94 := by rw [hM1]; (repeat (rw [up1_ne (by first | omega | (unfold basQ; omega) | (unfold tpQ; omega))]))
    try simp only [e78, e79, e80, e82, e92, e93, e94] at a2
    rcases a2 with ⟨rfl, hM2, yp0⟩ | ⟨rfl, hM2, yp0, yp1⟩ | ⟨rfl, hM2, yp0, yp1⟩ | ⟨rfl, hM2, yp0, yp1, yp2⟩ | ⟨rfl, hM2, yp0, yp1, yp2⟩
    · skip
      exfalso; omega
    · skip
      exfalso; omega
    · skip
      exfalso; omega
    · skip
      exfalso; omega
    · skip
      refine ⟨_, some_iv (by rw [hq3]), rfl, ?_⟩
      exact (kRow hI (W' := (adW (M 79) 73 74 h n)) (by rw [hM2]; rfl) (adW_low (by omega) (by omega)) (fun i hi => by rw [hM2]; (repeat (rw [up1_ne (by first | omega | (unfold basQ; omega) | (unfold tpQ; omega))])); rw [hM1]; (repeat (rw [up1_ne (by first | omega | (unfold basQ; omega) | (unfold tpQ; omega))]))) (by rw [hM2, hM1, hq3]; exact rw18_1 hI (by omega)) (rw18_1k hI (by omega) (by omega) (by omega)) (k3 hI (fun i hi => by rw [hM2]; (repeat (rw [up1_ne (by first | omega | (unfold basQ; omega) | (unfold tpQ; omega))])); rw [hM1]; (repeat (rw [up1_ne (by first | omega | (unfold basQ; omega) | (unfold tpQ; omega))])))) (k4 hI (by rw [hM2, hM1]; rfl) (by rw [hM2, hM1]; rfl) (by rw [hM2, hM1]; rfl)) (k5 hI (by rw [hM2, hM1]; rfl) (by rw [hM2]; exact congrFun e78 2)) (k6 hI (by rw [hM2, hM1]; rfl) (by rw [hM2, hM1]; rfl) (by rw [hM2]; exact congrFun e78 5) (by rw [hM2, hM1]; rfl)) (k7 hI (fun i hi => by rw [hM2]; (repeat (rw [up1_ne (by first | omega | (unfold basQ; omega) | (unfold tpQ; omega))])); rw [hM1]; (repeat (rw [up1_ne (by first | omega | (unfold basQ; omega) | (unfold tpQ; omega))])))))
