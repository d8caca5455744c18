theorem pr_rain {M M1 M2 : Mem} {r1 r2 : Option Value} {h : Int} {v : Int} (hI : InvF M) (a1 : ((fun rv M' => (rv = some (iv (-1)) ∧ M' = M ∧ (¬ (0 ≤ h ∧ h < 8))) ∨ (rv = some (iv (-2)) ∧ M' = M ∧ (0 ≤ h ∧ h < 8) ∧ (¬ (0 ≤ v ∧ v ≤ 20))) ∨ (rv = some (iv (M 3 h)) ∧ M' = (up1 M 3 (up (M 3) h v)) ∧ (0 ≤ h ∧ h < 8) ∧ (0 ≤ v ∧ v ≤ 20)))) r1 M1) (a2 : ((fun rv M' => (rv = some (iv (-1)) ∧ M' = M1 ∧ (¬ (0 ≤ h ∧ h < 8))) ∨ (rv = some (iv (-2)) ∧ M' = M1 ∧ (0 ≤ h ∧ h < 8) ∧ (¬ (0 ≤ v ∧ v ≤ 20))) ∨ (rv = some (iv (M1 79 h)) ∧ M' = (up1 M1 79 (up (M1 79) h v)) ∧ (0 ≤ h ∧ h < 8) ∧ (0 ≤ v ∧ v ≤ 20)))) r2 M2) : ∃ x : Int, r1 = some (iv x) ∧ r2 = some (iv x) ∧ InvP M2 := by
  have h20 : M 2 2 = M 79 20 := hI.1.1.1
  have h3 : M 3 = M 79 := hI.1.1.2.1
  have h11 : M 11 = tdW (M 79) := hI.1.1.2.2.1
  have hw := hI.1.2
  have hm9 := hw.2.2.1
  rcases a1 with ⟨rfl, hM1, xp0⟩ | ⟨rfl, hM1, xp0, xp1⟩ | ⟨rfl, hM1, xp0, xp1⟩
  · skip
    have e78 : M1 78 = M 78 := by rw [hM1]
    have e79 : M1 79 = M 79 := by rw [hM1]
    have e80 : M1 80 = M 80 := by rw [hM1]
    have e82 : M1 82 = M 82 := by rw [hM1]
    have e92 : M1 92 = M 92 := by rw [hM1]
    have e93 : M1 93 = M 93 := by rw [hM1]
    have e94 : M1 94 = M 94 := by rw [hM1]
    try simp only [e78, e79, e80, e82, e92, e93, e94] at a2
    rcases a2 with ⟨rfl, hM2, yp0⟩ | ⟨rfl, hM2, yp0, yp1⟩ | ⟨rfl, hM2, yp0, yp1⟩
    · skip
      refine ⟨_, some_iv (rfl), rfl, ?_⟩
      exact (kAll hI (fun i hi => by rw [hM2]; skip; rw [hM1]) (by rw [hM2]; exact congrFun e78 2) (by rw [hM2]; exact congrFun e78 5))
    · skip
      exfalso; omega
    · skip
      exfalso; omega
  · skip
    have e78 : M1 78 = M 78 := by rw [hM1]
    have e79 : M1 79 = M 79 := by rw [hM1]
    have e80 : M1 80 = M 80 := by rw [hM1]
    have e82 : M1 82 = M 82 := by rw [hM1]
    have e92 : M1 92 = M 92 := by rw [hM1]
    have e93 : M1 93 = M 93 := by rw [hM1]
    have e94 : M1 94 = M 94 := by rw [hM1]
    try simp only [e78, e79, e80, e82, e92, e93, e94] at a2
    rcases a2 with ⟨rfl, hM2, yp0⟩ | ⟨rfl, hM2, yp0, yp1⟩ | ⟨rfl, hM2, yp0, yp1⟩
    · skip
      exfalso; omega
    · skip
      refine ⟨_, some_iv (rfl), rfl, ?_⟩
      exact (kAll hI (fun i hi => by rw [hM2]; skip; rw [hM1]) (by rw [hM2]; exact congrFun e78 2) (by rw [hM2]; exact congrFun e78 5))
    · skip
      exfalso; omega
  · skip
    have e78 : M1 78 = M 78 := by rw [hM1]; (repeat (rw [up1_ne (by first | omega | (unfold basQ; omega) | (unfold tpQ; omega))]))
    have e79 : M1 79 = M 79 := by rw [hM1]; (repeat (rw [up1_ne (by first | omega | (unfold basQ; omega) | (unfold tpQ; omega))]))
    have e80 : M1 80 = M 80 := by rw [hM1]; (repeat (rw [up1_ne (by first | omega | (unfold basQ; omega) | (unfold tpQ; omega))]))
    have e82 : M1 82 = M 82 := by rw [hM1]; (repeat (rw [up1_ne (by first | omega | (unfold basQ; omega) | (unfold tpQ; omega))]))
    have e92 : M1 92 = M 92 := by rw [hM1]; (repeat (rw [up1_ne (by first | omega | (unfold basQ; omega) | (unfold tpQ; omega))]))
    have e93 : M1 93 = M 93 := by rw [hM1]; (repeat (rw [up1_ne (by first | omega | (unfold basQ; omega) | (unfold tpQ; omega))]))
    have e94 : M1 94 = M 94 := by rw [hM1]; (repeat (rw [up1_ne (by first | omega | (unfold basQ; omega) | (unfold tpQ; omega))]))
    try simp only [e78, e79, e80, e82, e92, e93, e94] at a2
    rcases a2 with ⟨rfl, hM2, yp0⟩ | ⟨rfl, hM2, yp0, yp1⟩ | ⟨rfl, hM2, yp0, yp1⟩
    · skip
      exfalso; omega
    · skip
      exfalso; omega
    · skip
      refine ⟨_, some_iv (by rw [h3]), rfl, ?_⟩
      exact (kSite hI (M2 := M2) (W' := (up (M 79) h v)) (by rw [hM2, hM1]; exact RelP_low hI.1.1 rfl rfl rfl rfl rfl rfl rfl (fun j hj => up_ne (by omega)) (fun k k0 k1 => by show up (M 3) h v k = _; rw [h3]) (fun k k0 k1 => by show M 11 k = _; rw [h11]; show M 79 (8 + k) = up (M 79) h v (8 + k); exact (up_ne (by omega)).symm)) (WOk_up hw (by omega) (by omega) (by omega) (by omega)) (by rw [hM2]; rfl) (fun j hj => up_ne (by omega)) (by rw [up_ne (by omega)]; exact Int.le_refl _) (fun i hi => by rw [hM2]; (repeat (rw [up1_ne (by first | omega | (unfold basQ; omega) | (unfold tpQ; omega))])); rw [hM1]; (repeat (rw [up1_ne (by first | omega | (unfold basQ; omega) | (unfold tpQ; omega))]))) (by rw [hM2]; exact congrFun e78 2) (by rw [hM2]; exact congrFun e78 5))
theorem pr_tell {M M1 M2 : Mem} {r1 r2 : Option Value} {h : Int} {v : Int} (hI : InvF M) (a1 : ((fun rv M' => (rv = some (iv (-1)) ∧ M' = M ∧ (¬ (0 ≤ h ∧ h < 12))) ∨ (rv = some (iv (-2)) ∧ M' = M ∧ (0 ≤ h ∧ h < 12) ∧ (¬ (0 ≤ v ∧ v ≤ 999))) ∨ (rv = some (iv (M 11 h)) ∧ M' = (up1 M 11 (up (M 11) h v)) ∧ (0 ≤ h ∧ h < 12) ∧ (0 ≤ v ∧ v ≤ 999)))) r1 M1) (a2 : ((fun rv M' => (rv = some (iv (-1)) ∧ M' = M1 ∧ (¬ (0 ≤ h ∧ h < 12))) ∨ (rv = some (iv (-2)) ∧ M' = M1 ∧ (0 ≤ h ∧ h < 12) ∧ (¬ (0 ≤ v ∧ v ≤ 999))) ∨ (rv = some (iv (M1 79 (8 + h))) ∧ M' = (up1 M1 79 (up (M1 79) (8 + h) v)) ∧ (0 ≤ h ∧ h < 12) ∧ (0 ≤ v ∧ v ≤ 999)))) r2 M2) : ∃ x : Int, r1 = some (iv x) ∧ r2 = some (iv x) ∧ InvP M2 := by
  have h20 : M 2 2 = M 79 20 := hI.1.1.1
  have h3 : M 3 = M 79 := hI.1.1.2.1
  have h11 : M 11 = tdW (M 79) := hI.1.1.2.2.1
  have hw := hI.1.2
  have hm9 := hw.2.2.1
  rcases a1 with ⟨rfl, hM1, xp0⟩ | ⟨rfl, hM1, xp0, xp1⟩ | ⟨rfl, hM1, xp0, xp1⟩
  · skip
    have e78 : M1 78 = M 78 := by rw [hM1]
    have e79 : M1 79 = M 79 := by rw [hM1]
    have e80 : M1 80 = M 80 := by rw [hM1]
    have e82 : M1 82 = M 82 := by rw [hM1]
    have e92 : M1 92 = M 92 := by rw [hM1]
    have e93 : M1 93 = M 93 := by rw [hM1]
    have e94 : M1 94 = M 94 := by rw [hM1]
    try simp only [e78, e79, e80, e82, e92, e93, e94] at a2
    rcases a2 with ⟨rfl, hM2, yp0⟩ | ⟨rfl, hM2, yp0, yp1⟩ | ⟨rfl, hM2, yp0, yp1⟩
    · skip
      refine ⟨_, some_iv (rfl), rfl, ?_⟩
      exact (kAll hI (fun i hi => by rw [hM2]; skip; rw [hM1]) (by rw [hM2]; exact congrFun e78 2) (by rw [hM2]; exact congrFun e78 5))
    · skip
      exfalso; omega
    · skip
      exfalso; omega
  · skip
    have e78 : M1 78 = M 78 := by rw [hM1]
    have e79 : M1 79 = M 79 := by rw [hM1]
    have e80 : M1 80 = M 80 := by rw [hM1]
    have e82 : M1 82 = M 82 := by rw [hM1]
    have e92 : M1 92 = M 92 := by rw [hM1]
    have e93 : M1 93 = M 93 := by rw [hM1]
    have e94 : M1 94 = M 94 := by rw [hM1]
    try simp only [e78, e79, e80, e82, e92, e93, e94] at a2
    rcases a2 with ⟨rfl, hM2, yp0⟩ | ⟨rfl, hM2, yp0, yp1⟩ | ⟨rfl, hM2, yp0, yp1⟩
    · skip
      exfalso; omega
    · skip
      refine ⟨_, some_iv (rfl), rfl, ?_⟩
      exact (kAll hI (fun i hi => by rw [hM2]; skip; rw [hM1]) (by rw [hM2]; exact congrFun e78 2) (by rw [hM2]; exact congrFun e78 5))
    · skip
      exfalso; omega
  · skip
    have e78 : M1 78 = M 78 := by rw [hM1]; (repeat (rw [up1_ne (by first | omega | (unfold basQ; omega) | (unfold tpQ; omega))]))
    have e79 : M1 79 = M 79 := by rw [hM1]; (repeat (rw [up1_ne (by first | omega | (unfold basQ; omega) | (unfold tpQ; omega))]))
    have e80 : M1 80 = M 80 := by rw [hM1]; (repeat (rw [up1_ne (by first | omega | (unfold basQ; omega) | (unfold tpQ; omega))]))
    have e82 : M1 82 = M 82 := by rw [hM1]; (repeat (rw [up1_ne (by first | omega | (unfold basQ; omega) | (unfold tpQ; omega))]))
    have e92 : M1 92 = M 92 := by rw [hM1]; (repeat (rw [up1_ne (by first | omega | (unfold basQ; omega) | (unfold tpQ; omega))]))
    have e93 : M1 93 = M 93 := by rw [hM1]; (repeat (rw [up1_ne (by first | omega | (unfold basQ; omega) | (unfold tpQ; omega))]))
    have e94 : M1 94 = M 94 := by rw [hM1]; (repeat (rw [up1_ne (by first | omega | (unfold basQ; omega) | (unfold tpQ; omega))]))
    try simp only [e78, e79, e80, e82, e92, e93, e94] at a2
    rcases a2 with ⟨rfl, hM2, yp0⟩ | ⟨rfl, hM2, yp0, yp1⟩ | ⟨rfl, hM2, yp0, yp1⟩
    · skip
      exfalso; omega
    · skip
      exfalso; omega
    · skip
      refine ⟨_, some_iv (by rw [h11]; rfl), rfl, ?_⟩
      exact (kSite hI (M2 := M2) (W' := (up (M 79) (8 + h) v)) (by rw [hM2, hM1]; exact RelP_low hI.1.1 rfl rfl rfl rfl rfl rfl rfl (fun j hj => up_ne (by omega)) (fun k k0 k1 => by show M 3 k = _; rw [h3]; exact (up_ne (by omega)).symm) (fun k k0 k1 => by
        show up (M 11) h v k = up (M 79) (8 + h) v (8 + k)
        rw [h11]
        by_cases e9 : k = h
        · rw [e9, up_same, up_same]
        · rw [up_ne e9, up_ne (by omega)]; rfl)) (WOk_tell hw (by omega) (by omega) (by omega) (by omega)) (by rw [hM2]; rfl) (fun j hj => up_ne (by omega)) (by rw [up_ne (by omega)]; exact Int.le_refl _) (fun i hi => by rw [hM2]; (repeat (rw [up1_ne (by first | omega | (unfold basQ; omega) | (unfold tpQ; omega))])); rw [hM1]; (repeat (rw [up1_ne (by first | omega | (unfold basQ; omega) | (unfold tpQ; omega))]))) (by rw [hM2]; exact congrFun e78 2) (by rw [hM2]; exact congrFun e78 5))
theorem pr_basin {M M1 M2 : Mem} {r1 r2 : Option Value} {v : Int} (hI : InvF M) (a1 : ((fun rv M' => (rv = some (iv (-2)) ∧ M' = M ∧ (¬ (1 ≤ v ∧ v ≤ 99999))) ∨ (rv = some (iv (-4)) ∧ M' = M ∧ (1 ≤ v ∧ v ≤ 99999) ∧ (M 2 2 = 3)) ∨ (rv = some (iv (M 2 2)) ∧ M' = (up1 (up1 (up1 M (basQ (M 2 2)) (up (up (up (M (basQ (M 2 2))) 1 (dgn v)) 2 0) 3 0)) (basQ (M 2 2) + 1) (dgt v (dgn v))) 2 (up (M 2) 2 (M 2 2 + 1))) ∧ (1 ≤ v ∧ v ≤ 99999) ∧ (M 2 2 < 3)))) r1 M1) (a2 : ((fun rv M' => (rv = some (iv (-2)) ∧ M' = M1 ∧ (¬ (1 ≤ v ∧ v ≤ 99999))) ∨ (∃ (D : Int → Int), rv = some (iv (-4)) ∧ M' = (up1 M1 81 D) ∧ (1 ≤ v ∧ v ≤ 99999) ∧ (M1 79 20 = 3)) ∨ (∃ (D : Int → Int), rv = some (iv (M1 79 20)) ∧ M' = (up1 (up1 M1 81 D) 79 (comW (M1 79) (dgn v) (dgt v (dgn v)))) ∧ (1 ≤ v ∧ v ≤ 99999) ∧ (M1 79 20 < 3)))) r2 M2) : ∃ x : Int, r1 = some (iv x) ∧ r2 = some (iv x) ∧ InvP M2 := by
  have h20 : M 2 2 = M 79 20 := hI.1.1.1
  have h3 : M 3 = M 79 := hI.1.1.2.1
  have h11 : M 11 = tdW (M 79) := hI.1.1.2.2.1
  have hw := hI.1.2
  have hm9 := hw.2.2.1
  rcases a1 with ⟨rfl, hM1, xp0⟩ | ⟨rfl, hM1, xp0, xp1⟩ | ⟨rfl, hM1, xp0, xp1⟩
  · skip
    have e78 : M1 78 = M 78 := by rw [hM1]
    have e79 : M1 79 = M 79 := by rw [hM1]
    have e80 : M1 80 = M 80 := by rw [hM1]
    have e82 : M1 82 = M 82 := by rw [hM1]
    have e92 : M1 92 = M 92 := by rw [hM1]
    have e93 : M1 93 = M 93 := by rw [hM1]
    have e94 : M1 94 = M 94 := by rw [hM1]
    try simp only [e78, e79, e80, e82, e92, e93, e94] at a2
    rcases a2 with ⟨rfl, hM2, yp0⟩ | ⟨y0, rfl, hM2, yp0, yp1⟩ | ⟨y0, rfl, hM2, yp0, yp1⟩
    · skip
      refine ⟨_, some_iv (rfl), rfl, ?_⟩
      exact (kAll hI (fun i hi => by rw [hM2]; skip; rw [hM1]) (by rw [hM2]; exact congrFun e78 2) (by rw [hM2]; exact congrFun e78 5))
    · skip
      exfalso; omega
    · skip
      exfalso; omega
  · skip
    have e78 : M1 78 = M 78 := by rw [hM1]
    have e79 : M1 79 = M 79 := by rw [hM1]
    have e80 : M1 80 = M 80 := by rw [hM1]
    have e82 : M1 82 = M 82 := by rw [hM1]
    have e92 : M1 92 = M 92 := by rw [hM1]
    have e93 : M1 93 = M 93 := by rw [hM1]
    have e94 : M1 94 = M 94 := by rw [hM1]
    try simp only [e78, e79, e80, e82, e92, e93, e94] at a2
    rcases a2 with ⟨rfl, hM2, yp0⟩ | ⟨y0, rfl, hM2, yp0, yp1⟩ | ⟨y0, rfl, hM2, yp0, yp1⟩
    · skip
      exfalso; omega
    · skip
      refine ⟨_, some_iv (rfl), rfl, ?_⟩
      exact (kAll hI (fun i hi => by rw [hM2]; (repeat (rw [up1_ne (by first | omega | (unfold basQ; omega) | (unfold tpQ; omega))])); rw [hM1]) (by rw [hM2]; exact congrFun e78 2) (by rw [hM2]; exact congrFun e78 5))
    · skip
      exfalso; omega
  · skip
    have e78 : M1 78 = M 78 := by rw [hM1]; (repeat (rw [up1_ne (by first | omega | (unfold basQ; omega) | (unfold tpQ; omega))]))
    have e79 : M1 79 = M 79 := by rw [hM1]; (repeat (rw [up1_ne (by first | omega | (unfold basQ; omega) | (unfold tpQ; omega))]))
    have e80 : M1 80 = M 80 := by rw [hM1]; (repeat (rw [up1_ne (by first | omega | (unfold basQ; omega) | (unfold tpQ; omega))]))
    have e82 : M1 82 = M 82 := by rw [hM1]; (repeat (rw [up1_ne (by first | omega | (unfold basQ; omega) | (unfold tpQ; omega))]))
    have e92 : M1 92 = M 92 := by rw [hM1]; (repeat (rw [up1_ne (by first | omega | (unfold basQ; omega) | (unfold tpQ; omega))]))
    have e93 : M1 93 = M 93 := by rw [hM1]; (repeat (rw [up1_ne (by first | omega | (unfold basQ; omega) | (unfold tpQ; omega))]))
    have e94 : M1 94 = M 94 := by rw [hM1]; (repeat (rw [up1_ne (by first | omega | (unfold basQ; omega) | (unfold tpQ; omega))]))
    try simp only [e78, e79, e80, e82, e92, e93, e94] at a2
    rcases a2 with ⟨rfl, hM2, yp0⟩ | ⟨y0, rfl, hM2, yp0, yp1⟩ | ⟨y0, rfl, hM2, yp0, yp1⟩
    · skip
      exfalso; omega
    · skip
      exfalso; omega
    · skip
      refine ⟨_, some_iv (h20), rfl, ?_⟩
      exact (kSite hI (M2 := M2) (W' := (comW (M 79) (dgn v) (dgt v (dgn v)))) (by
        rw [hM2, hM1]
        have q := RelP_basin hI.1.1 (c := dgn v) (N := dgt v (dgn v)) (by omega) (by omega) (fun k _ _ => dgt_cp k)
        exact RelP_eq q (fun i i0 i1 => by rw [up1_ne (by omega), up1_ne (by omega)]; rfl)) (comW_WOk hw (by omega) (dgn_rng (by omega)) (dgt_rng v) (dgt_top (by omega))) (by rw [hM2]; rfl) (comW_far (by omega)) (by unfold comW; rw [if_pos rfl]; omega) (fun i hi => by rw [hM2]; (repeat (rw [up1_ne (by first | omega | (unfold basQ; omega) | (unfold tpQ; omega))])); rw [hM1]; (repeat (rw [up1_ne (by first | omega | (unfold basQ; omega) | (unfold tpQ; omega))]))) (by rw [hM2]; exact congrFun e78 2) (by rw [hM2]; exact congrFun e78 5))
theorem pr_hold {M M1 M2 : Mem} {r1 r2 : Option Value} {b : Int} {k : Int} {n : Int} (hI : InvF M) (a1 : ((fun rv M' => (rv = some (iv (-1)) ∧ M' = M ∧ (¬ (0 ≤ b ∧ b < M 2 2))) ∨ (rv = some (iv (-2)) ∧ M' = M ∧ (0 ≤ b ∧ b < M 2 2) ∧ (¬ (0 ≤ k ∧ k ≤ 4) ∨ ¬ (0 ≤ n ∧ n ≤ 9) ∨ (k = 2 ∧ n = 0))) ∨ (rv = some (iv (10 * M (basQ b) 2 + M (basQ b) 3)) ∧ M' = (up1 M (basQ b) (up (up (M (basQ b)) 2 k) 3 n)) ∧ (0 ≤ b ∧ b < M 2 2) ∧ ((0 ≤ k ∧ k ≤ 4) ∧ (0 ≤ n ∧ n ≤ 9) ∧ ¬ (k = 2 ∧ n = 0))))) r1 M1) (a2 : ((fun rv M' => (rv = some (iv (-1)) ∧ M' = M1 ∧ (¬ (0 ≤ b ∧ b < M1 79 20))) ∨ (rv = some (iv (-2)) ∧ M' = M1 ∧ (0 ≤ b ∧ b < M1 79 20) ∧ (¬ (0 ≤ k ∧ k ≤ 4) ∨ ¬ (0 ≤ n ∧ n ≤ 9) ∨ (k = 2 ∧ n = 0))) ∨ (rv = some (iv (10 * bsK (M1 79) b + bsN (M1 79) b)) ∧ M' = (up1 M1 79 (up (up (M1 79) (21 + 8 * b + 6) k) (21 + 8 * b + 7) n)) ∧ (0 ≤ b ∧ b < M1 79 20) ∧ ((0 ≤ k ∧ k ≤ 4) ∧ (0 ≤ n ∧ n ≤ 9) ∧ ¬ (k = 2 ∧ n = 0))))) r2 M2) : ∃ x : Int, r1 = some (iv x) ∧ r2 = some (iv x) ∧ InvP M2 := by
  have h20 : M 2 2 = M 79 20 := hI.1.1.1
  have h3 : M 3 = M 79 := hI.1.1.2.1
  have h11 : M 11 = tdW (M 79) := hI.1.1.2.2.1
  have hw := hI.1.2
  have hm9 := hw.2.2.1
  rcases a1 with ⟨rfl, hM1, xp0⟩ | ⟨rfl, hM1, xp0, xp1⟩ | ⟨rfl, hM1, xp0, xp1⟩
  · skip
    have e78 : M1 78 = M 78 := by rw [hM1]
    have e79 : M1 79 = M 79 := by rw [hM1]
    have e80 : M1 80 = M 80 := by rw [hM1]
    have e82 : M1 82 = M 82 := by rw [hM1]
    have e92 : M1 92 = M 92 := by rw [hM1]
    have e93 : M1 93 = M 93 := by rw [hM1]
    have e94 : M1 94 = M 94 := by rw [hM1]
    try simp only [e78, e79, e80, e82, e92, e93, e94] at a2
    rcases a2 with ⟨rfl, hM2, yp0⟩ | ⟨rfl, hM2, yp0, yp1⟩ | ⟨rfl, hM2, yp0, yp1⟩
    · skip
      refine ⟨_, some_iv (rfl), rfl, ?_⟩
      exact (kAll hI (fun i hi => by rw [hM2]; skip; rw [hM1]) (by rw [hM2]; exact congrFun e78 2) (by rw [hM2]; exact congrFun e78 5))
    · skip
      exfalso; omega
    · skip
      exfalso; omega
  · skip
    have e78 : M1 78 = M 78 := by rw [hM1]
    have e79 : M1 79 = M 79 := by rw [hM1]
    have e80 : M1 80 = M 80 := by rw [hM1]
    have e82 : M1 82 = M 82 := by rw [hM1]
    have e92 : M1 92 = M 92 := by rw [hM1]
    have e93 : M1 93 = M 93 := by rw [hM1]
    have e94 : M1 94 = M 94 := by rw [hM1]
    try simp only [e78, e79, e80, e82, e92, e93, e94] at a2
    rcases a2 with ⟨rfl, hM2, yp0⟩ | ⟨rfl, hM2, yp0, yp1⟩ | ⟨rfl, hM2, yp0, yp1⟩
    · skip
      exfalso; omega
    · skip
      refine ⟨_, some_iv (rfl), rfl, ?_⟩
      exact (kAll hI (fun i hi => by rw [hM2]; skip; rw [hM1]) (by rw [hM2]; exact congrFun e78 2) (by rw [hM2]; exact congrFun e78 5))
    · skip
      exfalso; omega
  · skip
    have e78 : M1 78 = M 78 := by rw [hM1]; (repeat (rw [up1_ne (by first | omega | (unfold basQ; omega) | (unfold tpQ; omega))]))
    have e79 : M1 79 = M 79 := by rw [hM1]; (repeat (rw [up1_ne (by first | omega | (unfold basQ; omega) | (unfold tpQ; omega))]))
    have e80 : M1 80 = M 80 := by rw [hM1]; (repeat (rw [up1_ne (by first | omega | (unfold basQ; omega) | (unfold tpQ; omega))]))
    have e82 : M1 82 = M 82 := by rw [hM1]; (repeat (rw [up1_ne (by first | omega | (unfold basQ; omega) | (unfold tpQ; omega))]))
    have e92 : M1 92 = M 92 := by rw [hM1]; (repeat (rw [up1_ne (by first | omega | (unfold basQ; omega) | (unfold tpQ; omega))]))
    have e93 : M1 93 = M 93 := by rw [hM1]; (repeat (rw [up1_ne (by first | omega | (unfold basQ; omega) | (unfold tpQ; omega))]))
    have e94 : M1 94 = M 94 := by rw [hM1]; (repeat (rw [up1_ne (by first | omega | (unfold basQ; omega) | (unfold tpQ; omega))]))
    try simp only [e78, e79, e80, e82, e92, e93, e94] at a2
    rcases a2 with ⟨rfl, hM2, yp0⟩ | ⟨rfl, hM2, yp0, yp1⟩ | ⟨rfl, hM2, yp0, yp1⟩
    · skip
      exfalso; omega
    · skip
      exfalso; omega
    · skip
      have hB := basF hI (b := b) (by omega) (by omega)
      have hb2 : M (basQ b) 2 = bsK (M 79) b := hB.2.1
      have hb3 : M (basQ b) 3 = bsN (M 79) b := hB.2.2.1
      have hb4 : M (basQ b + 1) = bsA (M 79) b := hB.2.2.2
      refine ⟨_, some_iv (by rw [hb2, hb3]), rfl, ?_⟩
      exact (kSite hI (M2 := M2) (W' := (up (up (M 79) (21 + 8 * b + 6) k) (21 + 8 * b + 7) n)) (by
        rw [hM2, hM1]
        have q := RelP_hold hI.1.1 (b := b) (k := k) (n := n) (by omega) (by omega)
        exact RelP_eq q (fun i i0 i1 => by rw [up1_ne (by omega)])) (hld_WOk hw (by omega) (by omega) (by omega) (by omega)) (by rw [hM2]; rfl) (fun j hj => by rw [up_ne (by omega), up_ne (by omega)]) (by rw [up_ne (by omega), up_ne (by omega)]; exact Int.le_refl _) (fun i hi => by rw [hM2]; (repeat (rw [up1_ne (by first | omega | (unfold basQ; omega) | (unfold tpQ; omega))])); rw [hM1]; (repeat (rw [up1_ne (by first | omega | (unfold basQ; omega) | (unfold tpQ; omega))]))) (by rw [hM2]; exact congrFun e78 2) (by rw [hM2]; exact congrFun e78 5))
theorem pr_take {M M1 M2 : Mem} {r1 r2 : Option Value} {b : Int} (hI : InvF M) (a1 : ((fun rv M' => (rv = some (iv (-1)) ∧ M' = M ∧ (¬ (0 ≤ b ∧ b < M 2 2))) ∨ (∃ (L U : Int → Int), rv = some (iv (-3)) ∧ M' = (up1 (up1 M 55 L) 56 U) ∧ (0 ≤ b ∧ b < M 2 2) ∧ (unfR (M 11) (M (basQ b + 1)) ≠ -5)) ∨ (∃ (L U : Int → Int), rv = some (iv (msr 0 (dvQ (M 11) (M (basQ b + 1)) 0 5) 8)) ∧ M' = (up1 (up1 (up1 M 55 L) 56 U) 3 (dvQ (M 11) (M (basQ b + 1)) 0 5)) ∧ (0 ≤ b ∧ b < M 2 2) ∧ (unfR (M 11) (M (basQ b + 1)) = -5)))) r1 M1) (a2 : ((fun rv M' => (rv = some (iv (-1)) ∧ M' = M1 ∧ (¬ (0 ≤ b ∧ b < M1 79 20))) ∨ (∃ (L U : Int → Int), rv = some (iv (-3)) ∧ M' = (up1 (up1 M1 87 L) 88 U) ∧ (0 ≤ b ∧ b < M1 79 20) ∧ (unfR (tdW (M1 79)) (bsA (M1 79) b) ≠ -5)) ∨ (∃ (L U : Int → Int), rv = some (iv (sumf (dvQ (tdW (M1 79)) (bsA (M1 79) b) 0 5) 8)) ∧ M' = (up1 (up1 (up1 M1 87 L) 88 U) 79 (lay (dvQ (tdW (M1 79)) (bsA (M1 79) b) 0 5) (M1 79))) ∧ (0 ≤ b ∧ b < M1 79 20) ∧ (unfR (tdW (M1 79)) (bsA (M1 79) b) = -5)))) r2 M2) : ∃ x : Int, r1 = some (iv x) ∧ r2 = some (iv x) ∧ InvP M2 := by
  have h20 : M 2 2 = M 79 20 := hI.1.1.1
  have h3 : M 3 = M 79 := hI.1.1.2.1
  have h11 : M 11 = tdW (M 79) := hI.1.1.2.2.1
  have hw := hI.1.2
  have hm9 := hw.2.2.1
  rcases a1 with ⟨rfl, hM1, xp0⟩ | ⟨x0, x1, rfl, hM1, xp0, xp1⟩ | ⟨x0, x1, rfl, hM1, xp0, xp1⟩
  · skip
    have e78 : M1 78 = M 78 := by rw [hM1]
    have e79 : M1 79 = M 79 := by rw [hM1]
    have e80 : M1 80 = M 80 := by rw [hM1]
    have e82 : M1 82 = M 82 := by rw [hM1]
    have e92 : M1 92 = M 92 := by rw [hM1]
    have e93 : M1 93 = M 93 := by rw [hM1]
    have e94 : M1 94 = M 94 := by rw [hM1]
    try simp only [e78, e79, e80, e82, e92, e93, e94] at a2
    rcases a2 with ⟨rfl, hM2, yp0⟩ | ⟨y0, y1, rfl, hM2, yp0, yp1⟩ | ⟨y0, y1, rfl, hM2, yp0, yp1⟩
    · skip
      refine ⟨_, some_iv (rfl), rfl, ?_⟩
      exact (kAll hI (fun i hi => by rw [hM2]; skip; rw [hM1]) (by rw [hM2]; exact congrFun e78 2) (by rw [hM2]; exact congrFun e78 5))
    · skip
      exfalso; omega
    · skip
      exfalso; omega
  · skip
    have hB := basF hI (b := b) (by omega) (by omega)
    have hb2 : M (basQ b) 2 = bsK (M 79) b := hB.2.1
    have hb3 : M (basQ b) 3 = bsN (M 79) b := hB.2.2.1
    have hb4 : M (basQ b + 1) = bsA (M 79) b := hB.2.2.2
    rw [h11, hb4] at xp1
    have e78 : M1 78 = M 78 := by rw [hM1]; (repeat (rw [up1_ne (by first | omega | (unfold basQ; omega) | (unfold tpQ; omega))]))
    have e79 : M1 79 = M 79 := by rw [hM1]; (repeat (rw [up1_ne (by first | omega | (unfold basQ; omega) | (unfold tpQ; omega))]))
    have e80 : M1 80 = M 80 := by rw [hM1]; (repeat (rw [up1_ne (by first | omega | (unfold basQ; omega) | (unfold tpQ; omega))]))
    have e82 : M1 82 = M 82 := by rw [hM1]; (repeat (rw [up1_ne (by first | omega | (unfold basQ; omega) | (unfold tpQ; omega))]))
    have e92 : M1 92 = M 92 := by rw [hM1]; (repeat (rw [up1_ne (by first | omega | (unfold basQ; omega) | (unfold tpQ; omega))]))
    have e93 : M1 93 = M 93 := by rw [hM1]; (repeat (rw [up1_ne (by first | omega | (unfold basQ; omega) | (unfold tpQ; omega))]))
    have e94 : M1 94 = M 94 := by rw [hM1]; (repeat (rw [up1_ne (by first | omega | (unfold basQ; omega) | (unfold tpQ; omega))]))
    try simp only [e78, e79, e80, e82, e92, e93, e94] at a2
    rcases a2 with ⟨rfl, hM2, yp0⟩ | ⟨y0, y1, rfl, hM2, yp0, yp1⟩ | ⟨y0, y1, rfl, hM2, yp0, yp1⟩
    · skip
      exfalso; omega
    · skip
      refine ⟨_, some_iv (rfl), rfl, ?_⟩
      exact (kAll hI (fun i hi => by rw [hM2]; (repeat (rw [up1_ne (by first | omega | (unfold basQ; omega) | (unfold tpQ; omega))])); rw [hM1]; (repeat (rw [up1_ne (by first | omega | (unfold basQ; omega) | (unfold tpQ; omega))]))) (by rw [hM2]; exact congrFun e78 2) (by rw [hM2]; exact congrFun e78 5))
    · skip
      exfalso; omega
  · skip
    have hB := basF hI (b := b) (by omega) (by omega)
    have hb2 : M (basQ b) 2 = bsK (M 79) b := hB.2.1
    have hb3 : M (basQ b) 3 = bsN (M 79) b := hB.2.2.1
    have hb4 : M (basQ b + 1) = bsA (M 79) b := hB.2.2.2
    rw [h11, hb4] at xp1
    have e78 : M1 78 = M 78 := by rw [hM1]; (repeat (rw [up1_ne (by first | omega | (unfold basQ; omega) | (unfold tpQ; omega))]))
    have e79 : M1 79 = M 79 := by rw [hM1]; (repeat (rw [up1_ne (by first | omega | (unfold basQ; omega) | (unfold tpQ; omega))]))
    have e80 : M1 80 = M 80 := by rw [hM1]; (repeat (rw [up1_ne (by first | omega | (unfold basQ; omega) | (unfold tpQ; omega))]))
    have e82 : M1 82 = M 82 := by rw [hM1]; (repeat (rw [up1_ne (by first | omega | (unfold basQ; omega) | (unfold tpQ; omega))]))
    have e92 : M1 92 = M 92 := by rw [hM1]; (repeat (rw [up1_ne (by first | omega | (unfold basQ; omega) | (unfold tpQ; omega))]))
    have e93 : M1 93 = M 93 := by rw [hM1]; (repeat (rw [up1_ne (by first | omega | (unfold basQ; omega) | (unfold tpQ; omega))]))
    have e94 : M1 94 = M 94 := by rw [hM1]; (repeat (rw [up1_ne (by first | omega | (unfold basQ; omega) | (unfold tpQ; omega))]))
    try simp only [e78, e79, e80, e82, e92, e93, e94] at a2
    rcases a2 with ⟨rfl, hM2, yp0⟩ | ⟨y0, y1, rfl, hM2, yp0, yp1⟩ | ⟨y0, y1, rfl, hM2, yp0, yp1⟩
    · skip
      exfalso; omega
    · skip
      exfalso; omega
    · skip
      have hq9 : bdf (dvQ (tdW (M 79)) (bsA (M 79) b) 0 5) 8 0 20 := fun k k0 k1 => dvQ_rng (unfR_no yp1) k k0 (by omega)
      refine ⟨_, some_iv (by rw [h11, hb4]; rfl), rfl, ?_⟩
      exact (kSite hI (M2 := M2) (W' := (lay (dvQ (tdW (M 79)) (bsA (M 79) b) 0 5) (M 79))) (by rw [hM2, hM1]; exact RelP_low hI.1.1 rfl rfl rfl rfl rfl rfl rfl (fun j hj => by show lay _ _ j = _; unfold lay; rw [if_neg (by omega)]) (fun k k0 k1 => by show dvQ (M 11) (M (basQ b + 1)) 0 5 k = lay _ _ k; rw [h11, hb4]; unfold lay; rw [if_pos (by omega)]) (fun k k0 k1 => by show M 11 k = lay _ _ (8 + k); rw [h11]; unfold lay; rw [if_neg (by omega)]; rfl)) (WOk_far hw (fun j hj => by show lay _ _ j = _; unfold lay; rw [if_neg (by omega)]) (fun j j0 j1 => by show 0 ≤ lay _ _ j ∧ lay _ _ j ≤ 20; unfold lay; rw [if_pos (by omega)]; exact hq9 j j0 j1)) (by rw [hM2]; rfl) (fun j hj => by unfold lay; rw [if_neg (by omega)]) (by unfold lay; rw [if_neg (by omega)]; exact Int.le_refl _) (fun i hi => by rw [hM2]; (repeat (rw [up1_ne (by first | omega | (unfold basQ; omega) | (unfold tpQ; omega))])); rw [hM1]; (repeat (rw [up1_ne (by first | omega | (unfold basQ; omega) | (unfold tpQ; omega))]))) (by rw [hM2]; exact congrFun e78 2) (by rw [hM2]; exact congrFun e78 5))
