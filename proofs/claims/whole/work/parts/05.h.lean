theorem pr_of {M M1 M2 : Mem} {r1 r2 : Option Value} {s : Int} {h : Int} (hI : InvF M) (a1 : ((fun rv M' => (rv = some (iv (-1)) ∧ M' = M ∧ ((s = 0 ∧ ¬ (0 ≤ h ∧ h < 8)) ∨ (s = 1 ∧ ¬ (0 ≤ h ∧ h < 12)) ∨ ¬ (0 ≤ s ∧ s ≤ 2))) ∨ (∃ (F O : Int → Int), rv = some (iv (-1)) ∧ M' = (up1 (up1 (up1 M 53 (jnS M 2 (M 2 2).toNat)) 51 F) 52 O) ∧ (s = 2) ∧ (¬ (0 ≤ h ∧ h < 30))) ∨ (rv = some (iv (M 3 h)) ∧ M' = M ∧ (s = 0) ∧ (0 ≤ h ∧ h < 8)) ∨ (rv = some (iv (M 11 h)) ∧ M' = M ∧ (s = 1) ∧ (0 ≤ h ∧ h < 12)) ∨ (∃ (F O : Int → Int), rv = some (iv ((jnS M 2 (M 2 2).toNat) h)) ∧ M' = (up1 (up1 (up1 M 53 (jnS M 2 (M 2 2).toNat)) 51 F) 52 O) ∧ (s = 2) ∧ (0 ≤ h ∧ h < 30)))) r1 M1) (a2 : ((fun rv M' => (rv = some (iv (-1)) ∧ M' = M1 ∧ ((s = 0 ∧ ¬ (0 ≤ h ∧ h ≤ 7)) ∨ (s = 1 ∧ ¬ (0 ≤ h ∧ h ≤ 11)) ∨ (s = 2 ∧ ¬ (0 ≤ h ∧ h ≤ 29)) ∨ ¬ (0 ≤ s ∧ s ≤ 2))) ∨ (rv = some (iv (M1 79 h)) ∧ M' = M1 ∧ (s = 0) ∧ (0 ≤ h ∧ h ≤ 7)) ∨ (rv = some (iv (tdW (M1 79) h)) ∧ M' = M1 ∧ (s = 1) ∧ (0 ≤ h ∧ h ≤ 11)) ∨ (∃ (F O C : Int → Int), rv = some (iv (jnW (M1 79) h)) ∧ M' = (up1 (up1 (up1 (up1 M1 84 F) 85 O) 78 C) 86 (jnW (M1 79))) ∧ (s = 2) ∧ (0 ≤ h ∧ h ≤ 29) ∧ (∀ j : Int, j ≠ 13 → C j = M1 78 j)))) r2 M2) : ∃ x : Int, r1 = some (iv x) ∧ r2 = some (iv x) ∧ InvP M2 := by
  have h20 : M 2 2 = M 79 20 := hI.1.1.1
  have h3 : M 3 = M 79 := hI.1.1.2.1
  have h11 : M 11 = tdW (M 79) := hI.1.1.2.2.1
  have hw := hI.1.2
  have hm9 := hw.2.2.1
  rcases a1 with ⟨rfl, hM1, xp0⟩ | ⟨x0, x1, rfl, hM1, xp0, xp1⟩ | ⟨rfl, hM1, xp0, xp1⟩ | ⟨rfl, hM1, xp0, xp1⟩ | ⟨x0, x1, rfl, hM1, xp0, xp1⟩
  · skip
    have e78 : M1 78 = M 78 := by rw [hM1]
    have e79 : M1 79 = M 79 := by rw [hM1]
    have e80 : M1 80 = M 80 := by rw [hM1]
    have e82 : M1 82 = M 82 := by rw [hM1]
    have e92 : M1 92 = M 92 := by rw [hM1]
    have e93 : M1 93 = M 93 := by rw [hM1]
    have e94 : M1 94 = M 94 := by rw [hM1]
    try simp only [e78, e79, e80, e82, e92, e93, e94] at a2
    rcases a2 with ⟨rfl, hM2, yp0⟩ | ⟨rfl, hM2, yp0, yp1⟩ | ⟨rfl, hM2, yp0, yp1⟩ | ⟨y0, y1, y2, rfl, hM2, yp0, yp1, yp2⟩
    · skip
      refine ⟨_, some_iv (rfl), rfl, ?_⟩
      exact (kAll hI (fun i hi => by rw [hM2]; skip; rw [hM1]) (by rw [hM2]; exact congrFun e78 2) (by rw [hM2]; exact congrFun e78 5))
    · skip
      exfalso; omega
    · skip
      exfalso; omega
    · skip
      exfalso; omega
  · skip
    have e78 : M1 78 = M 78 := by rw [hM1]; (repeat (rw [up1_ne (by first | omega | (unfold basQ; omega) | (unfold tpQ; omega))]))
    have e79 : M1 79 = M 79 := by rw [hM1]; (repeat (rw [up1_ne (by first | omega | (unfold basQ; omega) | (unfold tpQ; omega))]))
    have e80 : M1 80 = M 80 := by rw [hM1]; (repeat (rw [up1_ne (by first | omega | (unfold basQ; omega) | (unfold tpQ; omega))]))
    have e82 : M1 82 = M 82 := by rw [hM1]; (repeat (rw [up1_ne (by first | omega | (unfold basQ; omega) | (unfold tpQ; omega))]))
    have e92 : M1 92 = M 92 := by rw [hM1]; (repeat (rw [up1_ne (by first | omega | (unfold basQ; omega) | (unfold tpQ; omega))]))
    have e93 : M1 93 = M 93 := by rw [hM1]; (repeat (rw [up1_ne (by first | omega | (unfold basQ; omega) | (unfold tpQ; omega))]))
    have e94 : M1 94 = M 94 := by rw [hM1]; (repeat (rw [up1_ne (by first | omega | (unfold basQ; omega) | (unfold tpQ; omega))]))
    try simp only [e78, e79, e80, e82, e92, e93, e94] at a2
    rcases a2 with ⟨rfl, hM2, yp0⟩ | ⟨rfl, hM2, yp0, yp1⟩ | ⟨rfl, hM2, yp0, yp1⟩ | ⟨y0, y1, y2, rfl, hM2, yp0, yp1, yp2⟩
    · skip
      refine ⟨_, some_iv (rfl), rfl, ?_⟩
      exact (kAll hI (fun i hi => by rw [hM2]; skip; rw [hM1]; (repeat (rw [up1_ne (by first | omega | (unfold basQ; omega) | (unfold tpQ; omega))]))) (by rw [hM2]; exact congrFun e78 2) (by rw [hM2]; exact congrFun e78 5))
    · skip
      exfalso; omega
    · skip
      exfalso; omega
    · skip
      exfalso; omega
  · skip
    have e78 : M1 78 = M 78 := by rw [hM1]
    have e79 : M1 79 = M 79 := by rw [hM1]
    have e80 : M1 80 = M 80 := by rw [hM1]
    have e82 : M1 82 = M 82 := by rw [hM1]
    have e92 : M1 92 = M 92 := by rw [hM1]
    have e93 : M1 93 = M 93 := by rw [hM1]
    have e94 : M1 94 = M 94 := by rw [hM1]
    try simp only [e78, e79, e80, e82, e92, e93, e94] at a2
    rcases a2 with ⟨rfl, hM2, yp0⟩ | ⟨rfl, hM2, yp0, yp1⟩ | ⟨rfl, hM2, yp0, yp1⟩ | ⟨y0, y1, y2, rfl, hM2, yp0, yp1, yp2⟩
    · skip
      exfalso; omega
    · skip
      refine ⟨_, some_iv (by rw [h3]), rfl, ?_⟩
      exact (kAll hI (fun i hi => by rw [hM2]; skip; rw [hM1]) (by rw [hM2]; exact congrFun e78 2) (by rw [hM2]; exact congrFun e78 5))
    · skip
      exfalso; omega
    · skip
      exfalso; omega
  · skip
    have e78 : M1 78 = M 78 := by rw [hM1]
    have e79 : M1 79 = M 79 := by rw [hM1]
    have e80 : M1 80 = M 80 := by rw [hM1]
    have e82 : M1 82 = M 82 := by rw [hM1]
    have e92 : M1 92 = M 92 := by rw [hM1]
    have e93 : M1 93 = M 93 := by rw [hM1]
    have e94 : M1 94 = M 94 := by rw [hM1]
    try simp only [e78, e79, e80, e82, e92, e93, e94] at a2
    rcases a2 with ⟨rfl, hM2, yp0⟩ | ⟨rfl, hM2, yp0, yp1⟩ | ⟨rfl, hM2, yp0, yp1⟩ | ⟨y0, y1, y2, rfl, hM2, yp0, yp1, yp2⟩
    · skip
      exfalso; omega
    · skip
      exfalso; omega
    · skip
      refine ⟨_, some_iv (by rw [h11]), rfl, ?_⟩
      exact (kAll hI (fun i hi => by rw [hM2]; skip; rw [hM1]) (by rw [hM2]; exact congrFun e78 2) (by rw [hM2]; exact congrFun e78 5))
    · skip
      exfalso; omega
  · skip
    have e78 : M1 78 = M 78 := by rw [hM1]; (repeat (rw [up1_ne (by first | omega | (unfold basQ; omega) | (unfold tpQ; omega))]))
    have e79 : M1 79 = M 79 := by rw [hM1]; (repeat (rw [up1_ne (by first | omega | (unfold basQ; omega) | (unfold tpQ; omega))]))
    have e80 : M1 80 = M 80 := by rw [hM1]; (repeat (rw [up1_ne (by first | omega | (unfold basQ; omega) | (unfold tpQ; omega))]))
    have e82 : M1 82 = M 82 := by rw [hM1]; (repeat (rw [up1_ne (by first | omega | (unfold basQ; omega) | (unfold tpQ; omega))]))
    have e92 : M1 92 = M 92 := by rw [hM1]; (repeat (rw [up1_ne (by first | omega | (unfold basQ; omega) | (unfold tpQ; omega))]))
    have e93 : M1 93 = M 93 := by rw [hM1]; (repeat (rw [up1_ne (by first | omega | (unfold basQ; omega) | (unfold tpQ; omega))]))
    have e94 : M1 94 = M 94 := by rw [hM1]; (repeat (rw [up1_ne (by first | omega | (unfold basQ; omega) | (unfold tpQ; omega))]))
    try simp only [e78, e79, e80, e82, e92, e93, e94] at a2
    rcases a2 with ⟨rfl, hM2, yp0⟩ | ⟨rfl, hM2, yp0, yp1⟩ | ⟨rfl, hM2, yp0, yp1⟩ | ⟨y0, y1, y2, rfl, hM2, yp0, yp1, yp2⟩
    · skip
      exfalso; omega
    · skip
      exfalso; omega
    · skip
      exfalso; omega
    · skip
      refine ⟨_, some_iv (by rw [jnS_W hI]), rfl, ?_⟩
      exact (kAll hI (fun i hi => by rw [hM2]; (repeat (rw [up1_ne (by first | omega | (unfold basQ; omega) | (unfold tpQ; omega))])); rw [hM1]; (repeat (rw [up1_ne (by first | omega | (unfold basQ; omega) | (unfold tpQ; omega))]))) (by rw [hM2]; exact yp2 2 (by decide)) (by rw [hM2]; exact yp2 5 (by decide)))
theorem pr_told {M M1 M2 : Mem} {r1 r2 : Option Value} {b : Int} {w : Int} (hI : InvF M) (a1 : ((fun rv M' => (rv = some (iv (-1)) ∧ M' = M ∧ (¬ (0 ≤ b ∧ b < M 2 2) ∨ ¬ (-1 ≤ w ∧ w ≤ 7))) ∨ (rv = some (iv (M (basQ b) 1)) ∧ M' = M ∧ (0 ≤ b ∧ b < M 2 2) ∧ (w = -1)) ∨ (rv = some (iv (M (basQ b) 2)) ∧ M' = M ∧ (0 ≤ b ∧ b < M 2 2) ∧ (w = 5)) ∨ (rv = some (iv (M (basQ b) 3)) ∧ M' = M ∧ (0 ≤ b ∧ b < M 2 2) ∧ (w = 6)) ∨ (rv = some (iv (sto (M (basQ b) 2) (M (basQ b) 3) (fl (M 3) (M (basQ b + 1)) 8) 30)) ∧ M' = (up1 (up1 M 51 (fl (M 3) (M (basQ b + 1)) 8)) 52 (otp (M (basQ b) 2) (M (basQ b) 3) (fl (M 3) (M (basQ b + 1)) 8))) ∧ (0 ≤ b ∧ b < M 2 2) ∧ (w = 7)) ∨ (rv = some (iv (M (basQ b + 1) w)) ∧ M' = M ∧ (0 ≤ b ∧ b < M 2 2) ∧ (0 ≤ w ∧ w ≤ 4)))) r1 M1) (a2 : ((fun rv M' => (rv = some (iv (-1)) ∧ M' = M1 ∧ (¬ (0 ≤ b ∧ b < M1 79 20) ∨ ¬ (-1 ≤ w ∧ w ≤ 7))) ∨ (rv = some (iv (sto (bsK (M1 79) b) (bsN (M1 79) b) (fl (M1 79) (bsA (M1 79) b) 8) 30)) ∧ M' = (up1 (up1 (up1 M1 84 (fl (M1 79) (bsA (M1 79) b) 8)) 78 (up (M1 78) 13 (sto (bsK (M1 79) b) (bsN (M1 79) b) (fl (M1 79) (bsA (M1 79) b) 8) 30))) 85 (otp (bsK (M1 79) b) (bsN (M1 79) b) (fl (M1 79) (bsA (M1 79) b) 8))) ∧ (0 ≤ b ∧ b < M1 79 20) ∧ (w = 7)) ∨ (rv = some (iv (M1 79 (21 + 8 * b + 1 + w))) ∧ M' = M1 ∧ (0 ≤ b ∧ b < M1 79 20) ∧ (-1 ≤ w ∧ w ≤ 6)))) r2 M2) : ∃ x : Int, r1 = some (iv x) ∧ r2 = some (iv x) ∧ InvP M2 := by
  have h20 : M 2 2 = M 79 20 := hI.1.1.1
  have h3 : M 3 = M 79 := hI.1.1.2.1
  have h11 : M 11 = tdW (M 79) := hI.1.1.2.2.1
  have hw := hI.1.2
  have hm9 := hw.2.2.1
  rcases a1 with ⟨rfl, hM1, xp0⟩ | ⟨rfl, hM1, xp0, xp1⟩ | ⟨rfl, hM1, xp0, xp1⟩ | ⟨rfl, hM1, xp0, xp1⟩ | ⟨rfl, hM1, xp0, xp1⟩ | ⟨rfl, hM1, xp0, xp1⟩
  · skip
    have e78 : M1 78 = M 78 := by rw [hM1]
    have e79 : M1 79 = M 79 := by rw [hM1]
    have e80 : M1 80 = M 80 := by rw [hM1]
    have e82 : M1 82 = M 82 := by rw [hM1]
    have e92 : M1 92 = M 92 := by rw [hM1]
    have e93 : M1 93 = M 93 := by rw [hM1]
    have e94 : M1 94 = M 94 := by rw [hM1]
    try simp only [e78, e79, e80, e82, e92, e93, e94] at a2
    rcases a2 with ⟨rfl, hM2, yp0⟩ | ⟨rfl, hM2, yp0, yp1⟩ | ⟨rfl, hM2, yp0, yp1⟩
    · skip
      refine ⟨_, some_iv (rfl), rfl, ?_⟩
      exact (kAll hI (fun i hi => by rw [hM2]; skip; rw [hM1]) (by rw [hM2]; exact congrFun e78 2) (by rw [hM2]; exact congrFun e78 5))
    · skip
      exfalso; omega
    · skip
      exfalso; omega
  · skip
    have e78 : M1 78 = M 78 := by rw [hM1]
    have e79 : M1 79 = M 79 := by rw [hM1]
    have e80 : M1 80 = M 80 := by rw [hM1]
    have e82 : M1 82 = M 82 := by rw [hM1]
    have e92 : M1 92 = M 92 := by rw [hM1]
    have e93 : M1 93 = M 93 := by rw [hM1]
    have e94 : M1 94 = M 94 := by rw [hM1]
    try simp only [e78, e79, e80, e82, e92, e93, e94] at a2
    rcases a2 with ⟨rfl, hM2, yp0⟩ | ⟨rfl, hM2, yp0, yp1⟩ | ⟨rfl, hM2, yp0, yp1⟩
    · skip
      exfalso; omega
    · skip
      exfalso; omega
    · skip
      have hB := basF hI (b := b) (by omega) (by omega)
      have hb2 : M (basQ b) 2 = bsK (M 79) b := hB.2.1
      have hb3 : M (basQ b) 3 = bsN (M 79) b := hB.2.2.1
      have hb4 : M (basQ b + 1) = bsA (M 79) b := hB.2.2.2
      refine ⟨_, some_iv (by rw [hB.1, xp1, show 21 + 8 * b + 1 + -1 = 21 + 8 * b by omega]), rfl, ?_⟩
      exact (kAll hI (fun i hi => by rw [hM2]; skip; rw [hM1]) (by rw [hM2]; exact congrFun e78 2) (by rw [hM2]; exact congrFun e78 5))
  · skip
    have e78 : M1 78 = M 78 := by rw [hM1]
    have e79 : M1 79 = M 79 := by rw [hM1]
    have e80 : M1 80 = M 80 := by rw [hM1]
    have e82 : M1 82 = M 82 := by rw [hM1]
    have e92 : M1 92 = M 92 := by rw [hM1]
    have e93 : M1 93 = M 93 := by rw [hM1]
    have e94 : M1 94 = M 94 := by rw [hM1]
    try simp only [e78, e79, e80, e82, e92, e93, e94] at a2
    rcases a2 with ⟨rfl, hM2, yp0⟩ | ⟨rfl, hM2, yp0, yp1⟩ | ⟨rfl, hM2, yp0, yp1⟩
    · skip
      exfalso; omega
    · skip
      exfalso; omega
    · skip
      have hB := basF hI (b := b) (by omega) (by omega)
      have hb2 : M (basQ b) 2 = bsK (M 79) b := hB.2.1
      have hb3 : M (basQ b) 3 = bsN (M 79) b := hB.2.2.1
      have hb4 : M (basQ b + 1) = bsA (M 79) b := hB.2.2.2
      refine ⟨_, some_iv (by rw [hb2, xp1]; unfold bsK; congr 1; omega), rfl, ?_⟩
      exact (kAll hI (fun i hi => by rw [hM2]; skip; rw [hM1]) (by rw [hM2]; exact congrFun e78 2) (by rw [hM2]; exact congrFun e78 5))
  · skip
    have e78 : M1 78 = M 78 := by rw [hM1]
    have e79 : M1 79 = M 79 := by rw [hM1]
    have e80 : M1 80 = M 80 := by rw [hM1]
    have e82 : M1 82 = M 82 := by rw [hM1]
    have e92 : M1 92 = M 92 := by rw [hM1]
    have e93 : M1 93 = M 93 := by rw [hM1]
    have e94 : M1 94 = M 94 := by rw [hM1]
    try simp only [e78, e79, e80, e82, e92, e93, e94] at a2
    rcases a2 with ⟨rfl, hM2, yp0⟩ | ⟨rfl, hM2, yp0, yp1⟩ | ⟨rfl, hM2, yp0, yp1⟩
    · skip
      exfalso; omega
    · skip
      exfalso; omega
    · skip
      have hB := basF hI (b := b) (by omega) (by omega)
      have hb2 : M (basQ b) 2 = bsK (M 79) b := hB.2.1
      have hb3 : M (basQ b) 3 = bsN (M 79) b := hB.2.2.1
      have hb4 : M (basQ b + 1) = bsA (M 79) b := hB.2.2.2
      refine ⟨_, some_iv (by rw [hb3, xp1]; unfold bsN; congr 1; omega), rfl, ?_⟩
      exact (kAll hI (fun i hi => by rw [hM2]; skip; rw [hM1]) (by rw [hM2]; exact congrFun e78 2) (by rw [hM2]; exact congrFun e78 5))
  · skip
    have e78 : M1 78 = M 78 := by rw [hM1]; (repeat (rw [up1_ne (by first | omega | (unfold basQ; omega) | (unfold tpQ; omega))]))
    have e79 : M1 79 = M 79 := by rw [hM1]; (repeat (rw [up1_ne (by first | omega | (unfold basQ; omega) | (unfold tpQ; omega))]))
    have e80 : M1 80 = M 80 := by rw [hM1]; (repeat (rw [up1_ne (by first | omega | (unfold basQ; omega) | (unfold tpQ; omega))]))
    have e82 : M1 82 = M 82 := by rw [hM1]; (repeat (rw [up1_ne (by first | omega | (unfold basQ; omega) | (unfold tpQ; omega))]))
    have e92 : M1 92 = M 92 := by rw [hM1]; (repeat (rw [up1_ne (by first | omega | (unfold basQ; omega) | (unfold tpQ; omega))]))
    have e93 : M1 93 = M 93 := by rw [hM1]; (repeat (rw [up1_ne (by first | omega | (unfold basQ; omega) | (unfold tpQ; omega))]))
    have e94 : M1 94 = M 94 := by rw [hM1]; (repeat (rw [up1_ne (by first | omega | (unfold basQ; omega) | (unfold tpQ; omega))]))
    try simp only [e78, e79, e80, e82, e92, e93, e94] at a2
    rcases a2 with ⟨rfl, hM2, yp0⟩ | ⟨rfl, hM2, yp0, yp1⟩ | ⟨rfl, hM2, yp0, yp1⟩
    · skip
      exfalso; omega
    · skip
      have hB := basF hI (b := b) (by omega) (by omega)
      have hb2 : M (basQ b) 2 = bsK (M 79) b := hB.2.1
      have hb3 : M (basQ b) 3 = bsN (M 79) b := hB.2.2.1
      have hb4 : M (basQ b + 1) = bsA (M 79) b := hB.2.2.2
      refine ⟨_, some_iv (by rw [h3, hb2, hb3, hb4]), rfl, ?_⟩
      exact (kAll hI (fun i hi => by rw [hM2]; (repeat (rw [up1_ne (by first | omega | (unfold basQ; omega) | (unfold tpQ; omega))])); rw [hM1]; (repeat (rw [up1_ne (by first | omega | (unfold basQ; omega) | (unfold tpQ; omega))]))) (by rw [hM2]; rfl) (by rw [hM2]; rfl))
    · skip
      exfalso; omega
  · skip
    have e78 : M1 78 = M 78 := by rw [hM1]
    have e79 : M1 79 = M 79 := by rw [hM1]
    have e80 : M1 80 = M 80 := by rw [hM1]
    have e82 : M1 82 = M 82 := by rw [hM1]
    have e92 : M1 92 = M 92 := by rw [hM1]
    have e93 : M1 93 = M 93 := by rw [hM1]
    have e94 : M1 94 = M 94 := by rw [hM1]
    try simp only [e78, e79, e80, e82, e92, e93, e94] at a2
    rcases a2 with ⟨rfl, hM2, yp0⟩ | ⟨rfl, hM2, yp0, yp1⟩ | ⟨rfl, hM2, yp0, yp1⟩
    · skip
      exfalso; omega
    · skip
      exfalso; omega
    · skip
      have hB := basF hI (b := b) (by omega) (by omega)
      have hb2 : M (basQ b) 2 = bsK (M 79) b := hB.2.1
      have hb3 : M (basQ b) 3 = bsN (M 79) b := hB.2.2.1
      have hb4 : M (basQ b + 1) = bsA (M 79) b := hB.2.2.2
      refine ⟨_, some_iv (by rw [hb4]; rfl), rfl, ?_⟩
      exact (kAll hI (fun i hi => by rw [hM2]; skip; rw [hM1]) (by rw [hM2]; exact congrFun e78 2) (by rw [hM2]; exact congrFun e78 5))
theorem pr_flow {M M1 M2 : Mem} {r1 r2 : Option Value} {s : Int} {b : Int} {h : Int} (hI : InvF M) (a1 : ((fun rv M' => (rv = some (iv (-1)) ∧ M' = M ∧ (¬ (0 ≤ s ∧ s ≤ 1) ∨ ¬ (0 ≤ b ∧ b < M 2 2) ∨ ¬ (0 ≤ h ∧ h ≤ 29))) ∨ (rv = some (iv ((fl (M 3) (M (basQ b + 1)) 8) h)) ∧ M' = (up1 (up1 M 51 (fl (M 3) (M (basQ b + 1)) 8)) 52 (otp (M (basQ b) 2) (M (basQ b) 3) (fl (M 3) (M (basQ b + 1)) 8))) ∧ (s = 0) ∧ (0 ≤ b ∧ b < M 2 2) ∧ (0 ≤ h ∧ h ≤ 29)) ∨ (rv = some (iv ((otp (M (basQ b) 2) (M (basQ b) 3) (fl (M 3) (M (basQ b + 1)) 8)) h)) ∧ M' = (up1 (up1 M 51 (fl (M 3) (M (basQ b + 1)) 8)) 52 (otp (M (basQ b) 2) (M (basQ b) 3) (fl (M 3) (M (basQ b + 1)) 8))) ∧ (s = 1) ∧ (0 ≤ b ∧ b < M 2 2) ∧ (0 ≤ h ∧ h ≤ 29)))) r1 M1) (a2 : ((fun rv M' => (rv = some (iv (-1)) ∧ M' = M1 ∧ (¬ (0 ≤ s ∧ s ≤ 1) ∨ ¬ (0 ≤ b ∧ b < M1 79 20) ∨ ¬ (0 ≤ h ∧ h ≤ 29))) ∨ (rv = some (iv ((fl (M1 79) (bsA (M1 79) b) 8) h)) ∧ M' = (up1 (up1 (up1 M1 84 (fl (M1 79) (bsA (M1 79) b) 8)) 78 (up (M1 78) 13 (sto (bsK (M1 79) b) (bsN (M1 79) b) (fl (M1 79) (bsA (M1 79) b) 8) 30))) 85 (otp (bsK (M1 79) b) (bsN (M1 79) b) (fl (M1 79) (bsA (M1 79) b) 8))) ∧ (s = 0) ∧ (0 ≤ b ∧ b < M1 79 20) ∧ (0 ≤ h ∧ h ≤ 29)) ∨ (rv = some (iv ((otp (bsK (M1 79) b) (bsN (M1 79) b) (fl (M1 79) (bsA (M1 79) b) 8)) h)) ∧ M' = (up1 (up1 (up1 M1 84 (fl (M1 79) (bsA (M1 79) b) 8)) 78 (up (M1 78) 13 (sto (bsK (M1 79) b) (bsN (M1 79) b) (fl (M1 79) (bsA (M1 79) b) 8) 30))) 85 (otp (bsK (M1 79) b) (bsN (M1 79) b) (fl (M1 79) (bsA (M1 79) b) 8))) ∧ (s = 1) ∧ (0 ≤ b ∧ b < M1 79 20) ∧ (0 ≤ h ∧ h ≤ 29)))) r2 M2) : ∃ x : Int, r1 = some (iv x) ∧ r2 = some (iv x) ∧ InvP M2 := by
  have h20 : M 2 2 = M 79 20 := hI.1.1.1
  have h3 : M 3 = M 79 := hI.1.1.2.1
  have h11 : M 11 = tdW (M 79) := hI.1.1.2.2.1
  have hw := hI.1.2
  have hm9 := hw.2.2.1
  rcases a1 with ⟨rfl, hM1, xp0⟩ | ⟨rfl, hM1, xp0, xp1, xp2⟩ | ⟨rfl, hM1, xp0, xp1, xp2⟩
  · skip
    have e78 : M1 78 = M 78 := by rw [hM1]
    have e79 : M1 79 = M 79 := by rw [hM1]
    have e80 : M1 80 = M 80 := by rw [hM1]
    have e82 : M1 82 = M 82 := by rw [hM1]
    have e92 : M1 92 = M 92 := by rw [hM1]
    have e93 : M1 93 = M 93 := by rw [hM1]
    have e94 : M1 94 = M 94 := by rw [hM1]
    try simp only [e78, e79, e80, e82, e92, e93, e94] at a2
    rcases a2 with ⟨rfl, hM2, yp0⟩ | ⟨rfl, hM2, yp0, yp1, yp2⟩ | ⟨rfl, hM2, yp0, yp1, yp2⟩
    · skip
      refine ⟨_, some_iv (rfl), rfl, ?_⟩
      exact (kAll hI (fun i hi => by rw [hM2]; skip; rw [hM1]) (by rw [hM2]; exact congrFun e78 2) (by rw [hM2]; exact congrFun e78 5))
    · skip
      exfalso; omega
    · skip
      exfalso; omega
  · skip
    have e78 : M1 78 = M 78 := by rw [hM1]; (repeat (rw [up1_ne (by first | omega | (unfold basQ; omega) | (unfold tpQ; omega))]))
    have e79 : M1 79 = M 79 := by rw [hM1]; (repeat (rw [up1_ne (by first | omega | (unfold basQ; omega) | (unfold tpQ; omega))]))
    have e80 : M1 80 = M 80 := by rw [hM1]; (repeat (rw [up1_ne (by first | omega | (unfold basQ; omega) | (unfold tpQ; omega))]))
    have e82 : M1 82 = M 82 := by rw [hM1]; (repeat (rw [up1_ne (by first | omega | (unfold basQ; omega) | (unfold tpQ; omega))]))
    have e92 : M1 92 = M 92 := by rw [hM1]; (repeat (rw [up1_ne (by first | omega | (unfold basQ; omega) | (unfold tpQ; omega))]))
    have e93 : M1 93 = M 93 := by rw [hM1]; (repeat (rw [up1_ne (by first | omega | (unfold basQ; omega) | (unfold tpQ; omega))]))
    have e94 : M1 94 = M 94 := by rw [hM1]; (repeat (rw [up1_ne (by first | omega | (unfold basQ; omega) | (unfold tpQ; omega))]))
    try simp only [e78, e79, e80, e82, e92, e93, e94] at a2
    rcases a2 with ⟨rfl, hM2, yp0⟩ | ⟨rfl, hM2, yp0, yp1, yp2⟩ | ⟨rfl, hM2, yp0, yp1, yp2⟩
    · skip
      exfalso; omega
    · skip
      have hB := basF hI (b := b) (by omega) (by omega)
      have hb2 : M (basQ b) 2 = bsK (M 79) b := hB.2.1
      have hb3 : M (basQ b) 3 = bsN (M 79) b := hB.2.2.1
      have hb4 : M (basQ b + 1) = bsA (M 79) b := hB.2.2.2
      refine ⟨_, some_iv (by rw [h3, hb4]), rfl, ?_⟩
      exact (kAll hI (fun i hi => by rw [hM2]; (repeat (rw [up1_ne (by first | omega | (unfold basQ; omega) | (unfold tpQ; omega))])); rw [hM1]; (repeat (rw [up1_ne (by first | omega | (unfold basQ; omega) | (unfold tpQ; omega))]))) (by rw [hM2]; rfl) (by rw [hM2]; rfl))
    · skip
      exfalso; omega
  · skip
    have e78 : M1 78 = M 78 := by rw [hM1]; (repeat (rw [up1_ne (by first | omega | (unfold basQ; omega) | (unfold tpQ; omega))]))
    have e79 : M1 79 = M 79 := by rw [hM1]; (repeat (rw [up1_ne (by first | omega | (unfold basQ; omega) | (unfold tpQ; omega))]))
    have e80 : M1 80 = M 80 := by rw [hM1]; (repeat (rw [up1_ne (by first | omega | (unfold basQ; omega) | (unfold tpQ; omega))]))
    have e82 : M1 82 = M 82 := by rw [hM1]; (repeat (rw [up1_ne (by first | omega | (unfold basQ; omega) | (unfold tpQ; omega))]))
    have e92 : M1 92 = M 92 := by rw [hM1]; (repeat (rw [up1_ne (by first | omega | (unfold basQ; omega) | (unfold tpQ; omega))]))
    have e93 : M1 93 = M 93 := by rw [hM1]; (repeat (rw [up1_ne (by first | omega | (unfold basQ; omega) | (unfold tpQ; omega))]))
    have e94 : M1 94 = M 94 := by rw [hM1]; (repeat (rw [up1_ne (by first | omega | (unfold basQ; omega) | (unfold tpQ; omega))]))
    try simp only [e78, e79, e80, e82, e92, e93, e94] at a2
    rcases a2 with ⟨rfl, hM2, yp0⟩ | ⟨rfl, hM2, yp0, yp1, yp2⟩ | ⟨rfl, hM2, yp0, yp1, yp2⟩
    · skip
      exfalso; omega
    · skip
      exfalso; omega
    · skip
      have hB := basF hI (b := b) (by omega) (by omega)
      have hb2 : M (basQ b) 2 = bsK (M 79) b := hB.2.1
      have hb3 : M (basQ b) 3 = bsN (M 79) b := hB.2.2.1
      have hb4 : M (basQ b + 1) = bsA (M 79) b := hB.2.2.2
      refine ⟨_, some_iv (by rw [h3, hb2, hb3, hb4]), rfl, ?_⟩
      exact (kAll hI (fun i hi => by rw [hM2]; (repeat (rw [up1_ne (by first | omega | (unfold basQ; omega) | (unfold tpQ; omega))])); rw [hM1]; (repeat (rw [up1_ne (by first | omega | (unfold basQ; omega) | (unfold tpQ; omega))]))) (by rw [hM2]; rfl) (by rw [hM2]; rfl))
theorem pr_row {M M1 M2 : Mem} {r1 r2 : Option Value} {s : Int} {w : Int} (hI : InvF M) (a1 : ((fun rv M' => (rv = some (iv (-1)) ∧ M' = M ∧ ((0 ≤ s ∧ s ≤ 1 ∧ ¬ (0 ≤ w ∧ w ≤ 2)) ∨ s < 0 ∨ (3 ≤ s ∧ ¬ (s - 3 < M 2 2)))) ∨ (∃ (F O : Int → Int), rv = some (iv (-1)) ∧ M' = (up1 (up1 (up1 M 53 (jnS M 2 (M 2 2).toNat)) 51 F) 52 O) ∧ (s = 2) ∧ (¬ (0 ≤ w ∧ w ≤ 2))) ∨ (∃ (F : Int → Int), rv = some (iv (-1)) ∧ M' = (up1 (up1 M 51 F) 52 (otp (M (basQ (s - 3)) 2) (M (basQ (s - 3)) 3) (fl (M 3) (M (basQ (s - 3) + 1)) 8))) ∧ (3 ≤ s ∧ s - 3 < M 2 2) ∧ (¬ (0 ≤ w ∧ w ≤ 2))) ∨ (rv = some (iv (msr w (M 3) 8)) ∧ M' = M ∧ (s = 0) ∧ (0 ≤ w ∧ w ≤ 2)) ∨ (rv = some (iv (msr w (M 11) 12)) ∧ M' = M ∧ (s = 1) ∧ (0 ≤ w ∧ w ≤ 2)) ∨ (∃ (F O : Int → Int), rv = some (iv (msr w (jnS M 2 (M 2 2).toNat) 30)) ∧ M' = (up1 (up1 (up1 M 53 (jnS M 2 (M 2 2).toNat)) 51 F) 52 O) ∧ (s = 2) ∧ (0 ≤ w ∧ w ≤ 2)) ∨ (∃ (F : Int → Int), rv = some (iv (msr w (otp (M (basQ (s - 3)) 2) (M (basQ (s - 3)) 3) (fl (M 3) (M (basQ (s - 3) + 1)) 8)) 30)) ∧ M' = (up1 (up1 M 51 F) 52 (otp (M (basQ (s - 3)) 2) (M (basQ (s - 3)) 3) (fl (M 3) (M (basQ (s - 3) + 1)) 8))) ∧ (3 ≤ s ∧ s - 3 < M 2 2) ∧ (0 ≤ w ∧ w ≤ 2)))) r1 M1) (a2 : ((fun rv M' => (rv = some (iv (-1)) ∧ M' = M1 ∧ (¬ (0 ≤ s ∧ s ≤ 2) ∧ ¬ (3 ≤ s ∧ s - 3 < M1 79 20) ∨ ¬ (0 ≤ w ∧ w ≤ 2))) ∨ (rv = some (iv (msr w (M1 79) 8)) ∧ M' = M1 ∧ (s = 0) ∧ (0 ≤ w ∧ w ≤ 2)) ∨ (rv = some (iv (msr w (tdW (M1 79)) 12)) ∧ M' = M1 ∧ (s = 1) ∧ (0 ≤ w ∧ w ≤ 2)) ∨ (∃ (F O C : Int → Int), rv = some (iv (msr w (jnW (M1 79)) 30)) ∧ M' = (up1 (up1 (up1 (up1 M1 84 F) 85 O) 78 C) 86 (jnW (M1 79))) ∧ (s = 2) ∧ (0 ≤ w ∧ w ≤ 2) ∧ (∀ j : Int, j ≠ 13 → C j = M1 78 j)) ∨ (rv = some (iv (msr w (otp (bsK (M1 79) (s - 3)) (bsN (M1 79) (s - 3)) (fl (M1 79) (bsA (M1 79) (s - 3)) 8)) 30)) ∧ M' = (up1 (up1 (up1 M1 84 (fl (M1 79) (bsA (M1 79) (s - 3)) 8)) 78 (up (M1 78) 13 (sto (bsK (M1 79) (s - 3)) (bsN (M1 79) (s - 3)) (fl (M1 79) (bsA (M1 79) (s - 3)) 8) 30))) 85 (otp (bsK (M1 79) (s - 3)) (bsN (M1 79) (s - 3)) (fl (M1 79) (bsA (M1 79) (s - 3)) 8))) ∧ (3 ≤ s ∧ s - 3 < M1 79 20) ∧ (0 ≤ w ∧ w ≤ 2)))) r2 M2) : ∃ x : Int, r1 = some (iv x) ∧ r2 = some (iv x) ∧ InvP M2 := by
  have h20 : M 2 2 = M 79 20 := hI.1.1.1
  have h3 : M 3 = M 79 := hI.1.1.2.1
  have h11 : M 11 = tdW (M 79) := hI.1.1.2.2.1
  have hw := hI.1.2
  have hm9 := hw.2.2.1
  rcases a1 with ⟨rfl, hM1, xp0⟩ | ⟨x0, x1, rfl, hM1, xp0, xp1⟩ | ⟨x0, rfl, hM1, xp0, xp1⟩ | ⟨rfl, hM1, xp0, xp1⟩ | ⟨rfl, hM1, xp0, xp1⟩ | ⟨x0, x1, rfl, hM1, xp0, xp1⟩ | ⟨x0, rfl, hM1, xp0, xp1⟩
  · skip
    have e78 : M1 78 = M 78 := by rw [hM1]
    have e79 : M1 79 = M 79 := by rw [hM1]
    have e80 : M1 80 = M 80 := by rw [hM1]
    have e82 : M1 82 = M 82 := by rw [hM1]
    have e92 : M1 92 = M 92 := by rw [hM1]
    have e93 : M1 93 = M 93 := by rw [hM1]
    have e94 : M1 94 = M 94 := by rw [hM1]
    try simp only [e78, e79, e80, e82, e92, e93, e94] at a2
    rcases a2 with ⟨rfl, hM2, yp0⟩ | ⟨rfl, hM2, yp0, yp1⟩ | ⟨rfl, hM2, yp0, yp1⟩ | ⟨y0, y1, y2, rfl, hM2, yp0, yp1, yp2⟩ | ⟨rfl, hM2, yp0, yp1⟩
    · skip
      refine ⟨_, some_iv (rfl), rfl, ?_⟩
      exact (kAll hI (fun i hi => by rw [hM2]; skip; rw [hM1]) (by rw [hM2]; exact congrFun e78 2) (by rw [hM2]; exact congrFun e78 5))
    · skip
      exfalso; omega
    · skip
      exfalso; omega
    · skip
      exfalso; omega
    · skip
      exfalso; omega
  · skip
    have e78 : M1 78 = M 78 := by rw [hM1]; (repeat (rw [up1_ne (by first | omega | (unfold basQ; omega) | (unfold tpQ; omega))]))
    have e79 : M1 79 = M 79 := by rw [hM1]; (repeat (rw [up1_ne (by first | omega | (unfold basQ; omega) | (unfold tpQ; omega))]))
    have e80 : M1 80 = M 80 := by rw [hM1]; (repeat (rw [up1_ne (by first | omega | (unfold basQ; omega) | (unfold tpQ; omega))]))
    have e82 : M1 82 = M 82 := by rw [hM1]; (repeat (rw [up1_ne (by first | omega | (unfold basQ; omega) | (unfold tpQ; omega))]))
    have e92 : M1 92 = M 92 := by rw [hM1]; (repeat (rw [up1_ne (by first | omega | (unfold basQ; omega) | (unfold tpQ; omega))]))
    have e93 : M1 93 = M 93 := by rw [hM1]; (repeat (rw [up1_ne (by first | omega | (unfold basQ; omega) | (unfold tpQ; omega))]))
    have e94 : M1 94 = M 94 := by rw [hM1]; (repeat (rw [up1_ne (by first | omega | (unfold basQ; omega) | (unfold tpQ; omega))]))
    try simp only [e78, e79, e80, e82, e92, e93, e94] at a2
    rcases a2 with ⟨rfl, hM2, yp0⟩ | ⟨rfl, hM2, yp0, yp1⟩ | ⟨rfl, hM2, yp0, yp1⟩ | ⟨y0, y1, y2, rfl, hM2, yp0, yp1, yp2⟩ | ⟨rfl, hM2, yp0, yp1⟩
    · skip
      refine ⟨_, some_iv (rfl), rfl, ?_⟩
      exact (kAll hI (fun i hi => by rw [hM2]; skip; rw [hM1]; (repeat (rw [up1_ne (by first | omega | (unfold basQ; omega) | (unfold tpQ; omega))]))) (by rw [hM2]; exact congrFun e78 2) (by rw [hM2]; exact congrFun e78 5))
    · skip
      exfalso; omega
    · skip
      exfalso; omega
    · skip
      exfalso; omega
    · skip
      exfalso; omega
  · skip
    have e78 : M1 78 = M 78 := by rw [hM1]; (repeat (rw [up1_ne (by first | omega | (unfold basQ; omega) | (unfold tpQ; omega))]))
    have e79 : M1 79 = M 79 := by rw [hM1]; (repeat (rw [up1_ne (by first | omega | (unfold basQ; omega) | (unfold tpQ; omega))]))
    have e80 : M1 80 = M 80 := by rw [hM1]; (repeat (rw [up1_ne (by first | omega | (unfold basQ; omega) | (unfold tpQ; omega))]))
    have e82 : M1 82 = M 82 := by rw [hM1]; (repeat (rw [up1_ne (by first | omega | (unfold basQ; omega) | (unfold tpQ; omega))]))
    have e92 : M1 92 = M 92 := by rw [hM1]; (repeat (rw [up1_ne (by first | omega | (unfold basQ; omega) | (unfold tpQ; omega))]))
    have e93 : M1 93 = M 93 := by rw [hM1]; (repeat (rw [up1_ne (by first | omega | (unfold basQ; omega) | (unfold tpQ; omega))]))
    have e94 : M1 94 = M 94 := by rw [hM1]; (repeat (rw [up1_ne (by first | omega | (unfold basQ; omega) | (unfold tpQ; omega))]))
    try simp only [e78, e79, e80, e82, e92, e93, e94] at a2
    rcases a2 with ⟨rfl, hM2, yp0⟩ | ⟨rfl, hM2, yp0, yp1⟩ | ⟨rfl, hM2, yp0, yp1⟩ | ⟨y0, y1, y2, rfl, hM2, yp0, yp1, yp2⟩ | ⟨rfl, hM2, yp0, yp1⟩
    · skip
      refine ⟨_, some_iv (rfl), rfl, ?_⟩
      exact (kAll hI (fun i hi => by rw [hM2]; skip; rw [hM1]; (repeat (rw [up1_ne (by first | omega | (unfold basQ; omega) | (unfold tpQ; omega))]))) (by rw [hM2]; exact congrFun e78 2) (by rw [hM2]; exact congrFun e78 5))
    · skip
      exfalso; omega
    · skip
      exfalso; omega
    · skip
      exfalso; omega
    · skip
      exfalso; omega
  · skip
    have e78 : M1 78 = M 78 := by rw [hM1]
    have e79 : M1 79 = M 79 := by rw [hM1]
    have e80 : M1 80 = M 80 := by rw [hM1]
    have e82 : M1 82 = M 82 := by rw [hM1]
    have e92 : M1 92 = M 92 := by rw [hM1]
    have e93 : M1 93 = M 93 := by rw [hM1]
    have e94 : M1 94 = M 94 := by rw [hM1]
    try simp only [e78, e79, e80, e82, e92, e93, e94] at a2
    rcases a2 with ⟨rfl, hM2, yp0⟩ | ⟨rfl, hM2, yp0, yp1⟩ | ⟨rfl, hM2, yp0, yp1⟩ | ⟨y0, y1, y2, rfl, hM2, yp0, yp1, yp2⟩ | ⟨rfl, hM2, yp0, yp1⟩
    · skip
      exfalso; omega
    · skip
      refine ⟨_, some_iv (by rw [h3]), rfl, ?_⟩
      exact (kAll hI (fun i hi => by rw [hM2]; skip; rw [hM1]) (by rw [hM2]; exact congrFun e78 2) (by rw [hM2]; exact congrFun e78 5))
    · skip
      exfalso; omega
    · skip
      exfalso; omega
    · skip
      exfalso; omega
  · skip
    have e78 : M1 78 = M 78 := by rw [hM1]
    have e79 : M1 79 = M 79 := by rw [hM1]
    have e80 : M1 80 = M 80 := by rw [hM1]
    have e82 : M1 82 = M 82 := by rw [hM1]
    have e92 : M1 92 = M 92 := by rw [hM1]
    have e93 : M1 93 = M 93 := by rw [hM1]
    have e94 : M1 94 = M 94 := by rw [hM1]
    try simp only [e78, e79, e80, e82, e92, e93, e94] at a2
    rcases a2 with ⟨rfl, hM2, yp0⟩ | ⟨rfl, hM2, yp0, yp1⟩ | ⟨rfl, hM2, yp0, yp1⟩ | ⟨y0, y1, y2, rfl, hM2, yp0, yp1, yp2⟩ | ⟨rfl, hM2, yp0, yp1⟩
    · skip
      exfalso; omega
    · skip
      exfalso; omega
    · skip
      refine ⟨_, some_iv (by rw [h11]), rfl, ?_⟩
      exact (kAll hI (fun i hi => by rw [hM2]; skip; rw [hM1]) (by rw [hM2]; exact congrFun e78 2) (by rw [hM2]; exact congrFun e78 5))
    · skip
      exfalso; omega
    · skip
      exfalso; omega
  · skip
    have e78 : M1 78 = M 78 := by rw [hM1]; (repeat (rw [up1_ne (by first | omega | (unfold basQ; omega) | (unfold tpQ; omega))]))
    have e79 : M1 79 = M 79 := by rw [hM1]; (repeat (rw [up1_ne (by first | omega | (unfold basQ; omega) | (unfold tpQ; omega))]))
    have e80 : M1 80 = M 80 := by rw [hM1]; (repeat (rw [up1_ne (by first | omega | (unfold basQ; omega) | (unfold tpQ; omega))]))
    have e82 : M1 82 = M 82 := by rw [hM1]; (repeat (rw [up1_ne (by first | omega | (unfold basQ; omega) | (unfold tpQ; omega))]))
    have e92 : M1 92 = M 92 := by rw [hM1]; (repeat (rw [up1_ne (by first | omega | (unfold basQ; omega) | (unfold tpQ; omega))]))
    have e93 : M1 93 = M 93 := by rw [hM1]; (repeat (rw [up1_ne (by first | omega | (unfold basQ; omega) | (unfold tpQ; omega))]))
    have e94 : M1 94 = M 94 := by rw [hM1]; (repeat (rw [up1_ne (by first | omega | (unfold basQ; omega) | (unfold tpQ; omega))]))
    try simp only [e78, e79, e80, e82, e92, e93, e94] at a2
    rcases a2 with ⟨rfl, hM2, yp0⟩ | ⟨rfl, hM2, yp0, yp1⟩ | ⟨rfl, hM2, yp0, yp1⟩ | ⟨y0, y1, y2, rfl, hM2, yp0, yp1, yp2⟩ | ⟨rfl, hM2, yp0, yp1⟩
    · skip
      exfalso; omega
    · skip
      exfalso; omega
    · skip
      exfalso; omega
    · skip
      refine ⟨_, some_iv (by rw [jnS_W hI]), rfl, ?_⟩
      exact (kAll hI (fun i hi => by rw [hM2]; (repeat (rw [up1_ne (by first | omega | (unfold basQ; omega) | (unfold tpQ; omega))])); rw [hM1]; (repeat (rw [up1_ne (by first | omega | (unfold basQ; omega) | (unfold tpQ; omega))]))) (by rw [hM2]; exact yp2 2 (by decide)) (by rw [hM2]; exact yp2 5 (by decide)))
    · skip
      exfalso; omega
  · skip
    have e78 : M1 78 = M 78 := by rw [hM1]; (repeat (rw [up1_ne (by first | omega | (unfold basQ; omega) | (unfold tpQ; omega))]))
    have e79 : M1 79 = M 79 := by rw [hM1]; (repeat (rw [up1_ne (by first | omega | (unfold basQ; omega) | (unfold tpQ; omega))]))
    have e80 : M1 80 = M 80 := by rw [hM1]; (repeat (rw [up1_ne (by first | omega | (unfold basQ; omega) | (unfold tpQ; omega))]))
    have e82 : M1 82 = M 82 := by rw [hM1]; (repeat (rw [up1_ne (by first | omega | (unfold basQ; omega) | (unfold tpQ; omega))]))
    have e92 : M1 92 = M 92 := by rw [hM1]; (repeat (rw [up1_ne (by first | omega | (unfold basQ; omega) | (unfold tpQ; omega))]))
    have e93 : M1 93 = M 93 := by rw [hM1]; (repeat (rw [up1_ne (by first | omega | (unfold basQ; omega) | (unfold tpQ; omega))]))
    have e94 : M1 94 = M 94 := by rw [hM1]; (repeat (rw [up1_ne (by first | omega | (unfold basQ; omega) | (unfold tpQ; omega))]))
    try simp only [e78, e79, e80, e82, e92, e93, e94] at a2
    rcases a2 with ⟨rfl, hM2, yp0⟩ | ⟨rfl, hM2, yp0, yp1⟩ | ⟨rfl, hM2, yp0, yp1⟩ | ⟨y0, y1, y2, rfl, hM2, yp0, yp1, yp2⟩ | ⟨rfl, hM2, yp0, yp1⟩
    · skip
      exfalso; omega
    · skip
      exfalso; omega
    · skip
      exfalso; omega
    · skip
      exfalso; omega
    · skip
      have hB := basF hI (b := s - 3) (by omega) (by omega)
      have hb2 : M (basQ (s - 3)) 2 = bsK (M 79) (s - 3) := hB.2.1
      have hb3 : M (basQ (s - 3)) 3 = bsN (M 79) (s - 3) := hB.2.2.1
      have hb4 : M (basQ (s - 3) + 1) = bsA (M 79) (s - 3) := hB.2.2.2
      refine ⟨_, some_iv (by rw [h3, hb2, hb3, hb4]), rfl, ?_⟩
      exact (kAll hI (fun i hi => by rw [hM2]; (repeat (rw [up1_ne (by first | omega | (unfold basQ; omega) | (unfold tpQ; omega))])); rw [hM1]; (repeat (rw [up1_ne (by first | omega | (unfold basQ; omega) | (unfold tpQ; omega))]))) (by rw [hM2]; rfl) (by rw [hM2]; rfl))
theorem pr_basins {M M1 M2 : Mem} {r1 r2 : Option Value}  (hI : InvF M) (a1 : ((fun rv M' => rv = some (iv (M 2 2)) ∧ M' = M)) r1 M1) (a2 : ((fun rv M' => rv = some (iv (M1 79 20)) ∧ M' = M1)) r2 M2) : ∃ x : Int, r1 = some (iv x) ∧ r2 = some (iv x) ∧ InvP M2 := by
  have h20 : M 2 2 = M 79 20 := hI.1.1.1
  have h3 : M 3 = M 79 := hI.1.1.2.1
  have h11 : M 11 = tdW (M 79) := hI.1.1.2.2.1
  have hw := hI.1.2
  have hm9 := hw.2.2.1
  obtain ⟨rfl, hM1⟩ := a1
  have e78 : M1 78 = M 78 := by rw [hM1]
  have e79 : M1 79 = M 79 := by rw [hM1]
  have e80 : M1 80 = M 80 := by rw [hM1]
  have e82 : M1 82 = M 82 := by rw [hM1]
  have e92 : M1 92 = M 92 := by rw [hM1]
  have e93 : M1 93 = M 93 := by rw [hM1]
  have e94 : M1 94 = M 94 := by rw [hM1]
  try simp only [e78, e79, e80, e82, e92, e93, e94] at a2
  obtain ⟨rfl, hM2⟩ := a2
  refine ⟨_, some_iv (h20), rfl, ?_⟩
  exact (kAll hI (fun i hi => by rw [hM2]; skip; rw [hM1]) (by rw [hM2]; exact congrFun e78 2) (by rw [hM2]; exact congrFun e78 5))
theorem pr_flaw {M M1 M2 : Mem} {r1 r2 : Option Value} {b : Int} (hI : InvF M) (a1 : ((fun rv M' => (rv = some (iv (-1)) ∧ M' = M ∧ (¬ (0 ≤ b ∧ b < M 2 2))) ∨ (∃ (L U : Int → Int), rv = some (iv (unfR (M 11) (M (basQ b + 1)))) ∧ M' = (up1 (up1 M 55 L) 56 U) ∧ (0 ≤ b ∧ b < M 2 2)))) r1 M1) (a2 : ((fun rv M' => (rv = some (iv (-1)) ∧ M' = M1 ∧ (¬ (0 ≤ b ∧ b < M1 79 20))) ∨ (∃ (L U : Int → Int), rv = some (iv (unfR (tdW (M1 79)) (bsA (M1 79) b))) ∧ M' = (up1 (up1 M1 87 L) 88 U) ∧ (0 ≤ b ∧ b < M1 79 20)))) r2 M2) : ∃ x : Int, r1 = some (iv x) ∧ r2 = some (iv x) ∧ InvP M2 := by
  have h20 : M 2 2 = M 79 20 := hI.1.1.1
  have h3 : M 3 = M 79 := hI.1.1.2.1
  have h11 : M 11 = tdW (M 79) := hI.1.1.2.2.1
  have hw := hI.1.2
  have hm9 := hw.2.2.1
  rcases a1 with ⟨rfl, hM1, xp0⟩ | ⟨x0, x1, rfl, hM1, xp0⟩
  · skip
    have e78 : M1 78 = M 78 := by rw [hM1]
    have e79 : M1 79 = M 79 := by rw [hM1]
    have e80 : M1 80 = M 80 := by rw [hM1]
    have e82 : M1 82 = M 82 := by rw [hM1]
    have e92 : M1 92 = M 92 := by rw [hM1]
    have e93 : M1 93 = M 93 := by rw [hM1]
    have e94 : M1 94 = M 94 := by rw [hM1]
    try simp only [e78, e79, e80, e82, e92, e93, e94] at a2
    rcases a2 with ⟨rfl, hM2, yp0⟩ | ⟨y0, y1, rfl, hM2, yp0⟩
    · skip
      refine ⟨_, some_iv (rfl), rfl, ?_⟩
      exact (kAll hI (fun i hi => by rw [hM2]; skip; rw [hM1]) (by rw [hM2]; exact congrFun e78 2) (by rw [hM2]; exact congrFun e78 5))
    · skip
      exfalso; omega
  · skip
    have e78 : M1 78 = M 78 := by rw [hM1]; (repeat (rw [up1_ne (by first | omega | (unfold basQ; omega) | (unfold tpQ; omega))]))
    have e79 : M1 79 = M 79 := by rw [hM1]; (repeat (rw [up1_ne (by first | omega | (unfold basQ; omega) | (unfold tpQ; omega))]))
    have e80 : M1 80 = M 80 := by rw [hM1]; (repeat (rw [up1_ne (by first | omega | (unfold basQ; omega) | (unfold tpQ; omega))]))
    have e82 : M1 82 = M 82 := by rw [hM1]; (repeat (rw [up1_ne (by first | omega | (unfold basQ; omega) | (unfold tpQ; omega))]))
    have e92 : M1 92 = M 92 := by rw [hM1]; (repeat (rw [up1_ne (by first | omega | (unfold basQ; omega) | (unfold tpQ; omega))]))
    have e93 : M1 93 = M 93 := by rw [hM1]; (repeat (rw [up1_ne (by first | omega | (unfold basQ; omega) | (unfold tpQ; omega))]))
    have e94 : M1 94 = M 94 := by rw [hM1]; (repeat (rw [up1_ne (by first | omega | (unfold basQ; omega) | (unfold tpQ; omega))]))
    try simp only [e78, e79, e80, e82, e92, e93, e94] at a2
    rcases a2 with ⟨rfl, hM2, yp0⟩ | ⟨y0, y1, rfl, hM2, yp0⟩
    · skip
      exfalso; omega
    · skip
      have hB := basF hI (b := b) (by omega) (by omega)
      have hb2 : M (basQ b) 2 = bsK (M 79) b := hB.2.1
      have hb3 : M (basQ b) 3 = bsN (M 79) b := hB.2.2.1
      have hb4 : M (basQ b + 1) = bsA (M 79) b := hB.2.2.2
      refine ⟨_, some_iv (by rw [h11, hb4]), rfl, ?_⟩
      exact (kAll hI (fun i hi => by rw [hM2]; (repeat (rw [up1_ne (by first | omega | (unfold basQ; omega) | (unfold tpQ; omega))])); rw [hM1]; (repeat (rw [up1_ne (by first | omega | (unfold basQ; omega) | (unfold tpQ; omega))]))) (by rw [hM2]; exact congrFun e78 2) (by rw [hM2]; exact congrFun e78 5))
theorem pr_unfold {M M1 M2 : Mem} {r1 r2 : Option Value} {b : Int} {h : Int} (hI : InvF M) (a1 : ((fun rv M' => (rv = some (iv (-1)) ∧ M' = M ∧ (¬ (0 ≤ b ∧ b < M 2 2) ∨ ¬ (0 ≤ h ∧ h ≤ 7))) ∨ (∃ (L U : Int → Int), rv = some (iv (-3)) ∧ M' = (up1 (up1 M 55 L) 56 U) ∧ (0 ≤ b ∧ b < M 2 2) ∧ (0 ≤ h ∧ h ≤ 7) ∧ (unfR (M 11) (M (basQ b + 1)) ≠ -5)) ∨ (∃ (L U : Int → Int), rv = some (iv (dvQ (M 11) (M (basQ b + 1)) 0 5 h)) ∧ M' = (up1 (up1 M 55 L) 56 U) ∧ (0 ≤ b ∧ b < M 2 2) ∧ (0 ≤ h ∧ h ≤ 7) ∧ (unfR (M 11) (M (basQ b + 1)) = -5)))) r1 M1) (a2 : ((fun rv M' => (rv = some (iv (-1)) ∧ M' = M1 ∧ (¬ (0 ≤ b ∧ b < M1 79 20) ∨ ¬ (0 ≤ h ∧ h ≤ 7))) ∨ (∃ (L U : Int → Int), rv = some (iv (-3)) ∧ M' = (up1 (up1 M1 87 L) 88 U) ∧ (0 ≤ b ∧ b < M1 79 20) ∧ (0 ≤ h ∧ h ≤ 7) ∧ (unfR (tdW (M1 79)) (bsA (M1 79) b) ≠ -5)) ∨ (∃ (L U : Int → Int), rv = some (iv (dvQ (tdW (M1 79)) (bsA (M1 79) b) 0 5 h)) ∧ M' = (up1 (up1 M1 87 L) 88 U) ∧ (0 ≤ b ∧ b < M1 79 20) ∧ (0 ≤ h ∧ h ≤ 7) ∧ (unfR (tdW (M1 79)) (bsA (M1 79) b) = -5)))) r2 M2) : ∃ x : Int, r1 = some (iv x) ∧ r2 = some (iv x) ∧ InvP M2 := by
  have h20 : M 2 2 = M 79 20 := hI.1.1.1
  have h3 : M 3 = M 79 := hI.1.1.2.1
  have h11 : M 11 = tdW (M 79) := hI.1.1.2.2.1
  have hw := hI.1.2
  have hm9 := hw.2.2.1
  rcases a1 with ⟨rfl, hM1, xp0⟩ | ⟨x0, x1, rfl, hM1, xp0, xp1, xp2⟩ | ⟨x0, x1, rfl, hM1, xp0, xp1, xp2⟩
  · skip
    have e78 : M1 78 = M 78 := by rw [hM1]
    have e79 : M1 79 = M 79 := by rw [hM1]
    have e80 : M1 80 = M 80 := by rw [hM1]
    have e82 : M1 82 = M 82 := by rw [hM1]
    have e92 : M1 92 = M 92 := by rw [hM1]
    have e93 : M1 93 = M 93 := by rw [hM1]
    have e94 : M1 94 = M 94 := by rw [hM1]
    try simp only [e78, e79, e80, e82, e92, e93, e94] at a2
    rcases a2 with ⟨rfl, hM2, yp0⟩ | ⟨y0, y1, rfl, hM2, yp0, yp1, yp2⟩ | ⟨y0, y1, rfl, hM2, yp0, yp1, yp2⟩
    · skip
      refine ⟨_, some_iv (rfl), rfl, ?_⟩
      exact (kAll hI (fun i hi => by rw [hM2]; skip; rw [hM1]) (by rw [hM2]; exact congrFun e78 2) (by rw [hM2]; exact congrFun e78 5))
    · skip
      exfalso; omega
    · skip
      exfalso; omega
  · skip
    have hB := basF hI (b := b) (by omega) (by omega)
    have hb2 : M (basQ b) 2 = bsK (M 79) b := hB.2.1
    have hb3 : M (basQ b) 3 = bsN (M 79) b := hB.2.2.1
    have hb4 : M (basQ b + 1) = bsA (M 79) b := hB.2.2.2
    rw [h11, hb4] at xp2
    have e78 : M1 78 = M 78 := by rw [hM1]; (repeat (rw [up1_ne (by first | omega | (unfold basQ; omega) | (unfold tpQ; omega))]))
    have e79 : M1 79 = M 79 := by rw [hM1]; (repeat (rw [up1_ne (by first | omega | (unfold basQ; omega) | (unfold tpQ; omega))]))
    have e80 : M1 80 = M 80 := by rw [hM1]; (repeat (rw [up1_ne (by first | omega | (unfold basQ; omega) | (unfold tpQ; omega))]))
    have e82 : M1 82 = M 82 := by rw [hM1]; (repeat (rw [up1_ne (by first | omega | (unfold basQ; omega) | (unfold tpQ; omega))]))
    have e92 : M1 92 = M 92 := by rw [hM1]; (repeat (rw [up1_ne (by first | omega | (unfold basQ; omega) | (unfold tpQ; omega))]))
    have e93 : M1 93 = M 93 := by rw [hM1]; (repeat (rw [up1_ne (by first | omega | (unfold basQ; omega) | (unfold tpQ; omega))]))
    have e94 : M1 94 = M 94 := by rw [hM1]; (repeat (rw [up1_ne (by first | omega | (unfold basQ; omega) | (unfold tpQ; omega))]))
    try simp only [e78, e79, e80, e82, e92, e93, e94] at a2
    rcases a2 with ⟨rfl, hM2, yp0⟩ | ⟨y0, y1, rfl, hM2, yp0, yp1, yp2⟩ | ⟨y0, y1, rfl, hM2, yp0, yp1, yp2⟩
    · skip
      exfalso; omega
    · skip
      refine ⟨_, some_iv (rfl), rfl, ?_⟩
      exact (kAll hI (fun i hi => by rw [hM2]; (repeat (rw [up1_ne (by first | omega | (unfold basQ; omega) | (unfold tpQ; omega))])); rw [hM1]; (repeat (rw [up1_ne (by first | omega | (unfold basQ; omega) | (unfold tpQ; omega))]))) (by rw [hM2]; exact congrFun e78 2) (by rw [hM2]; exact congrFun e78 5))
    · skip
      exfalso; omega
  · skip
    have hB := basF hI (b := b) (by omega) (by omega)
    have hb2 : M (basQ b) 2 = bsK (M 79) b := hB.2.1
    have hb3 : M (basQ b) 3 = bsN (M 79) b := hB.2.2.1
    have hb4 : M (basQ b + 1) = bsA (M 79) b := hB.2.2.2
    rw [h11, hb4] at xp2
    have e78 : M1 78 = M 78 := by rw [hM1]; (repeat (rw [up1_ne (by first | omega | (unfold basQ; omega) | (unfold tpQ; omega))]))
    have e79 : M1 79 = M 79 := by rw [hM1]; (repeat (rw [up1_ne (by first | omega | (unfold basQ; omega) | (unfold tpQ; omega))]))
    have e80 : M1 80 = M 80 := by rw [hM1]; (repeat (rw [up1_ne (by first | omega | (unfold basQ; omega) | (unfold tpQ; omega))]))
    have e82 : M1 82 = M 82 := by rw [hM1]; (repeat (rw [up1_ne (by first | omega | (unfold basQ; omega) | (unfold tpQ; omega))]))
    have e92 : M1 92 = M 92 := by rw [hM1]; (repeat (rw [up1_ne (by first | omega | (unfold basQ; omega) | (unfold tpQ; omega))]))
    have e93 : M1 93 = M 93 := by rw [hM1]; (repeat (rw [up1_ne (by first | omega | (unfold basQ; omega) | (unfold tpQ; omega))]))
    have e94 : M1 94 = M 94 := by rw [hM1]; (repeat (rw [up1_ne (by first | omega | (unfold basQ; omega) | (unfold tpQ; omega))]))
    try simp only [e78, e79, e80, e82, e92, e93, e94] at a2
    rcases a2 with ⟨rfl, hM2, yp0⟩ | ⟨y0, y1, rfl, hM2, yp0, yp1, yp2⟩ | ⟨y0, y1, rfl, hM2, yp0, yp1, yp2⟩
    · skip
      exfalso; omega
    · skip
      exfalso; omega
    · skip
      refine ⟨_, some_iv (by rw [h11, hb4]), rfl, ?_⟩
      exact (kAll hI (fun i hi => by rw [hM2]; (repeat (rw [up1_ne (by first | omega | (unfold basQ; omega) | (unfold tpQ; omega))])); rw [hM1]; (repeat (rw [up1_ne (by first | omega | (unfold basQ; omega) | (unfold tpQ; omega))]))) (by rw [hM2]; exact congrFun e78 2) (by rw [hM2]; exact congrFun e78 5))
theorem pr_backFlaw {M M1 M2 : Mem} {r1 r2 : Option Value}  (hI : InvF M) (a1 : ((fun rv M' => ∃ (L U : Int → Int), rv = some (iv (fbR (M 11) (M 3))) ∧ M' = (up1 (up1 M 55 L) 57 U))) r1 M1) (a2 : ((fun rv M' => ∃ (L U : Int → Int), rv = some (iv (fbR (tdW (M1 79)) (M1 79))) ∧ M' = (up1 (up1 M1 87 L) 89 U))) r2 M2) : ∃ x : Int, r1 = some (iv x) ∧ r2 = some (iv x) ∧ InvP M2 := by
  have h20 : M 2 2 = M 79 20 := hI.1.1.1
  have h3 : M 3 = M 79 := hI.1.1.2.1
  have h11 : M 11 = tdW (M 79) := hI.1.1.2.2.1
  have hw := hI.1.2
  have hm9 := hw.2.2.1
  obtain ⟨x0, x1, rfl, hM1⟩ := a1
  have e78 : M1 78 = M 78 := by rw [hM1]; (repeat (rw [up1_ne (by first | omega | (unfold basQ; omega) | (unfold tpQ; omega))]))
  have e79 : M1 79 = M 79 := by rw [hM1]; (repeat (rw [up1_ne (by first | omega | (unfold basQ; omega) | (unfold tpQ; omega))]))
  have e80 : M1 80 = M 80 := by rw [hM1]; (repeat (rw [up1_ne (by first | omega | (unfold basQ; omega) | (unfold tpQ; omega))]))
  have e82 : M1 82 = M 82 := by rw [hM1]; (repeat (rw [up1_ne (by first | omega | (unfold basQ; omega) | (unfold tpQ; omega))]))
  have e92 : M1 92 = M 92 := by rw [hM1]; (repeat (rw [up1_ne (by first | omega | (unfold basQ; omega) | (unfold tpQ; omega))]))
  have e93 : M1 93 = M 93 := by rw [hM1]; (repeat (rw [up1_ne (by first | omega | (unfold basQ; omega) | (unfold tpQ; omega))]))
  have e94 : M1 94 = M 94 := by rw [hM1]; (repeat (rw [up1_ne (by first | omega | (unfold basQ; omega) | (unfold tpQ; omega))]))
  try simp only [e78, e79, e80, e82, e92, e93, e94] at a2
  obtain ⟨y0, y1, rfl, hM2⟩ := a2
  refine ⟨_, some_iv (by rw [h11, h3]), rfl, ?_⟩
  exact (kAll hI (fun i hi => by rw [hM2]; (repeat (rw [up1_ne (by first | omega | (unfold basQ; omega) | (unfold tpQ; omega))])); rw [hM1]; (repeat (rw [up1_ne (by first | omega | (unfold basQ; omega) | (unfold tpQ; omega))]))) (by rw [hM2]; exact congrFun e78 2) (by rw [hM2]; exact congrFun e78 5))
theorem pr_back {M M1 M2 : Mem} {r1 r2 : Option Value} {p : Int} (hI : InvF M) (a1 : ((fun rv M' => (rv = some (iv (-1)) ∧ M' = M ∧ (¬ (0 ≤ p ∧ p ≤ 4))) ∨ (∃ (L U : Int → Int), rv = some (iv (-3)) ∧ M' = (up1 (up1 M 55 L) 57 U) ∧ (0 ≤ p ∧ p ≤ 4) ∧ (fbR (M 11) (M 3) ≠ -6)) ∨ (∃ (L U : Int → Int), rv = some (iv (dvQ (M 11) (M 3) (fwt (M 3) 8 0) 8 p)) ∧ M' = (up1 (up1 M 55 L) 57 U) ∧ (0 ≤ p ∧ p ≤ 4) ∧ (fbR (M 11) (M 3) = -6)))) r1 M1) (a2 : ((fun rv M' => (rv = some (iv (-1)) ∧ M' = M1 ∧ (¬ (0 ≤ p ∧ p ≤ 4))) ∨ (∃ (L U : Int → Int), rv = some (iv (-3)) ∧ M' = (up1 (up1 M1 87 L) 89 U) ∧ (0 ≤ p ∧ p ≤ 4) ∧ (fbR (tdW (M1 79)) (M1 79) ≠ -6)) ∨ (∃ (L U : Int → Int), rv = some (iv (dvQ (tdW (M1 79)) (M1 79) (fwt (M1 79) 8 0) 8 p)) ∧ M' = (up1 (up1 M1 87 L) 89 U) ∧ (0 ≤ p ∧ p ≤ 4) ∧ (fbR (tdW (M1 79)) (M1 79) = -6)))) r2 M2) : ∃ x : Int, r1 = some (iv x) ∧ r2 = some (iv x) ∧ InvP M2 := by
  have h20 : M 2 2 = M 79 20 := hI.1.1.1
  have h3 : M 3 = M 79 := hI.1.1.2.1
  have h11 : M 11 = tdW (M 79) := hI.1.1.2.2.1
  have hw := hI.1.2
  have hm9 := hw.2.2.1
  rcases a1 with ⟨rfl, hM1, xp0⟩ | ⟨x0, x1, rfl, hM1, xp0, xp1⟩ | ⟨x0, x1, rfl, hM1, xp0, xp1⟩
  · skip
    have e78 : M1 78 = M 78 := by rw [hM1]
    have e79 : M1 79 = M 79 := by rw [hM1]
    have e80 : M1 80 = M 80 := by rw [hM1]
    have e82 : M1 82 = M 82 := by rw [hM1]
    have e92 : M1 92 = M 92 := by rw [hM1]
    have e93 : M1 93 = M 93 := by rw [hM1]
    have e94 : M1 94 = M 94 := by rw [hM1]
    try simp only [e78, e79, e80, e82, e92, e93, e94] at a2
    rcases a2 with ⟨rfl, hM2, yp0⟩ | ⟨y0, y1, rfl, hM2, yp0, yp1⟩ | ⟨y0, y1, rfl, hM2, yp0, yp1⟩
    · skip
      refine ⟨_, some_iv (rfl), rfl, ?_⟩
      exact (kAll hI (fun i hi => by rw [hM2]; skip; rw [hM1]) (by rw [hM2]; exact congrFun e78 2) (by rw [hM2]; exact congrFun e78 5))
    · skip
      exfalso; omega
    · skip
      exfalso; omega
  · skip
    rw [h11, h3] at xp1
    have e78 : M1 78 = M 78 := by rw [hM1]; (repeat (rw [up1_ne (by first | omega | (unfold basQ; omega) | (unfold tpQ; omega))]))
    have e79 : M1 79 = M 79 := by rw [hM1]; (repeat (rw [up1_ne (by first | omega | (unfold basQ; omega) | (unfold tpQ; omega))]))
    have e80 : M1 80 = M 80 := by rw [hM1]; (repeat (rw [up1_ne (by first | omega | (unfold basQ; omega) | (unfold tpQ; omega))]))
    have e82 : M1 82 = M 82 := by rw [hM1]; (repeat (rw [up1_ne (by first | omega | (unfold basQ; omega) | (unfold tpQ; omega))]))
    have e92 : M1 92 = M 92 := by rw [hM1]; (repeat (rw [up1_ne (by first | omega | (unfold basQ; omega) | (unfold tpQ; omega))]))
    have e93 : M1 93 = M 93 := by rw [hM1]; (repeat (rw [up1_ne (by first | omega | (unfold basQ; omega) | (unfold tpQ; omega))]))
    have e94 : M1 94 = M 94 := by rw [hM1]; (repeat (rw [up1_ne (by first | omega | (unfold basQ; omega) | (unfold tpQ; omega))]))
    try simp only [e78, e79, e80, e82, e92, e93, e94] at a2
    rcases a2 with ⟨rfl, hM2, yp0⟩ | ⟨y0, y1, rfl, hM2, yp0, yp1⟩ | ⟨y0, y1, rfl, hM2, yp0, yp1⟩
    · skip
      exfalso; omega
    · skip
      refine ⟨_, some_iv (rfl), rfl, ?_⟩
      exact (kAll hI (fun i hi => by rw [hM2]; (repeat (rw [up1_ne (by first | omega | (unfold basQ; omega) | (unfold tpQ; omega))])); rw [hM1]; (repeat (rw [up1_ne (by first | omega | (unfold basQ; omega) | (unfold tpQ; omega))]))) (by rw [hM2]; exact congrFun e78 2) (by rw [hM2]; exact congrFun e78 5))
    · skip
      exfalso; omega
  · skip
    rw [h11, h3] at xp1
    have e78 : M1 78 = M 78 := by rw [hM1]; (repeat (rw [up1_ne (by first | omega | (unfold basQ; omega) | (unfold tpQ; omega))]))
    have e79 : M1 79 = M 79 := by rw [hM1]; (repeat (rw [up1_ne (by first | omega | (unfold basQ; omega) | (unfold tpQ; omega))]))
    have e80 : M1 80 = M 80 := by rw [hM1]; (repeat (rw [up1_ne (by first | omega | (unfold basQ; omega) | (unfold tpQ; omega))]))
    have e82 : M1 82 = M 82 := by rw [hM1]; (repeat (rw [up1_ne (by first | omega | (unfold basQ; omega) | (unfold tpQ; omega))]))
    have e92 : M1 92 = M 92 := by rw [hM1]; (repeat (rw [up1_ne (by first | omega | (unfold basQ; omega) | (unfold tpQ; omega))]))
    have e93 : M1 93 = M 93 := by rw [hM1]; (repeat (rw [up1_ne (by first | omega | (unfold basQ; omega) | (unfold tpQ; omega))]))
    have e94 : M1 94 = M 94 := by rw [hM1]; (repeat (rw [up1_ne (by first | omega | (unfold basQ; omega) | (unfold tpQ; omega))]))
    try simp only [e78, e79, e80, e82, e92, e93, e94] at a2
    rcases a2 with ⟨rfl, hM2, yp0⟩ | ⟨y0, y1, rfl, hM2, yp0, yp1⟩ | ⟨y0, y1, rfl, hM2, yp0, yp1⟩
    · skip
      exfalso; omega
    · skip
      exfalso; omega
    · skip
      refine ⟨_, some_iv (by rw [h11, h3]), rfl, ?_⟩
      exact (kAll hI (fun i hi => by rw [hM2]; (repeat (rw [up1_ne (by first | omega | (unfold basQ; omega) | (unfold tpQ; omega))])); rw [hM1]; (repeat (rw [up1_ne (by first | omega | (unfold basQ; omega) | (unfold tpQ; omega))]))) (by rw [hM2]; exact congrFun e78 2) (by rw [hM2]; exact congrFun e78 5))
theorem pr_nearest {M M1 M2 : Mem} {r1 r2 : Option Value} {b : Int} {h : Int} (hI : InvF M) (a1 : ((fun rv M' => (rv = some (iv (-1)) ∧ M' = M ∧ (¬ (0 ≤ b ∧ b < M 2 2) ∨ ¬ (0 ≤ h ∧ h ≤ 3))) ∨ (∃ (R F : Int → Int), rv = some (iv (spr (amn (nrs (M 11) (M (basQ b + 1))) 343) h)) ∧ M' = (up1 (up1 (up1 (up1 M 58 (up (M 58) 3 ((nrs (M 11) (M (basQ b + 1))) (amn (nrs (M 11) (M (basQ b + 1))) 343)))) 59 R) 61 F) 60 (spr (amn (nrs (M 11) (M (basQ b + 1))) 343))) ∧ (0 ≤ b ∧ b < M 2 2) ∧ (0 ≤ h ∧ h ≤ 2)) ∨ (∃ (R F : Int → Int), rv = some (iv ((nrs (M 11) (M (basQ b + 1))) (amn (nrs (M 11) (M (basQ b + 1))) 343))) ∧ M' = (up1 (up1 (up1 (up1 M 58 (up (M 58) 3 ((nrs (M 11) (M (basQ b + 1))) (amn (nrs (M 11) (M (basQ b + 1))) 343)))) 59 R) 61 F) 60 (spr (amn (nrs (M 11) (M (basQ b + 1))) 343))) ∧ (0 ≤ b ∧ b < M 2 2) ∧ (h = 3)))) r1 M1) (a2 : ((fun rv M' => (rv = some (iv (-1)) ∧ M' = M1 ∧ (¬ (0 ≤ b ∧ b < M1 79 20) ∨ ¬ (0 ≤ h ∧ h ≤ 3))) ∨ (∃ (Z F : Int → Int), rv = some (iv (spr (amn (nrs (tdW (M1 79)) (bsA (M1 79) b)) 343) h)) ∧ M' = (up1 (up1 M1 90 Z) 84 F) ∧ (0 ≤ b ∧ b < M1 79 20) ∧ (0 ≤ h ∧ h ≤ 2)) ∨ (∃ (Z F : Int → Int), rv = some (iv ((nrs (tdW (M1 79)) (bsA (M1 79) b)) (amn (nrs (tdW (M1 79)) (bsA (M1 79) b)) 343))) ∧ M' = (up1 (up1 M1 90 Z) 84 F) ∧ (0 ≤ b ∧ b < M1 79 20) ∧ (h = 3)))) r2 M2) : ∃ x : Int, r1 = some (iv x) ∧ r2 = some (iv x) ∧ InvP M2 := by
  have h20 : M 2 2 = M 79 20 := hI.1.1.1
  have h3 : M 3 = M 79 := hI.1.1.2.1
  have h11 : M 11 = tdW (M 79) := hI.1.1.2.2.1
  have hw := hI.1.2
  have hm9 := hw.2.2.1
  rcases a1 with ⟨rfl, hM1, xp0⟩ | ⟨x0, x1, rfl, hM1, xp0, xp1⟩ | ⟨x0, x1, rfl, hM1, xp0, xp1⟩
  · skip
    have e78 : M1 78 = M 78 := by rw [hM1]
    have e79 : M1 79 = M 79 := by rw [hM1]
    have e80 : M1 80 = M 80 := by rw [hM1]
    have e82 : M1 82 = M 82 := by rw [hM1]
    have e92 : M1 92 = M 92 := by rw [hM1]
    have e93 : M1 93 = M 93 := by rw [hM1]
    have e94 : M1 94 = M 94 := by rw [hM1]
    try simp only [e78, e79, e80, e82, e92, e93, e94] at a2
    rcases a2 with ⟨rfl, hM2, yp0⟩ | ⟨y0, y1, rfl, hM2, yp0, yp1⟩ | ⟨y0, y1, rfl, hM2, yp0, yp1⟩
    · skip
      refine ⟨_, some_iv (rfl), rfl, ?_⟩
      exact (kAll hI (fun i hi => by rw [hM2]; skip; rw [hM1]) (by rw [hM2]; exact congrFun e78 2) (by rw [hM2]; exact congrFun e78 5))
    · skip
      exfalso; omega
    · skip
      exfalso; omega
  · skip
    have e78 : M1 78 = M 78 := by rw [hM1]; (repeat (rw [up1_ne (by first | omega | (unfold basQ; omega) | (unfold tpQ; omega))]))
    have e79 : M1 79 = M 79 := by rw [hM1]; (repeat (rw [up1_ne (by first | omega | (unfold basQ; omega) | (unfold tpQ; omega))]))
    have e80 : M1 80 = M 80 := by rw [hM1]; (repeat (rw [up1_ne (by first | omega | (unfold basQ; omega) | (unfold tpQ; omega))]))
    have e82 : M1 82 = M 82 := by rw [hM1]; (repeat (rw [up1_ne (by first | omega | (unfold basQ; omega) | (unfold tpQ; omega))]))
    have e92 : M1 92 = M 92 := by rw [hM1]; (repeat (rw [up1_ne (by first | omega | (unfold basQ; omega) | (unfold tpQ; omega))]))
    have e93 : M1 93 = M 93 := by rw [hM1]; (repeat (rw [up1_ne (by first | omega | (unfold basQ; omega) | (unfold tpQ; omega))]))
    have e94 : M1 94 = M 94 := by rw [hM1]; (repeat (rw [up1_ne (by first | omega | (unfold basQ; omega) | (unfold tpQ; omega))]))
    try simp only [e78, e79, e80, e82, e92, e93, e94] at a2
    rcases a2 with ⟨rfl, hM2, yp0⟩ | ⟨y0, y1, rfl, hM2, yp0, yp1⟩ | ⟨y0, y1, rfl, hM2, yp0, yp1⟩
    · skip
      exfalso; omega
    · skip
      have hB := basF hI (b := b) (by omega) (by omega)
      have hb2 : M (basQ b) 2 = bsK (M 79) b := hB.2.1
      have hb3 : M (basQ b) 3 = bsN (M 79) b := hB.2.2.1
      have hb4 : M (basQ b + 1) = bsA (M 79) b := hB.2.2.2
      refine ⟨_, some_iv (by rw [h11, hb4]), rfl, ?_⟩
      exact (kAll hI (fun i hi => by rw [hM2]; (repeat (rw [up1_ne (by first | omega | (unfold basQ; omega) | (unfold tpQ; omega))])); rw [hM1]; (repeat (rw [up1_ne (by first | omega | (unfold basQ; omega) | (unfold tpQ; omega))]))) (by rw [hM2]; exact congrFun e78 2) (by rw [hM2]; exact congrFun e78 5))
    · skip
      exfalso; omega
  · skip
    have e78 : M1 78 = M 78 := by rw [hM1]; (repeat (rw [up1_ne (by first | omega | (unfold basQ; omega) | (unfold tpQ; omega))]))
    have e79 : M1 79 = M 79 := by rw [hM1]; (repeat (rw [up1_ne (by first | omega | (unfold basQ; omega) | (unfold tpQ; omega))]))
    have e80 : M1 80 = M 80 := by rw [hM1]; (repeat (rw [up1_ne (by first | omega | (unfold basQ; omega) | (unfold tpQ; omega))]))
    have e82 : M1 82 = M 82 := by rw [hM1]; (repeat (rw [up1_ne (by first | omega | (unfold basQ; omega) | (unfold tpQ; omega))]))
    have e92 : M1 92 = M 92 := by rw [hM1]; (repeat (rw [up1_ne (by first | omega | (unfold basQ; omega) | (unfold tpQ; omega))]))
    have e93 : M1 93 = M 93 := by rw [hM1]; (repeat (rw [up1_ne (by first | omega | (unfold basQ; omega) | (unfold tpQ; omega))]))
    have e94 : M1 94 = M 94 := by rw [hM1]; (repeat (rw [up1_ne (by first | omega | (unfold basQ; omega) | (unfold tpQ; omega))]))
    try simp only [e78, e79, e80, e82, e92, e93, e94] at a2
    rcases a2 with ⟨rfl, hM2, yp0⟩ | ⟨y0, y1, rfl, hM2, yp0, yp1⟩ | ⟨y0, y1, rfl, hM2, yp0, yp1⟩
    · skip
      exfalso; omega
    · skip
      exfalso; omega
    · skip
      have hB := basF hI (b := b) (by omega) (by omega)
      have hb2 : M (basQ b) 2 = bsK (M 79) b := hB.2.1
      have hb3 : M (basQ b) 3 = bsN (M 79) b := hB.2.2.1
      have hb4 : M (basQ b + 1) = bsA (M 79) b := hB.2.2.2
      refine ⟨_, some_iv (by rw [h11, hb4]), rfl, ?_⟩
      exact (kAll hI (fun i hi => by rw [hM2]; (repeat (rw [up1_ne (by first | omega | (unfold basQ; omega) | (unfold tpQ; omega))])); rw [hM1]; (repeat (rw [up1_ne (by first | omega | (unfold basQ; omega) | (unfold tpQ; omega))]))) (by rw [hM2]; exact congrFun e78 2) (by rw [hM2]; exact congrFun e78 5))
theorem pr_exchange {M M1 M2 : Mem} {r1 r2 : Option Value} {w : Int} (hI : InvF M) (a1 : ((fun rv M' => (rv = some (iv (-1)) ∧ M' = M ∧ (¬ (0 ≤ w ∧ w ≤ 1))) ∨ (∃ (A0 A1 A2 A3 A4 A5 A6 A7 A8 A9 A10 : Int → Int), rv = some (iv (exO (fun s t => pkR M (swp (M 3) s t)) (pkR M (M 3)) 8).2) ∧ M' = (up1 (up1 (up1 (up1 (up1 (up1 (up1 (up1 (up1 (up1 (up1 M 42 A0) 45 A1) 44 A2) 47 A3) 46 A4) 49 A5) 48 A6) 41 A7) 53 A8) 51 A9) 52 A10) ∧ (w = 0)) ∨ (∃ (A0 A1 A2 A3 A4 A5 A6 A7 A8 A9 A10 : Int → Int), rv = some (iv (exO (fun s t => pkR M (swp (M 3) s t)) (pkR M (M 3)) 8).1) ∧ M' = (up1 (up1 (up1 (up1 (up1 (up1 (up1 (up1 (up1 (up1 (up1 M 42 A0) 45 A1) 44 A2) 47 A3) 46 A4) 49 A5) 48 A6) 41 A7) 53 A8) 51 A9) 52 A10) ∧ (w = 1)))) r1 M1) (a2 : ((fun rv M' => (rv = some (iv (-1)) ∧ M' = M1 ∧ (¬ (0 ≤ w ∧ w ≤ 1))) ∨ (∃ (F O C J : Int → Int), rv = some (iv (exO (fun s t => pkW (swp (M1 79) s t)) (pkW (M1 79)) 8).2) ∧ M' = (up1 (up1 (up1 (up1 M1 84 F) 85 O) 78 C) 86 J) ∧ (w = 0) ∧ (∀ j : Int, j ≠ 13 → C j = M1 78 j)) ∨ (∃ (F O C J : Int → Int), rv = some (iv (exO (fun s t => pkW (swp (M1 79) s t)) (pkW (M1 79)) 8).1) ∧ M' = (up1 (up1 (up1 (up1 M1 84 F) 85 O) 78 C) 86 J) ∧ (w = 1) ∧ (∀ j : Int, j ≠ 13 → C j = M1 78 j)))) r2 M2) : ∃ x : Int, r1 = some (iv x) ∧ r2 = some (iv x) ∧ InvP M2 := by
  have h20 : M 2 2 = M 79 20 := hI.1.1.1
  have h3 : M 3 = M 79 := hI.1.1.2.1
  have h11 : M 11 = tdW (M 79) := hI.1.1.2.2.1
  have hw := hI.1.2
  have hm9 := hw.2.2.1
  rcases a1 with ⟨rfl, hM1, xp0⟩ | ⟨x0, x1, x2, x3, x4, x5, x6, x7, x8, x9, x10, rfl, hM1, xp0⟩ | ⟨x0, x1, x2, x3, x4, x5, x6, x7, x8, x9, x10, rfl, hM1, xp0⟩
  · skip
    have e78 : M1 78 = M 78 := by rw [hM1]
    have e79 : M1 79 = M 79 := by rw [hM1]
    have e80 : M1 80 = M 80 := by rw [hM1]
    have e82 : M1 82 = M 82 := by rw [hM1]
    have e92 : M1 92 = M 92 := by rw [hM1]
    have e93 : M1 93 = M 93 := by rw [hM1]
    have e94 : M1 94 = M 94 := by rw [hM1]
    try simp only [e78, e79, e80, e82, e92, e93, e94] at a2
    rcases a2 with ⟨rfl, hM2, yp0⟩ | ⟨y0, y1, y2, y3, rfl, hM2, yp0, yp1⟩ | ⟨y0, y1, y2, y3, rfl, hM2, yp0, yp1⟩
    · skip
      refine ⟨_, some_iv (rfl), rfl, ?_⟩
      exact (kAll hI (fun i hi => by rw [hM2]; skip; rw [hM1]) (by rw [hM2]; exact congrFun e78 2) (by rw [hM2]; exact congrFun e78 5))
    · skip
      exfalso; omega
    · skip
      exfalso; omega
  · skip
    have e78 : M1 78 = M 78 := by rw [hM1]; (repeat (rw [up1_ne (by first | omega | (unfold basQ; omega) | (unfold tpQ; omega))]))
    have e79 : M1 79 = M 79 := by rw [hM1]; (repeat (rw [up1_ne (by first | omega | (unfold basQ; omega) | (unfold tpQ; omega))]))
    have e80 : M1 80 = M 80 := by rw [hM1]; (repeat (rw [up1_ne (by first | omega | (unfold basQ; omega) | (unfold tpQ; omega))]))
    have e82 : M1 82 = M 82 := by rw [hM1]; (repeat (rw [up1_ne (by first | omega | (unfold basQ; omega) | (unfold tpQ; omega))]))
    have e92 : M1 92 = M 92 := by rw [hM1]; (repeat (rw [up1_ne (by first | omega | (unfold basQ; omega) | (unfold tpQ; omega))]))
    have e93 : M1 93 = M 93 := by rw [hM1]; (repeat (rw [up1_ne (by first | omega | (unfold basQ; omega) | (unfold tpQ; omega))]))
    have e94 : M1 94 = M 94 := by rw [hM1]; (repeat (rw [up1_ne (by first | omega | (unfold basQ; omega) | (unfold tpQ; omega))]))
    try simp only [e78, e79, e80, e82, e92, e93, e94] at a2
    rcases a2 with ⟨rfl, hM2, yp0⟩ | ⟨y0, y1, y2, y3, rfl, hM2, yp0, yp1⟩ | ⟨y0, y1, y2, y3, rfl, hM2, yp0, yp1⟩
    · skip
      exfalso; omega
    · skip
      have hP0 : pkR M (M 79) = pkW (M 79) := pkR_W hI (fun j _ => rfl)
      have hPs : exO (fun s t => pkR M (swp (M 79) s t)) (pkW (M 79)) 8 = exO (fun s t => pkW (swp (M 79) s t)) (pkW (M 79)) 8 := exO_cg 8 (Nat.le_refl _) (fun s t s0 s1 t1 => pkR_W hI (fun j hj => by unfold swp; rw [up_ne (by omega), up_ne (by omega)]))
      refine ⟨_, some_iv (by rw [h3, hP0, hPs]), rfl, ?_⟩
      exact (kAll hI (fun i hi => by rw [hM2]; (repeat (rw [up1_ne (by first | omega | (unfold basQ; omega) | (unfold tpQ; omega))])); rw [hM1]; (repeat (rw [up1_ne (by first | omega | (unfold basQ; omega) | (unfold tpQ; omega))]))) (by rw [hM2]; exact yp1 2 (by decide)) (by rw [hM2]; exact yp1 5 (by decide)))
    · skip
      exfalso; omega
  · skip
    have e78 : M1 78 = M 78 := by rw [hM1]; (repeat (rw [up1_ne (by first | omega | (unfold basQ; omega) | (unfold tpQ; omega))]))
    have e79 : M1 79 = M 79 := by rw [hM1]; (repeat (rw [up1_ne (by first | omega | (unfold basQ; omega) | (unfold tpQ; omega))]))
    have e80 : M1 80 = M 80 := by rw [hM1]; (repeat (rw [up1_ne (by first | omega | (unfold basQ; omega) | (unfold tpQ; omega))]))
    have e82 : M1 82 = M 82 := by rw [hM1]; (repeat (rw [up1_ne (by first | omega | (unfold basQ; omega) | (unfold tpQ; omega))]))
    have e92 : M1 92 = M 92 := by rw [hM1]; (repeat (rw [up1_ne (by first | omega | (unfold basQ; omega) | (unfold tpQ; omega))]))
    have e93 : M1 93 = M 93 := by rw [hM1]; (repeat (rw [up1_ne (by first | omega | (unfold basQ; omega) | (unfold tpQ; omega))]))
    have e94 : M1 94 = M 94 := by rw [hM1]; (repeat (rw [up1_ne (by first | omega | (unfold basQ; omega) | (unfold tpQ; omega))]))
    try simp only [e78, e79, e80, e82, e92, e93, e94] at a2
    rcases a2 with ⟨rfl, hM2, yp0⟩ | ⟨y0, y1, y2, y3, rfl, hM2, yp0, yp1⟩ | ⟨y0, y1, y2, y3, rfl, hM2, yp0, yp1⟩
    · skip
      exfalso; omega
    · skip
      exfalso; omega
    · skip
      have hP0 : pkR M (M 79) = pkW (M 79) := pkR_W hI (fun j _ => rfl)
      have hPs : exO (fun s t => pkR M (swp (M 79) s t)) (pkW (M 79)) 8 = exO (fun s t => pkW (swp (M 79) s t)) (pkW (M 79)) 8 := exO_cg 8 (Nat.le_refl _) (fun s t s0 s1 t1 => pkR_W hI (fun j hj => by unfold swp; rw [up_ne (by omega), up_ne (by omega)]))
      refine ⟨_, some_iv (by rw [h3, hP0, hPs]), rfl, ?_⟩
      exact (kAll hI (fun i hi => by rw [hM2]; (repeat (rw [up1_ne (by first | omega | (unfold basQ; omega) | (unfold tpQ; omega))])); rw [hM1]; (repeat (rw [up1_ne (by first | omega | (unfold basQ; omega) | (unfold tpQ; omega))]))) (by rw [hM2]; exact yp1 2 (by decide)) (by rw [hM2]; exact yp1 5 (by decide)))
theorem pr_fits {M M1 M2 : Mem} {r1 r2 : Option Value} {h : Int} {w : Int} (hI : InvF M) (a1 : ((fun rv M' => (rv = some (iv (-1)) ∧ M' = M ∧ (¬ (0 ≤ h ∧ h ≤ 7) ∨ ¬ (0 ≤ w ∧ w ≤ 1))) ∨ (∃ (A0 A1 A2 A3 A4 A5 A6 A7 A8 A9 A10 : Int → Int), rv = some (iv (ftN (fitF M h) 21)) ∧ M' = (up1 (up1 (up1 (up1 (up1 (up1 (up1 (up1 (up1 (up1 (up1 M 42 A0) 45 A1) 44 A2) 47 A3) 46 A4) 49 A5) 48 A6) 41 A7) 53 A8) 51 A9) 52 A10) ∧ (0 ≤ h ∧ h ≤ 7) ∧ (w = 0)) ∨ (∃ (A0 A1 A2 A3 A4 A5 A6 A7 A8 A9 A10 : Int → Int), rv = some (iv (ftL (fitF M h) 21)) ∧ M' = (up1 (up1 (up1 (up1 (up1 (up1 (up1 (up1 (up1 (up1 (up1 M 42 A0) 45 A1) 44 A2) 47 A3) 46 A4) 49 A5) 48 A6) 41 A7) 53 A8) 51 A9) 52 A10) ∧ (0 ≤ h ∧ h ≤ 7) ∧ (w = 1)))) r1 M1) (a2 : ((fun rv M' => (rv = some (iv (-1)) ∧ M' = M1 ∧ (¬ (0 ≤ h ∧ h ≤ 7) ∨ ¬ (0 ≤ w ∧ w ≤ 1))) ∨ (∃ (F O C J : Int → Int), rv = some (iv (ftN (fun v => fot (rwH (M1 79) 46) (rwN (M1 79) 46) (jnW (up (M1 79) h v)) (M1 79 45).toNat 0) 21)) ∧ M' = (up1 (up1 (up1 (up1 M1 84 F) 85 O) 78 C) 86 J) ∧ (0 ≤ h ∧ h ≤ 7) ∧ (w = 0) ∧ (∀ j : Int, j ≠ 13 → C j = M1 78 j)) ∨ (∃ (F O C J : Int → Int), rv = some (iv (ftL (fun v => fot (rwH (M1 79) 46) (rwN (M1 79) 46) (jnW (up (M1 79) h v)) (M1 79 45).toNat 0) 21)) ∧ M' = (up1 (up1 (up1 (up1 M1 84 F) 85 O) 78 C) 86 J) ∧ (0 ≤ h ∧ h ≤ 7) ∧ (w = 1) ∧ (∀ j : Int, j ≠ 13 → C j = M1 78 j)))) r2 M2) : ∃ x : Int, r1 = some (iv x) ∧ r2 = some (iv x) ∧ InvP M2 := by
  have h20 : M 2 2 = M 79 20 := hI.1.1.1
  have h3 : M 3 = M 79 := hI.1.1.2.1
  have h11 : M 11 = tdW (M 79) := hI.1.1.2.2.1
  have hw := hI.1.2
  have hm9 := hw.2.2.1
  rcases a1 with ⟨rfl, hM1, xp0⟩ | ⟨x0, x1, x2, x3, x4, x5, x6, x7, x8, x9, x10, rfl, hM1, xp0, xp1⟩ | ⟨x0, x1, x2, x3, x4, x5, x6, x7, x8, x9, x10, rfl, hM1, xp0, xp1⟩
  · skip
    have e78 : M1 78 = M 78 := by rw [hM1]
    have e79 : M1 79 = M 79 := by rw [hM1]
    have e80 : M1 80 = M 80 := by rw [hM1]
    have e82 : M1 82 = M 82 := by rw [hM1]
    have e92 : M1 92 = M 92 := by rw [hM1]
    have e93 : M1 93 = M 93 := by rw [hM1]
    have e94 : M1 94 = M 94 := by rw [hM1]
    try simp only [e78, e79, e80, e82, e92, e93, e94] at a2
    rcases a2 with ⟨rfl, hM2, yp0⟩ | ⟨y0, y1, y2, y3, rfl, hM2, yp0, yp1, yp2⟩ | ⟨y0, y1, y2, y3, rfl, hM2, yp0, yp1, yp2⟩
    · skip
      refine ⟨_, some_iv (rfl), rfl, ?_⟩
      exact (kAll hI (fun i hi => by rw [hM2]; skip; rw [hM1]) (by rw [hM2]; exact congrFun e78 2) (by rw [hM2]; exact congrFun e78 5))
    · skip
      exfalso; omega
    · skip
      exfalso; omega
  · skip
    have e78 : M1 78 = M 78 := by rw [hM1]; (repeat (rw [up1_ne (by first | omega | (unfold basQ; omega) | (unfold tpQ; omega))]))
    have e79 : M1 79 = M 79 := by rw [hM1]; (repeat (rw [up1_ne (by first | omega | (unfold basQ; omega) | (unfold tpQ; omega))]))
    have e80 : M1 80 = M 80 := by rw [hM1]; (repeat (rw [up1_ne (by first | omega | (unfold basQ; omega) | (unfold tpQ; omega))]))
    have e82 : M1 82 = M 82 := by rw [hM1]; (repeat (rw [up1_ne (by first | omega | (unfold basQ; omega) | (unfold tpQ; omega))]))
    have e92 : M1 92 = M 92 := by rw [hM1]; (repeat (rw [up1_ne (by first | omega | (unfold basQ; omega) | (unfold tpQ; omega))]))
    have e93 : M1 93 = M 93 := by rw [hM1]; (repeat (rw [up1_ne (by first | omega | (unfold basQ; omega) | (unfold tpQ; omega))]))
    have e94 : M1 94 = M 94 := by rw [hM1]; (repeat (rw [up1_ne (by first | omega | (unfold basQ; omega) | (unfold tpQ; omega))]))
    try simp only [e78, e79, e80, e82, e92, e93, e94] at a2
    rcases a2 with ⟨rfl, hM2, yp0⟩ | ⟨y0, y1, y2, y3, rfl, hM2, yp0, yp1, yp2⟩ | ⟨y0, y1, y2, y3, rfl, hM2, yp0, yp1, yp2⟩
    · skip
      exfalso; omega
    · skip
      have h45 : M 12 3 = M 79 45 := hI.2.1.1.1.1
      have h13 : M 13 = sn5 (rwH (M 79) 46) := hI.2.1.1.1.2.1
      have h14 : M 14 = sn5 (rwN (M 79) 46) := hI.2.1.1.1.2.2
      have h455 := hI.2.1.2.1.1.2
      have hft : ∀ v : Int, fitF M h v = fot (rwH (M 79) 46) (rwN (M 79) 46) (jnW (up (M 79) h v)) (M 79 45).toNat 0 := fun v => by
        unfold fitF
        rw [h13, h14, h45, h3, sn5_fot h455, jnR_W hI, jnW_far hm9.2 (fun j hj => up_ne (by omega))]
      have hfq := ftN_cg (f := fitF M h) (f' := fun v => fot (rwH (M 79) 46) (rwN (M 79) 46) (jnW (up (M 79) h v)) (M 79 45).toNat 0) 21 (fun k _ => hft (20 - k))
      refine ⟨_, some_iv (hfq.1), rfl, ?_⟩
      exact (kAll hI (fun i hi => by rw [hM2]; (repeat (rw [up1_ne (by first | omega | (unfold basQ; omega) | (unfold tpQ; omega))])); rw [hM1]; (repeat (rw [up1_ne (by first | omega | (unfold basQ; omega) | (unfold tpQ; omega))]))) (by rw [hM2]; exact yp2 2 (by decide)) (by rw [hM2]; exact yp2 5 (by decide)))
    · skip
      exfalso; omega
  · skip
    have e78 : M1 78 = M 78 := by rw [hM1]; (repeat (rw [up1_ne (by first | omega | (unfold basQ; omega) | (unfold tpQ; omega))]))
    have e79 : M1 79 = M 79 := by rw [hM1]; (repeat (rw [up1_ne (by first | omega | (unfold basQ; omega) | (unfold tpQ; omega))]))
    have e80 : M1 80 = M 80 := by rw [hM1]; (repeat (rw [up1_ne (by first | omega | (unfold basQ; omega) | (unfold tpQ; omega))]))
    have e82 : M1 82 = M 82 := by rw [hM1]; (repeat (rw [up1_ne (by first | omega | (unfold basQ; omega) | (unfold tpQ; omega))]))
    have e92 : M1 92 = M 92 := by rw [hM1]; (repeat (rw [up1_ne (by first | omega | (unfold basQ; omega) | (unfold tpQ; omega))]))
    have e93 : M1 93 = M 93 := by rw [hM1]; (repeat (rw [up1_ne (by first | omega | (unfold basQ; omega) | (unfold tpQ; omega))]))
    have e94 : M1 94 = M 94 := by rw [hM1]; (repeat (rw [up1_ne (by first | omega | (unfold basQ; omega) | (unfold tpQ; omega))]))
    try simp only [e78, e79, e80, e82, e92, e93, e94] at a2
    rcases a2 with ⟨rfl, hM2, yp0⟩ | ⟨y0, y1, y2, y3, rfl, hM2, yp0, yp1, yp2⟩ | ⟨y0, y1, y2, y3, rfl, hM2, yp0, yp1, yp2⟩
    · skip
      exfalso; omega
    · skip
      exfalso; omega
    · skip
      have h45 : M 12 3 = M 79 45 := hI.2.1.1.1.1
      have h13 : M 13 = sn5 (rwH (M 79) 46) := hI.2.1.1.1.2.1
      have h14 : M 14 = sn5 (rwN (M 79) 46) := hI.2.1.1.1.2.2
      have h455 := hI.2.1.2.1.1.2
      have hft : ∀ v : Int, fitF M h v = fot (rwH (M 79) 46) (rwN (M 79) 46) (jnW (up (M 79) h v)) (M 79 45).toNat 0 := fun v => by
        unfold fitF
        rw [h13, h14, h45, h3, sn5_fot h455, jnR_W hI, jnW_far hm9.2 (fun j hj => up_ne (by omega))]
      have hfq := ftN_cg (f := fitF M h) (f' := fun v => fot (rwH (M 79) 46) (rwN (M 79) 46) (jnW (up (M 79) h v)) (M 79 45).toNat 0) 21 (fun k _ => hft (20 - k))
      refine ⟨_, some_iv (hfq.2), rfl, ?_⟩
      exact (kAll hI (fun i hi => by rw [hM2]; (repeat (rw [up1_ne (by first | omega | (unfold basQ; omega) | (unfold tpQ; omega))])); rw [hM1]; (repeat (rw [up1_ne (by first | omega | (unfold basQ; omega) | (unfold tpQ; omega))]))) (by rw [hM2]; exact yp2 2 (by decide)) (by rw [hM2]; exact yp2 5 (by decide)))
theorem pr_odds {M M1 M2 : Mem} {r1 r2 : Option Value} {h : Int} {lim : Int} {p : Int} (hI : InvF M) (a1 : ((fun rv M' => (rv = some (jv (-9223372036854775808)) ∧ M' = M ∧ (¬ (0 ≤ h ∧ h ≤ 7) ∨ ¬ (0 ≤ lim ∧ lim ≤ 9999))) ∨ (∃ (A0 A1 A2 A3 A4 A5 A6 A7 A8 A9 A10 : Int → Int), rv = some (jv (-9223372036854775808)) ∧ M' = (up1 (up1 (up1 (up1 (up1 (up1 (up1 (up1 (up1 (up1 (up1 M 42 A0) 45 A1) 44 A2) 47 A3) 46 A4) 49 A5) 48 A6) 41 A7) 53 A8) 51 A9) 52 A10) ∧ (0 ≤ h ∧ h ≤ 7) ∧ (0 ≤ lim ∧ lim ≤ 9999) ∧ (¬ (0 ≤ p ∧ p ≤ 1))) ∨ (∃ (A0 A1 A2 A3 A4 A5 A6 A7 A8 A9 A10 : Int → Int), rv = some (jv ((if p = 0 then oda (fun v => pkR M (up (M 3) h v)) lim 21 else 21) / gcdI 21 (oda (fun v => pkR M (up (M 3) h v)) lim 21))) ∧ M' = (up1 (up1 (up1 (up1 (up1 (up1 (up1 (up1 (up1 (up1 (up1 M 42 A0) 45 A1) 44 A2) 47 A3) 46 A4) 49 A5) 48 A6) 41 A7) 53 A8) 51 A9) 52 A10) ∧ (0 ≤ h ∧ h ≤ 7) ∧ (0 ≤ lim ∧ lim ≤ 9999) ∧ (0 ≤ p ∧ p ≤ 1)))) r1 M1) (a2 : ((fun rv M' => (rv = some (jv (-9223372036854775808)) ∧ M' = M1 ∧ (¬ (0 ≤ h ∧ h ≤ 7) ∨ ¬ (0 ≤ lim ∧ lim ≤ 9999) ∨ ¬ (0 ≤ p ∧ p ≤ 1))) ∨ (∃ (F O C J : Int → Int), rv = some (jv ((if p = 0 then oda (fun v => pkW (up (M1 79) h v)) lim 21 else 21) / gcdI 21 (oda (fun v => pkW (up (M1 79) h v)) lim 21))) ∧ M' = (up1 (up1 (up1 (up1 M1 84 F) 85 O) 78 C) 86 J) ∧ (0 ≤ h ∧ h ≤ 7) ∧ (0 ≤ lim ∧ lim ≤ 9999) ∧ (0 ≤ p ∧ p ≤ 1) ∧ (∀ j : Int, j ≠ 13 → C j = M1 78 j)))) r2 M2) : ∃ x : Int, r1 = some (jv x) ∧ r2 = some (jv x) ∧ InvP M2 := by
  have h20 : M 2 2 = M 79 20 := hI.1.1.1
  have h3 : M 3 = M 79 := hI.1.1.2.1
  have h11 : M 11 = tdW (M 79) := hI.1.1.2.2.1
  have hw := hI.1.2
  have hm9 := hw.2.2.1
  rcases a1 with ⟨rfl, hM1, xp0⟩ | ⟨x0, x1, x2, x3, x4, x5, x6, x7, x8, x9, x10, rfl, hM1, xp0, xp1, xp2⟩ | ⟨x0, x1, x2, x3, x4, x5, x6, x7, x8, x9, x10, rfl, hM1, xp0, xp1, xp2⟩
  · skip
    have e78 : M1 78 = M 78 := by rw [hM1]
    have e79 : M1 79 = M 79 := by rw [hM1]
    have e80 : M1 80 = M 80 := by rw [hM1]
    have e82 : M1 82 = M 82 := by rw [hM1]
    have e92 : M1 92 = M 92 := by rw [hM1]
    have e93 : M1 93 = M 93 := by rw [hM1]
    have e94 : M1 94 = M 94 := by rw [hM1]
    try simp only [e78, e79, e80, e82, e92, e93, e94] at a2
    rcases a2 with ⟨rfl, hM2, yp0⟩ | ⟨y0, y1, y2, y3, rfl, hM2, yp0, yp1, yp2, yp3⟩
    · skip
      refine ⟨_, some_jv (rfl), rfl, ?_⟩
      exact (kAll hI (fun i hi => by rw [hM2]; skip; rw [hM1]) (by rw [hM2]; exact congrFun e78 2) (by rw [hM2]; exact congrFun e78 5))
    · skip
      exfalso; omega
  · skip
    have e78 : M1 78 = M 78 := by rw [hM1]; (repeat (rw [up1_ne (by first | omega | (unfold basQ; omega) | (unfold tpQ; omega))]))
    have e79 : M1 79 = M 79 := by rw [hM1]; (repeat (rw [up1_ne (by first | omega | (unfold basQ; omega) | (unfold tpQ; omega))]))
    have e80 : M1 80 = M 80 := by rw [hM1]; (repeat (rw [up1_ne (by first | omega | (unfold basQ; omega) | (unfold tpQ; omega))]))
    have e82 : M1 82 = M 82 := by rw [hM1]; (repeat (rw [up1_ne (by first | omega | (unfold basQ; omega) | (unfold tpQ; omega))]))
    have e92 : M1 92 = M 92 := by rw [hM1]; (repeat (rw [up1_ne (by first | omega | (unfold basQ; omega) | (unfold tpQ; omega))]))
    have e93 : M1 93 = M 93 := by rw [hM1]; (repeat (rw [up1_ne (by first | omega | (unfold basQ; omega) | (unfold tpQ; omega))]))
    have e94 : M1 94 = M 94 := by rw [hM1]; (repeat (rw [up1_ne (by first | omega | (unfold basQ; omega) | (unfold tpQ; omega))]))
    try simp only [e78, e79, e80, e82, e92, e93, e94] at a2
    rcases a2 with ⟨rfl, hM2, yp0⟩ | ⟨y0, y1, y2, y3, rfl, hM2, yp0, yp1, yp2, yp3⟩
    · skip
      refine ⟨_, some_jv (rfl), rfl, ?_⟩
      exact (kAll hI (fun i hi => by rw [hM2]; skip; rw [hM1]; (repeat (rw [up1_ne (by first | omega | (unfold basQ; omega) | (unfold tpQ; omega))]))) (by rw [hM2]; exact congrFun e78 2) (by rw [hM2]; exact congrFun e78 5))
    · skip
      exfalso; omega
  · skip
    have e78 : M1 78 = M 78 := by rw [hM1]; (repeat (rw [up1_ne (by first | omega | (unfold basQ; omega) | (unfold tpQ; omega))]))
    have e79 : M1 79 = M 79 := by rw [hM1]; (repeat (rw [up1_ne (by first | omega | (unfold basQ; omega) | (unfold tpQ; omega))]))
    have e80 : M1 80 = M 80 := by rw [hM1]; (repeat (rw [up1_ne (by first | omega | (unfold basQ; omega) | (unfold tpQ; omega))]))
    have e82 : M1 82 = M 82 := by rw [hM1]; (repeat (rw [up1_ne (by first | omega | (unfold basQ; omega) | (unfold tpQ; omega))]))
    have e92 : M1 92 = M 92 := by rw [hM1]; (repeat (rw [up1_ne (by first | omega | (unfold basQ; omega) | (unfold tpQ; omega))]))
    have e93 : M1 93 = M 93 := by rw [hM1]; (repeat (rw [up1_ne (by first | omega | (unfold basQ; omega) | (unfold tpQ; omega))]))
    have e94 : M1 94 = M 94 := by rw [hM1]; (repeat (rw [up1_ne (by first | omega | (unfold basQ; omega) | (unfold tpQ; omega))]))
    try simp only [e78, e79, e80, e82, e92, e93, e94] at a2
    rcases a2 with ⟨rfl, hM2, yp0⟩ | ⟨y0, y1, y2, y3, rfl, hM2, yp0, yp1, yp2, yp3⟩
    · skip
      exfalso; omega
    · skip
      have hod : oda (fun v => pkR M (up (M 79) h v)) lim 21 = oda (fun v => pkW (up (M 79) h v)) lim 21 := oda_cg 21 (fun v hv => pkR_W hI (fun j hj => up_ne (by omega)))
      refine ⟨_, some_jv (by rw [h3, hod]), rfl, ?_⟩
      exact (kAll hI (fun i hi => by rw [hM2]; (repeat (rw [up1_ne (by first | omega | (unfold basQ; omega) | (unfold tpQ; omega))])); rw [hM1]; (repeat (rw [up1_ne (by first | omega | (unfold basQ; omega) | (unfold tpQ; omega))]))) (by rw [hM2]; exact yp3 2 (by decide)) (by rw [hM2]; exact yp3 5 (by decide)))
theorem pr_mean {M M1 M2 : Mem} {r1 r2 : Option Value} {p : Int} (hI : InvF M) (a1 : ((fun rv M' => (∃ (F O : Int → Int), rv = some (jv (-9223372036854775808)) ∧ M' = (up1 (up1 (up1 M 53 (jnS M 2 (M 2 2).toNat)) 51 F) 52 O) ∧ ((cntp (jnS M 2 (M 2 2).toNat) 30) = 0 ∨ ¬ (0 ≤ p ∧ p ≤ 1))) ∨ (∃ (F O : Int → Int), rv = some (jv ((if p = 0 then (msr 0 (jnS M 2 (M 2 2).toNat) 30) else (cntp (jnS M 2 (M 2 2).toNat) 30)) / gcdI (cntp (jnS M 2 (M 2 2).toNat) 30) (msr 0 (jnS M 2 (M 2 2).toNat) 30))) ∧ M' = (up1 (up1 (up1 M 53 (jnS M 2 (M 2 2).toNat)) 51 F) 52 O) ∧ (0 < (cntp (jnS M 2 (M 2 2).toNat) 30)) ∧ (0 ≤ p ∧ p ≤ 1)))) r1 M1) (a2 : ((fun rv M' => (∃ (F O C : Int → Int), rv = some (jv (-9223372036854775808)) ∧ M' = (up1 (up1 (up1 (up1 M1 84 F) 85 O) 78 C) 86 (jnW (M1 79))) ∧ ((cntp (jnW (M1 79)) 30) = 0 ∨ ¬ (0 ≤ p ∧ p ≤ 1)) ∧ (∀ j : Int, j ≠ 13 → C j = M1 78 j)) ∨ (∃ (F O C : Int → Int), rv = some (jv ((if p = 0 then (msr 0 (jnW (M1 79)) 30) else (cntp (jnW (M1 79)) 30)) / gcdI (cntp (jnW (M1 79)) 30) (msr 0 (jnW (M1 79)) 30))) ∧ M' = (up1 (up1 (up1 (up1 M1 84 F) 85 O) 78 C) 86 (jnW (M1 79))) ∧ (0 < (cntp (jnW (M1 79)) 30)) ∧ (0 ≤ p ∧ p ≤ 1) ∧ (∀ j : Int, j ≠ 13 → C j = M1 78 j)))) r2 M2) : ∃ x : Int, r1 = some (jv x) ∧ r2 = some (jv x) ∧ InvP M2 := by
  have h20 : M 2 2 = M 79 20 := hI.1.1.1
  have h3 : M 3 = M 79 := hI.1.1.2.1
  have h11 : M 11 = tdW (M 79) := hI.1.1.2.2.1
  have hw := hI.1.2
  have hm9 := hw.2.2.1
  rcases a1 with ⟨x0, x1, rfl, hM1, xp0⟩ | ⟨x0, x1, rfl, hM1, xp0, xp1⟩
  · skip
    rw [jnS_W hI] at xp0
    have e78 : M1 78 = M 78 := by rw [hM1]; (repeat (rw [up1_ne (by first | omega | (unfold basQ; omega) | (unfold tpQ; omega))]))
    have e79 : M1 79 = M 79 := by rw [hM1]; (repeat (rw [up1_ne (by first | omega | (unfold basQ; omega) | (unfold tpQ; omega))]))
    have e80 : M1 80 = M 80 := by rw [hM1]; (repeat (rw [up1_ne (by first | omega | (unfold basQ; omega) | (unfold tpQ; omega))]))
    have e82 : M1 82 = M 82 := by rw [hM1]; (repeat (rw [up1_ne (by first | omega | (unfold basQ; omega) | (unfold tpQ; omega))]))
    have e92 : M1 92 = M 92 := by rw [hM1]; (repeat (rw [up1_ne (by first | omega | (unfold basQ; omega) | (unfold tpQ; omega))]))
    have e93 : M1 93 = M 93 := by rw [hM1]; (repeat (rw [up1_ne (by first | omega | (unfold basQ; omega) | (unfold tpQ; omega))]))
    have e94 : M1 94 = M 94 := by rw [hM1]; (repeat (rw [up1_ne (by first | omega | (unfold basQ; omega) | (unfold tpQ; omega))]))
    try simp only [e78, e79, e80, e82, e92, e93, e94] at a2
    rcases a2 with ⟨y0, y1, y2, rfl, hM2, yp0, yp1⟩ | ⟨y0, y1, y2, rfl, hM2, yp0, yp1, yp2⟩
    · skip
      refine ⟨_, some_jv (rfl), rfl, ?_⟩
      exact (kAll hI (fun i hi => by rw [hM2]; (repeat (rw [up1_ne (by first | omega | (unfold basQ; omega) | (unfold tpQ; omega))])); rw [hM1]; (repeat (rw [up1_ne (by first | omega | (unfold basQ; omega) | (unfold tpQ; omega))]))) (by rw [hM2]; exact yp1 2 (by decide)) (by rw [hM2]; exact yp1 5 (by decide)))
    · skip
      exfalso; omega
  · skip
    rw [jnS_W hI] at xp0
    have e78 : M1 78 = M 78 := by rw [hM1]; (repeat (rw [up1_ne (by first | omega | (unfold basQ; omega) | (unfold tpQ; omega))]))
    have e79 : M1 79 = M 79 := by rw [hM1]; (repeat (rw [up1_ne (by first | omega | (unfold basQ; omega) | (unfold tpQ; omega))]))
    have e80 : M1 80 = M 80 := by rw [hM1]; (repeat (rw [up1_ne (by first | omega | (unfold basQ; omega) | (unfold tpQ; omega))]))
    have e82 : M1 82 = M 82 := by rw [hM1]; (repeat (rw [up1_ne (by first | omega | (unfold basQ; omega) | (unfold tpQ; omega))]))
    have e92 : M1 92 = M 92 := by rw [hM1]; (repeat (rw [up1_ne (by first | omega | (unfold basQ; omega) | (unfold tpQ; omega))]))
    have e93 : M1 93 = M 93 := by rw [hM1]; (repeat (rw [up1_ne (by first | omega | (unfold basQ; omega) | (unfold tpQ; omega))]))
    have e94 : M1 94 = M 94 := by rw [hM1]; (repeat (rw [up1_ne (by first | omega | (unfold basQ; omega) | (unfold tpQ; omega))]))
    try simp only [e78, e79, e80, e82, e92, e93, e94] at a2
    rcases a2 with ⟨y0, y1, y2, rfl, hM2, yp0, yp1⟩ | ⟨y0, y1, y2, rfl, hM2, yp0, yp1, yp2⟩
    · skip
      exfalso; omega
    · skip
      refine ⟨_, some_jv (by rw [jnS_W hI]), rfl, ?_⟩
      exact (kAll hI (fun i hi => by rw [hM2]; (repeat (rw [up1_ne (by first | omega | (unfold basQ; omega) | (unfold tpQ; omega))])); rw [hM1]; (repeat (rw [up1_ne (by first | omega | (unfold basQ; omega) | (unfold tpQ; omega))]))) (by rw [hM2]; exact yp2 2 (by decide)) (by rw [hM2]; exact yp2 5 (by decide)))
theorem pr_after {M M1 M2 : Mem} {r1 r2 : Option Value} {w : Int} (hI : InvF M) (a1 : ((fun rv M' => (rv = some (iv (-1)) ∧ M' = M ∧ (¬ (0 ≤ w ∧ w ≤ 2))) ∨ (∃ (A0 A1 A2 A3 A4 A5 A6 A7 A8 A9 A10 : Int → Int), rv = some (iv (msr 1 (jnK M (hpR (M 16) (M 17) (M 3) (M 15 3).toNat) (hpK (M 16) (M 17) 0 (M 5 2) (M 15 3).toNat) (hpK (M 16) (M 17) 1 (M 7 2) (M 15 3).toNat) (hpK (M 16) (M 17) 2 (M 9 2) (M 15 3).toNat)) 30)) ∧ M' = (up1 (up1 (up1 (up1 (up1 (up1 (up1 (up1 (up1 (up1 (up1 M 42 A0) 45 A1) 44 A2) 47 A3) 46 A4) 49 A5) 48 A6) 41 A7) 53 A8) 51 A9) 52 A10) ∧ (w = 0)) ∨ (∃ (A0 A1 A2 A3 A4 A5 A6 A7 A8 A9 A10 : Int → Int), rv = some (iv (msr 2 (jnK M (hpR (M 16) (M 17) (M 3) (M 15 3).toNat) (hpK (M 16) (M 17) 0 (M 5 2) (M 15 3).toNat) (hpK (M 16) (M 17) 1 (M 7 2) (M 15 3).toNat) (hpK (M 16) (M 17) 2 (M 9 2) (M 15 3).toNat)) 30)) ∧ M' = (up1 (up1 (up1 (up1 (up1 (up1 (up1 (up1 (up1 (up1 (up1 M 42 A0) 45 A1) 44 A2) 47 A3) 46 A4) 49 A5) 48 A6) 41 A7) 53 A8) 51 A9) 52 A10) ∧ (w = 1)) ∨ (∃ (A0 A1 A2 A3 A4 A5 A6 A7 A8 A9 A10 : Int → Int), rv = some (iv (msr 0 (jnK M (hpR (M 16) (M 17) (M 3) (M 15 3).toNat) (hpK (M 16) (M 17) 0 (M 5 2) (M 15 3).toNat) (hpK (M 16) (M 17) 1 (M 7 2) (M 15 3).toNat) (hpK (M 16) (M 17) 2 (M 9 2) (M 15 3).toNat)) 30)) ∧ M' = (up1 (up1 (up1 (up1 (up1 (up1 (up1 (up1 (up1 (up1 (up1 M 42 A0) 45 A1) 44 A2) 47 A3) 46 A4) 49 A5) 48 A6) 41 A7) 53 A8) 51 A9) 52 A10) ∧ (w = 2)))) r1 M1) (a2 : ((fun rv M' => (rv = some (iv (-1)) ∧ M' = M1 ∧ (¬ (0 ≤ w ∧ w ≤ 2))) ∨ (∃ (F O C J : Int → Int), rv = some (iv (msr 1 (jnW (hpW (M1 79) (M1 79 56).toNat)) 30)) ∧ M' = (up1 (up1 (up1 (up1 (up1 M1 84 F) 85 O) 78 C) 86 J) 91 (M1 79)) ∧ (w = 0) ∧ (∀ j : Int, j ≠ 13 → C j = M1 78 j)) ∨ (∃ (F O C J : Int → Int), rv = some (iv (msr 2 (jnW (hpW (M1 79) (M1 79 56).toNat)) 30)) ∧ M' = (up1 (up1 (up1 (up1 (up1 M1 84 F) 85 O) 78 C) 86 J) 91 (M1 79)) ∧ (w = 1) ∧ (∀ j : Int, j ≠ 13 → C j = M1 78 j)) ∨ (∃ (F O C J : Int → Int), rv = some (iv (msr 0 (jnW (hpW (M1 79) (M1 79 56).toNat)) 30)) ∧ M' = (up1 (up1 (up1 (up1 (up1 M1 84 F) 85 O) 78 C) 86 J) 91 (M1 79)) ∧ (w = 2) ∧ (∀ j : Int, j ≠ 13 → C j = M1 78 j)))) r2 M2) : ∃ x : Int, r1 = some (iv x) ∧ r2 = some (iv x) ∧ InvP M2 := by
  have h20 : M 2 2 = M 79 20 := hI.1.1.1
  have h3 : M 3 = M 79 := hI.1.1.2.1
  have h11 : M 11 = tdW (M 79) := hI.1.1.2.2.1
  have hw := hI.1.2
  have hm9 := hw.2.2.1
  rcases a1 with ⟨rfl, hM1, xp0⟩ | ⟨x0, x1, x2, x3, x4, x5, x6, x7, x8, x9, x10, rfl, hM1, xp0⟩ | ⟨x0, x1, x2, x3, x4, x5, x6, x7, x8, x9, x10, rfl, hM1, xp0⟩ | ⟨x0, x1, x2, x3, x4, x5, x6, x7, x8, x9, x10, rfl, hM1, xp0⟩
  · skip
    have e78 : M1 78 = M 78 := by rw [hM1]
    have e79 : M1 79 = M 79 := by rw [hM1]
    have e80 : M1 80 = M 80 := by rw [hM1]
    have e82 : M1 82 = M 82 := by rw [hM1]
    have e92 : M1 92 = M 92 := by rw [hM1]
    have e93 : M1 93 = M 93 := by rw [hM1]
    have e94 : M1 94 = M 94 := by rw [hM1]
    try simp only [e78, e79, e80, e82, e92, e93, e94] at a2
    rcases a2 with ⟨rfl, hM2, yp0⟩ | ⟨y0, y1, y2, y3, rfl, hM2, yp0, yp1⟩ | ⟨y0, y1, y2, y3, rfl, hM2, yp0, yp1⟩ | ⟨y0, y1, y2, y3, rfl, hM2, yp0, yp1⟩
    · skip
      refine ⟨_, some_iv (rfl), rfl, ?_⟩
      exact (kAll hI (fun i hi => by rw [hM2]; skip; rw [hM1]) (by rw [hM2]; exact congrFun e78 2) (by rw [hM2]; exact congrFun e78 5))
    · skip
      exfalso; omega
    · skip
      exfalso; omega
    · skip
      exfalso; omega
  · skip
    have e78 : M1 78 = M 78 := by rw [hM1]; (repeat (rw [up1_ne (by first | omega | (unfold basQ; omega) | (unfold tpQ; omega))]))
    have e79 : M1 79 = M 79 := by rw [hM1]; (repeat (rw [up1_ne (by first | omega | (unfold basQ; omega) | (unfold tpQ; omega))]))
    have e80 : M1 80 = M 80 := by rw [hM1]; (repeat (rw [up1_ne (by first | omega | (unfold basQ; omega) | (unfold tpQ; omega))]))
    have e82 : M1 82 = M 82 := by rw [hM1]; (repeat (rw [up1_ne (by first | omega | (unfold basQ; omega) | (unfold tpQ; omega))]))
    have e92 : M1 92 = M 92 := by rw [hM1]; (repeat (rw [up1_ne (by first | omega | (unfold basQ; omega) | (unfold tpQ; omega))]))
    have e93 : M1 93 = M 93 := by rw [hM1]; (repeat (rw [up1_ne (by first | omega | (unfold basQ; omega) | (unfold tpQ; omega))]))
    have e94 : M1 94 = M 94 := by rw [hM1]; (repeat (rw [up1_ne (by first | omega | (unfold basQ; omega) | (unfold tpQ; omega))]))
    try simp only [e78, e79, e80, e82, e92, e93, e94] at a2
    rcases a2 with ⟨rfl, hM2, yp0⟩ | ⟨y0, y1, y2, y3, rfl, hM2, yp0, yp1⟩ | ⟨y0, y1, y2, y3, rfl, hM2, yp0, yp1⟩ | ⟨y0, y1, y2, y3, rfl, hM2, yp0, yp1⟩
    · skip
      exfalso; omega
    · skip
      refine ⟨_, some_iv (by rw [after_W hI]), rfl, ?_⟩
      exact (kAll hI (fun i hi => by rw [hM2]; (repeat (rw [up1_ne (by first | omega | (unfold basQ; omega) | (unfold tpQ; omega))])); rw [hM1]; (repeat (rw [up1_ne (by first | omega | (unfold basQ; omega) | (unfold tpQ; omega))]))) (by rw [hM2]; exact yp1 2 (by decide)) (by rw [hM2]; exact yp1 5 (by decide)))
    · skip
      exfalso; omega
    · skip
      exfalso; omega
  · skip
    have e78 : M1 78 = M 78 := by rw [hM1]; (repeat (rw [up1_ne (by first | omega | (unfold basQ; omega) | (unfold tpQ; omega))]))
    have e79 : M1 79 = M 79 := by rw [hM1]; (repeat (rw [up1_ne (by first | omega | (unfold basQ; omega) | (unfold tpQ; omega))]))
    have e80 : M1 80 = M 80 := by rw [hM1]; (repeat (rw [up1_ne (by first | omega | (unfold basQ; omega) | (unfold tpQ; omega))]))
    have e82 : M1 82 = M 82 := by rw [hM1]; (repeat (rw [up1_ne (by first | omega | (unfold basQ; omega) | (unfold tpQ; omega))]))
    have e92 : M1 92 = M 92 := by rw [hM1]; (repeat (rw [up1_ne (by first | omega | (unfold basQ; omega) | (unfold tpQ; omega))]))
    have e93 : M1 93 = M 93 := by rw [hM1]; (repeat (rw [up1_ne (by first | omega | (unfold basQ; omega) | (unfold tpQ; omega))]))
    have e94 : M1 94 = M 94 := by rw [hM1]; (repeat (rw [up1_ne (by first | omega | (unfold basQ; omega) | (unfold tpQ; omega))]))
    try simp only [e78, e79, e80, e82, e92, e93, e94] at a2
    rcases a2 with ⟨rfl, hM2, yp0⟩ | ⟨y0, y1, y2, y3, rfl, hM2, yp0, yp1⟩ | ⟨y0, y1, y2, y3, rfl, hM2, yp0, yp1⟩ | ⟨y0, y1, y2, y3, rfl, hM2, yp0, yp1⟩
    · skip
      exfalso; omega
    · skip
      exfalso; omega
    · skip
      refine ⟨_, some_iv (by rw [after_W hI]), rfl, ?_⟩
      exact (kAll hI (fun i hi => by rw [hM2]; (repeat (rw [up1_ne (by first | omega | (unfold basQ; omega) | (unfold tpQ; omega))])); rw [hM1]; (repeat (rw [up1_ne (by first | omega | (unfold basQ; omega) | (unfold tpQ; omega))]))) (by rw [hM2]; exact yp1 2 (by decide)) (by rw [hM2]; exact yp1 5 (by decide)))
    · skip
      exfalso; omega
  · skip
    have e78 : M1 78 = M 78 := by rw [hM1]; (repeat (rw [up1_ne (by first | omega | (unfold basQ; omega) | (unfold tpQ; omega))]))
    have e79 : M1 79 = M 79 := by rw [hM1]; (repeat (rw [up1_ne (by first | omega | (unfold basQ; omega) | (unfold tpQ; omega))]))
    have e80 : M1 80 = M 80 := by rw [hM1]; (repeat (rw [up1_ne (by first | omega | (unfold basQ; omega) | (unfold tpQ; omega))]))
    have e82 : M1 82 = M 82 := by rw [hM1]; (repeat (rw [up1_ne (by first | omega | (unfold basQ; omega) | (unfold tpQ; omega))]))
    have e92 : M1 92 = M 92 := by rw [hM1]; (repeat (rw [up1_ne (by first | omega | (unfold basQ; omega) | (unfold tpQ; omega))]))
    have e93 : M1 93 = M 93 := by rw [hM1]; (repeat (rw [up1_ne (by first | omega | (unfold basQ; omega) | (unfold tpQ; omega))]))
    have e94 : M1 94 = M 94 := by rw [hM1]; (repeat (rw [up1_ne (by first | omega | (unfold basQ; omega) | (unfold tpQ; omega))]))
    try simp only [e78, e79, e80, e82, e92, e93, e94] at a2
    rcases a2 with ⟨rfl, hM2, yp0⟩ | ⟨y0, y1, y2, y3, rfl, hM2, yp0, yp1⟩ | ⟨y0, y1, y2, y3, rfl, hM2, yp0, yp1⟩ | ⟨y0, y1, y2, y3, rfl, hM2, yp0, yp1⟩
    · skip
      exfalso; omega
    · skip
      exfalso; omega
    · skip
      exfalso; omega
    · skip
      refine ⟨_, some_iv (by rw [after_W hI]), rfl, ?_⟩
      exact (kAll hI (fun i hi => by rw [hM2]; (repeat (rw [up1_ne (by first | omega | (unfold basQ; omega) | (unfold tpQ; omega))])); rw [hM1]; (repeat (rw [up1_ne (by first | omega | (unfold basQ; omega) | (unfold tpQ; omega))]))) (by rw [hM2]; exact yp1 2 (by decide)) (by rw [hM2]; exact yp1 5 (by decide)))
theorem pr_looked {M M1 M2 : Mem} {r1 r2 : Option Value}  (hI : InvF M) (a1 : ((fun rv M' => ∃ (F O : Int → Int), rv = some (iv (fot (M 19) (M 20) (jnS M 2 (M 2 2).toNat) (M 18 3).toNat 0)) ∧ M' = (up1 (up1 (up1 M 53 (jnS M 2 (M 2 2).toNat)) 51 F) 52 O))) r1 M1) (a2 : ((fun rv M' => ∃ (F O C : Int → Int), rv = some (iv (fot (rwH (M1 79) 74) (rwN (M1 79) 74) (jnW (M1 79)) (M1 79 73).toNat 0)) ∧ M' = (up1 (up1 (up1 (up1 M1 84 F) 85 O) 78 C) 86 (jnW (M1 79))) ∧ (∀ j : Int, j ≠ 13 → C j = M1 78 j))) r2 M2) : ∃ x : Int, r1 = some (iv x) ∧ r2 = some (iv x) ∧ InvP M2 := by
  have h20 : M 2 2 = M 79 20 := hI.1.1.1
  have h3 : M 3 = M 79 := hI.1.1.2.1
  have h11 : M 11 = tdW (M 79) := hI.1.1.2.2.1
  have hw := hI.1.2
  have hm9 := hw.2.2.1
  have h18 : M 18 3 = M 79 73 := hI.2.1.1.2.2.1
  have h19 : M 19 = rwH (M 79) 74 := hI.2.1.1.2.2.2.1
  have h20b : M 20 = rwN (M 79) 74 := hI.2.1.1.2.2.2.2
  obtain ⟨x0, x1, rfl, hM1⟩ := a1
  have e78 : M1 78 = M 78 := by rw [hM1]; (repeat (rw [up1_ne (by first | omega | (unfold basQ; omega) | (unfold tpQ; omega))]))
  have e79 : M1 79 = M 79 := by rw [hM1]; (repeat (rw [up1_ne (by first | omega | (unfold basQ; omega) | (unfold tpQ; omega))]))
  have e80 : M1 80 = M 80 := by rw [hM1]; (repeat (rw [up1_ne (by first | omega | (unfold basQ; omega) | (unfold tpQ; omega))]))
  have e82 : M1 82 = M 82 := by rw [hM1]; (repeat (rw [up1_ne (by first | omega | (unfold basQ; omega) | (unfold tpQ; omega))]))
  have e92 : M1 92 = M 92 := by rw [hM1]; (repeat (rw [up1_ne (by first | omega | (unfold basQ; omega) | (unfold tpQ; omega))]))
  have e93 : M1 93 = M 93 := by rw [hM1]; (repeat (rw [up1_ne (by first | omega | (unfold basQ; omega) | (unfold tpQ; omega))]))
  have e94 : M1 94 = M 94 := by rw [hM1]; (repeat (rw [up1_ne (by first | omega | (unfold basQ; omega) | (unfold tpQ; omega))]))
  try simp only [e78, e79, e80, e82, e92, e93, e94] at a2
  obtain ⟨y0, y1, y2, rfl, hM2, yp0⟩ := a2
  refine ⟨_, some_iv (by rw [jnS_W hI, h18, h19, h20b]), rfl, ?_⟩
  exact (kAll hI (fun i hi => by rw [hM2]; (repeat (rw [up1_ne (by first | omega | (unfold basQ; omega) | (unfold tpQ; omega))])); rw [hM1]; (repeat (rw [up1_ne (by first | omega | (unfold basQ; omega) | (unfold tpQ; omega))]))) (by rw [hM2]; exact yp0 2 (by decide)) (by rw [hM2]; exact yp0 5 (by decide)))
theorem pr_count {M M1 M2 : Mem} {r1 r2 : Option Value} {w : Int} (hI : InvF M) (a1 : ((fun rv M' => (rv = some (iv (M 12 3)) ∧ M' = M ∧ (w = 0)) ∨ (rv = some (iv (M 15 3)) ∧ M' = M ∧ (w = 1)) ∨ (rv = some (iv (M 18 3)) ∧ M' = M ∧ (w = 2)) ∨ (rv = some (iv (M 62 1)) ∧ M' = M ∧ (w = 3)) ∨ (rv = some (iv (-2)) ∧ M' = M ∧ (¬ (0 ≤ w ∧ w ≤ 3))))) r1 M1) (a2 : ((fun rv M' => (rv = some (iv (M1 79 45)) ∧ M' = M1 ∧ (w = 0)) ∨ (rv = some (iv (M1 79 56)) ∧ M' = M1 ∧ (w = 1)) ∨ (rv = some (iv (M1 79 73)) ∧ M' = M1 ∧ (w = 2)) ∨ (rv = some (iv (M1 78 5)) ∧ M' = M1 ∧ (w = 3)) ∨ (rv = some (iv (-2)) ∧ M' = M1 ∧ (¬ (0 ≤ w ∧ w ≤ 3))))) r2 M2) : ∃ x : Int, r1 = some (iv x) ∧ r2 = some (iv x) ∧ InvP M2 := by
  have h20 : M 2 2 = M 79 20 := hI.1.1.1
  have h3 : M 3 = M 79 := hI.1.1.2.1
  have h11 : M 11 = tdW (M 79) := hI.1.1.2.2.1
  have hw := hI.1.2
  have hm9 := hw.2.2.1
  rcases a1 with ⟨rfl, hM1, xp0⟩ | ⟨rfl, hM1, xp0⟩ | ⟨rfl, hM1, xp0⟩ | ⟨rfl, hM1, xp0⟩ | ⟨rfl, hM1, xp0⟩
  · skip
    have e78 : M1 78 = M 78 := by rw [hM1]
    have e79 : M1 79 = M 79 := by rw [hM1]
    have e80 : M1 80 = M 80 := by rw [hM1]
    have e82 : M1 82 = M 82 := by rw [hM1]
    have e92 : M1 92 = M 92 := by rw [hM1]
    have e93 : M1 93 = M 93 := by rw [hM1]
    have e94 : M1 94 = M 94 := by rw [hM1]
    try simp only [e78, e79, e80, e82, e92, e93, e94] at a2
    rcases a2 with ⟨rfl, hM2, yp0⟩ | ⟨rfl, hM2, yp0⟩ | ⟨rfl, hM2, yp0⟩ | ⟨rfl, hM2, yp0⟩ | ⟨rfl, hM2, yp0⟩
    · skip
      refine ⟨_, some_iv (hI.2.1.1.1.1), rfl, ?_⟩
      exact (kAll hI (fun i hi => by rw [hM2]; skip; rw [hM1]) (by rw [hM2]; exact congrFun e78 2) (by rw [hM2]; exact congrFun e78 5))
    · skip
      exfalso; omega
    · skip
      exfalso; omega
    · skip
      exfalso; omega
    · skip
      exfalso; omega
  · skip
    have e78 : M1 78 = M 78 := by rw [hM1]
    have e79 : M1 79 = M 79 := by rw [hM1]
    have e80 : M1 80 = M 80 := by rw [hM1]
    have e82 : M1 82 = M 82 := by rw [hM1]
    have e92 : M1 92 = M 92 := by rw [hM1]
    have e93 : M1 93 = M 93 := by rw [hM1]
    have e94 : M1 94 = M 94 := by rw [hM1]
    try simp only [e78, e79, e80, e82, e92, e93, e94] at a2
    rcases a2 with ⟨rfl, hM2, yp0⟩ | ⟨rfl, hM2, yp0⟩ | ⟨rfl, hM2, yp0⟩ | ⟨rfl, hM2, yp0⟩ | ⟨rfl, hM2, yp0⟩
    · skip
      exfalso; omega
    · skip
      refine ⟨_, some_iv (hI.2.1.1.2.1.1), rfl, ?_⟩
      exact (kAll hI (fun i hi => by rw [hM2]; skip; rw [hM1]) (by rw [hM2]; exact congrFun e78 2) (by rw [hM2]; exact congrFun e78 5))
    · skip
      exfalso; omega
    · skip
      exfalso; omega
    · skip
      exfalso; omega
  · skip
    have e78 : M1 78 = M 78 := by rw [hM1]
    have e79 : M1 79 = M 79 := by rw [hM1]
    have e80 : M1 80 = M 80 := by rw [hM1]
    have e82 : M1 82 = M 82 := by rw [hM1]
    have e92 : M1 92 = M 92 := by rw [hM1]
    have e93 : M1 93 = M 93 := by rw [hM1]
    have e94 : M1 94 = M 94 := by rw [hM1]
    try simp only [e78, e79, e80, e82, e92, e93, e94] at a2
    rcases a2 with ⟨rfl, hM2, yp0⟩ | ⟨rfl, hM2, yp0⟩ | ⟨rfl, hM2, yp0⟩ | ⟨rfl, hM2, yp0⟩ | ⟨rfl, hM2, yp0⟩
    · skip
      exfalso; omega
    · skip
      exfalso; omega
    · skip
      refine ⟨_, some_iv (hI.2.1.1.2.2.1), rfl, ?_⟩
      exact (kAll hI (fun i hi => by rw [hM2]; skip; rw [hM1]) (by rw [hM2]; exact congrFun e78 2) (by rw [hM2]; exact congrFun e78 5))
    · skip
      exfalso; omega
    · skip
      exfalso; omega
  · skip
    have e78 : M1 78 = M 78 := by rw [hM1]
    have e79 : M1 79 = M 79 := by rw [hM1]
    have e80 : M1 80 = M 80 := by rw [hM1]
    have e82 : M1 82 = M 82 := by rw [hM1]
    have e92 : M1 92 = M 92 := by rw [hM1]
    have e93 : M1 93 = M 93 := by rw [hM1]
    have e94 : M1 94 = M 94 := by rw [hM1]
    try simp only [e78, e79, e80, e82, e92, e93, e94] at a2
    rcases a2 with ⟨rfl, hM2, yp0⟩ | ⟨rfl, hM2, yp0⟩ | ⟨rfl, hM2, yp0⟩ | ⟨rfl, hM2, yp0⟩ | ⟨rfl, hM2, yp0⟩
    · skip
      exfalso; omega
    · skip
      exfalso; omega
    · skip
      exfalso; omega
    · skip
      refine ⟨_, some_iv (hI.2.2.2.2.2.1.1.1), rfl, ?_⟩
      exact (kAll hI (fun i hi => by rw [hM2]; skip; rw [hM1]) (by rw [hM2]; exact congrFun e78 2) (by rw [hM2]; exact congrFun e78 5))
    · skip
      exfalso; omega
  · skip
    have e78 : M1 78 = M 78 := by rw [hM1]
    have e79 : M1 79 = M 79 := by rw [hM1]
    have e80 : M1 80 = M 80 := by rw [hM1]
    have e82 : M1 82 = M 82 := by rw [hM1]
    have e92 : M1 92 = M 92 := by rw [hM1]
    have e93 : M1 93 = M 93 := by rw [hM1]
    have e94 : M1 94 = M 94 := by rw [hM1]
    try simp only [e78, e79, e80, e82, e92, e93, e94] at a2
    rcases a2 with ⟨rfl, hM2, yp0⟩ | ⟨rfl, hM2, yp0⟩ | ⟨rfl, hM2, yp0⟩ | ⟨rfl, hM2, yp0⟩ | ⟨rfl, hM2, yp0⟩
    · skip
      exfalso; omega
    · skip
      exfalso; omega
    · skip
      exfalso; omega
    · skip
      exfalso; omega
    · skip
      refine ⟨_, some_iv (rfl), rfl, ?_⟩
      exact (kAll hI (fun i hi => by rw [hM2]; skip; rw [hM1]) (by rw [hM2]; exact congrFun e78 2) (by rw [hM2]; exact congrFun e78 5))
theorem pr_judge {M M1 M2 : Mem} {r1 r2 : Option Value} {b : Int} {t : Int} {i : Int} (hI : InvF M) (a1 : ((fun rv M' => (rv = some (iv (-1)) ∧ M' = M ∧ (¬ (0 ≤ b ∧ b < M 2 2) ∨ ¬ (0 ≤ t ∧ t ≤ 5))) ∨ (rv = some (iv 100) ∧ M' = M ∧ (0 ≤ b ∧ b < M 2 2) ∧ (0 ≤ t ∧ t ≤ 5) ∧ (M (tpQ t) 1 = -1)) ∨ (rv = some (iv (-12)) ∧ M' = M ∧ (0 ≤ b ∧ b < M 2 2) ∧ (0 ≤ t ∧ t ≤ 5) ∧ (M (tpQ t) 1 ≠ -1 ∧ M (tpQ t) 1 ≠ 1)) ∨ (∃ (F : Int → Int), rv = some (iv (jdF (M (tpQ t + 1)) (otp (M (basQ b) 2) (M (basQ b) 3) (fl (M 3) (M (basQ b + 1)) 8)) i (M (tpQ t) 2) 30 0)) ∧ M' = (up1 (up1 M 51 F) 52 (otp (M (basQ b) 2) (M (basQ b) 3) (fl (M 3) (M (basQ b + 1)) 8))) ∧ (0 ≤ b ∧ b < M 2 2) ∧ (0 ≤ t ∧ t ≤ 5) ∧ (M (tpQ t) 1 = 1)))) r1 M1) (a2 : ((fun rv M' => (rv = some (iv (-1)) ∧ M' = M1 ∧ (¬ (0 ≤ b ∧ b < M1 79 20) ∨ ¬ (0 ≤ t ∧ t ≤ 5))) ∨ (rv = some (iv (-12)) ∧ M' = M1 ∧ (0 ≤ b ∧ b < M1 79 20) ∧ (0 ≤ t ∧ t ≤ 5) ∧ (0 ≤ M1 92 t ∧ M1 92 t ≠ 1)) ∨ (rv = some (iv (jdF (tpI (M1 94) t) (otp (bsK (M1 79) b) (bsN (M1 79) b) (fl (M1 79) (bsA (M1 79) b) 8)) i (M1 93 t) 30 0)) ∧ M' = (up1 (up1 (up1 M1 84 (fl (M1 79) (bsA (M1 79) b) 8)) 78 (up (M1 78) 13 (sto (bsK (M1 79) b) (bsN (M1 79) b) (fl (M1 79) (bsA (M1 79) b) 8) 30))) 85 (otp (bsK (M1 79) b) (bsN (M1 79) b) (fl (M1 79) (bsA (M1 79) b) 8))) ∧ (0 ≤ b ∧ b < M1 79 20) ∧ (0 ≤ t ∧ t ≤ 5) ∧ (M1 92 t < 0 ∨ M1 92 t = 1)))) r2 M2) : ∃ x : Int, r1 = some (iv x) ∧ r2 = some (iv x) ∧ InvP M2 := by
  have h20 : M 2 2 = M 79 20 := hI.1.1.1
  have h3 : M 3 = M 79 := hI.1.1.2.1
  have h11 : M 11 = tdW (M 79) := hI.1.1.2.2.1
  have hw := hI.1.2
  have hm9 := hw.2.2.1
  rcases a1 with ⟨rfl, hM1, xp0⟩ | ⟨rfl, hM1, xp0, xp1, xp2⟩ | ⟨rfl, hM1, xp0, xp1, xp2⟩ | ⟨x0, rfl, hM1, xp0, xp1, xp2⟩
  · skip
    have e78 : M1 78 = M 78 := by rw [hM1]
    have e79 : M1 79 = M 79 := by rw [hM1]
    have e80 : M1 80 = M 80 := by rw [hM1]
    have e82 : M1 82 = M 82 := by rw [hM1]
    have e92 : M1 92 = M 92 := by rw [hM1]
    have e93 : M1 93 = M 93 := by rw [hM1]
    have e94 : M1 94 = M 94 := by rw [hM1]
    try simp only [e78, e79, e80, e82, e92, e93, e94] at a2
    rcases a2 with ⟨rfl, hM2, yp0⟩ | ⟨rfl, hM2, yp0, yp1, yp2⟩ | ⟨rfl, hM2, yp0, yp1, yp2⟩
    · skip
      refine ⟨_, some_iv (rfl), rfl, ?_⟩
      exact (kAll hI (fun i hi => by rw [hM2]; skip; rw [hM1]) (by rw [hM2]; exact congrFun e78 2) (by rw [hM2]; exact congrFun e78 5))
    · skip
      exfalso; omega
    · skip
      exfalso; omega
  · skip
    have hT9 := tpF hI (t := t) (by omega) (by omega)
    have ht1 : M (tpQ t) 1 = M 92 t := hT9.1
    have ht2 : M (tpQ t) 2 = M 93 t := hT9.2.1
    have ht3 : M (tpQ t + 1) = tpI (M 94) t := hT9.2.2
    have htw := hI.2.2.2.2.2.2.2.1 t (by omega) (by omega)
    have htz := hI.2.2.2.2.2.2.2.2 t (by omega) (by omega)
    have htw1 := htw.1
    have htw2 := htw.2.1
    have hB := basF hI (b := b) (by omega) (by omega)
    have hb2 : M (basQ b) 2 = bsK (M 79) b := hB.2.1
    have hb3 : M (basQ b) 3 = bsN (M 79) b := hB.2.2.1
    have hb4 : M (basQ b + 1) = bsA (M 79) b := hB.2.2.2
    have e78 : M1 78 = M 78 := by rw [hM1]
    have e79 : M1 79 = M 79 := by rw [hM1]
    have e80 : M1 80 = M 80 := by rw [hM1]
    have e82 : M1 82 = M 82 := by rw [hM1]
    have e92 : M1 92 = M 92 := by rw [hM1]
    have e93 : M1 93 = M 93 := by rw [hM1]
    have e94 : M1 94 = M 94 := by rw [hM1]
    try simp only [e78, e79, e80, e82, e92, e93, e94] at a2
    rcases a2 with ⟨rfl, hM2, yp0⟩ | ⟨rfl, hM2, yp0, yp1, yp2⟩ | ⟨rfl, hM2, yp0, yp1, yp2⟩
    · skip
      exfalso; omega
    · skip
      exfalso; omega
    · skip
      refine ⟨_, some_iv ((jdF_100 (by have q9 := htz (by omega); omega)).symm), rfl, ?_⟩
      exact (kAll hI (fun i hi => by rw [hM2]; (repeat (rw [up1_ne (by first | omega | (unfold basQ; omega) | (unfold tpQ; omega))])); rw [hM1]) (by rw [hM2]; rfl) (by rw [hM2]; rfl))
  · skip
    have hT9 := tpF hI (t := t) (by omega) (by omega)
    have ht1 : M (tpQ t) 1 = M 92 t := hT9.1
    have ht2 : M (tpQ t) 2 = M 93 t := hT9.2.1
    have ht3 : M (tpQ t + 1) = tpI (M 94) t := hT9.2.2
    have htw := hI.2.2.2.2.2.2.2.1 t (by omega) (by omega)
    have htz := hI.2.2.2.2.2.2.2.2 t (by omega) (by omega)
    have htw1 := htw.1
    have htw2 := htw.2.1
    have hB := basF hI (b := b) (by omega) (by omega)
    have hb2 : M (basQ b) 2 = bsK (M 79) b := hB.2.1
    have hb3 : M (basQ b) 3 = bsN (M 79) b := hB.2.2.1
    have hb4 : M (basQ b + 1) = bsA (M 79) b := hB.2.2.2
    have e78 : M1 78 = M 78 := by rw [hM1]
    have e79 : M1 79 = M 79 := by rw [hM1]
    have e80 : M1 80 = M 80 := by rw [hM1]
    have e82 : M1 82 = M 82 := by rw [hM1]
    have e92 : M1 92 = M 92 := by rw [hM1]
    have e93 : M1 93 = M 93 := by rw [hM1]
    have e94 : M1 94 = M 94 := by rw [hM1]
    try simp only [e78, e79, e80, e82, e92, e93, e94] at a2
    rcases a2 with ⟨rfl, hM2, yp0⟩ | ⟨rfl, hM2, yp0, yp1, yp2⟩ | ⟨rfl, hM2, yp0, yp1, yp2⟩
    · skip
      exfalso; omega
    · skip
      refine ⟨_, some_iv (rfl), rfl, ?_⟩
      exact (kAll hI (fun i hi => by rw [hM2]; skip; rw [hM1]) (by rw [hM2]; exact congrFun e78 2) (by rw [hM2]; exact congrFun e78 5))
    · skip
      exfalso; omega
  · skip
    have hT9 := tpF hI (t := t) (by omega) (by omega)
    have ht1 : M (tpQ t) 1 = M 92 t := hT9.1
    have ht2 : M (tpQ t) 2 = M 93 t := hT9.2.1
    have ht3 : M (tpQ t + 1) = tpI (M 94) t := hT9.2.2
    have htw := hI.2.2.2.2.2.2.2.1 t (by omega) (by omega)
    have htz := hI.2.2.2.2.2.2.2.2 t (by omega) (by omega)
    have htw1 := htw.1
    have htw2 := htw.2.1
    have hB := basF hI (b := b) (by omega) (by omega)
    have hb2 : M (basQ b) 2 = bsK (M 79) b := hB.2.1
    have hb3 : M (basQ b) 3 = bsN (M 79) b := hB.2.2.1
    have hb4 : M (basQ b + 1) = bsA (M 79) b := hB.2.2.2
    have e78 : M1 78 = M 78 := by rw [hM1]; (repeat (rw [up1_ne (by first | omega | (unfold basQ; omega) | (unfold tpQ; omega))]))
    have e79 : M1 79 = M 79 := by rw [hM1]; (repeat (rw [up1_ne (by first | omega | (unfold basQ; omega) | (unfold tpQ; omega))]))
    have e80 : M1 80 = M 80 := by rw [hM1]; (repeat (rw [up1_ne (by first | omega | (unfold basQ; omega) | (unfold tpQ; omega))]))
    have e82 : M1 82 = M 82 := by rw [hM1]; (repeat (rw [up1_ne (by first | omega | (unfold basQ; omega) | (unfold tpQ; omega))]))
    have e92 : M1 92 = M 92 := by rw [hM1]; (repeat (rw [up1_ne (by first | omega | (unfold basQ; omega) | (unfold tpQ; omega))]))
    have e93 : M1 93 = M 93 := by rw [hM1]; (repeat (rw [up1_ne (by first | omega | (unfold basQ; omega) | (unfold tpQ; omega))]))
    have e94 : M1 94 = M 94 := by rw [hM1]; (repeat (rw [up1_ne (by first | omega | (unfold basQ; omega) | (unfold tpQ; omega))]))
    try simp only [e78, e79, e80, e82, e92, e93, e94] at a2
    rcases a2 with ⟨rfl, hM2, yp0⟩ | ⟨rfl, hM2, yp0, yp1, yp2⟩ | ⟨rfl, hM2, yp0, yp1, yp2⟩
    · skip
      exfalso; omega
    · skip
      exfalso; omega
    · skip
      refine ⟨_, some_iv (by rw [ht3, ht2, h3, hb2, hb3, hb4]), rfl, ?_⟩
      exact (kAll hI (fun i hi => by rw [hM2]; (repeat (rw [up1_ne (by first | omega | (unfold basQ; omega) | (unfold tpQ; omega))])); rw [hM1]; (repeat (rw [up1_ne (by first | omega | (unfold basQ; omega) | (unfold tpQ; omega))]))) (by rw [hM2]; rfl) (by rw [hM2]; rfl))
theorem pr_peek {M M1 M2 : Mem} {r1 r2 : Option Value} {t : Int} {i : Int} (hI : InvF M) (a1 : ((fun rv M' => (rv = some (jv (-9223372036854775808)) ∧ M' = M ∧ (¬ (0 ≤ t ∧ t ≤ 5) ∨ ((0 ≤ t ∧ t ≤ 5) ∧ ¬ (0 ≤ i ∧ i < M (tpQ t) 2)))) ∨ (rv = some (jv (M (tpQ t + 1) i)) ∧ M' = M ∧ (0 ≤ t ∧ t ≤ 5) ∧ (0 ≤ i ∧ i < M (tpQ t) 2)))) r1 M1) (a2 : ((fun rv M' => (rv = some (jv (-9223372036854775808)) ∧ M' = M1 ∧ (¬ (0 ≤ t ∧ t ≤ 5) ∨ ((0 ≤ t ∧ t ≤ 5) ∧ ¬ (0 ≤ i ∧ i < M1 93 t)))) ∨ (rv = some (jv (tpI (M1 94) t i)) ∧ M' = M1 ∧ (0 ≤ t ∧ t ≤ 5) ∧ (0 ≤ i ∧ i < M1 93 t)))) r2 M2) : ∃ x : Int, r1 = some (jv x) ∧ r2 = some (jv x) ∧ InvP M2 := by
  have h20 : M 2 2 = M 79 20 := hI.1.1.1
  have h3 : M 3 = M 79 := hI.1.1.2.1
  have h11 : M 11 = tdW (M 79) := hI.1.1.2.2.1
  have hw := hI.1.2
  have hm9 := hw.2.2.1
  rcases a1 with ⟨rfl, hM1, xp0⟩ | ⟨rfl, hM1, xp0, xp1⟩
  · skip
    have hpk : ¬ (0 ≤ t ∧ t ≤ 5) ∨ ((0 ≤ t ∧ t ≤ 5) ∧ M (tpQ t) 2 = M 93 t) := by
      by_cases q9 : 0 ≤ t ∧ t ≤ 5
      · exact Or.inr ⟨q9, (tpF hI (t := t) q9.1 (by omega)).2.1⟩
      · exact Or.inl q9
    have e78 : M1 78 = M 78 := by rw [hM1]
    have e79 : M1 79 = M 79 := by rw [hM1]
    have e80 : M1 80 = M 80 := by rw [hM1]
    have e82 : M1 82 = M 82 := by rw [hM1]
    have e92 : M1 92 = M 92 := by rw [hM1]
    have e93 : M1 93 = M 93 := by rw [hM1]
    have e94 : M1 94 = M 94 := by rw [hM1]
    try simp only [e78, e79, e80, e82, e92, e93, e94] at a2
    rcases a2 with ⟨rfl, hM2, yp0⟩ | ⟨rfl, hM2, yp0, yp1⟩
    · skip
      refine ⟨_, some_jv (rfl), rfl, ?_⟩
      exact (kAll hI (fun i hi => by rw [hM2]; skip; rw [hM1]) (by rw [hM2]; exact congrFun e78 2) (by rw [hM2]; exact congrFun e78 5))
    · skip
      exfalso; omega
  · skip
    have hT9 := tpF hI (t := t) (by omega) (by omega)
    have ht1 : M (tpQ t) 1 = M 92 t := hT9.1
    have ht2 : M (tpQ t) 2 = M 93 t := hT9.2.1
    have ht3 : M (tpQ t + 1) = tpI (M 94) t := hT9.2.2
    have htw := hI.2.2.2.2.2.2.2.1 t (by omega) (by omega)
    have htz := hI.2.2.2.2.2.2.2.2 t (by omega) (by omega)
    have htw1 := htw.1
    have htw2 := htw.2.1
    have e78 : M1 78 = M 78 := by rw [hM1]
    have e79 : M1 79 = M 79 := by rw [hM1]
    have e80 : M1 80 = M 80 := by rw [hM1]
    have e82 : M1 82 = M 82 := by rw [hM1]
    have e92 : M1 92 = M 92 := by rw [hM1]
    have e93 : M1 93 = M 93 := by rw [hM1]
    have e94 : M1 94 = M 94 := by rw [hM1]
    try simp only [e78, e79, e80, e82, e92, e93, e94] at a2
    rcases a2 with ⟨rfl, hM2, yp0⟩ | ⟨rfl, hM2, yp0, yp1⟩
    · skip
      exfalso; omega
    · skip
      refine ⟨_, some_jv (by rw [ht3]), rfl, ?_⟩
      exact (kAll hI (fun i hi => by rw [hM2]; skip; rw [hM1]) (by rw [hM2]; exact congrFun e78 2) (by rw [hM2]; exact congrFun e78 5))
