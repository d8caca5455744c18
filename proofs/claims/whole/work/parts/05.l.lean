theorem pr_tape {M M1 M2 : Mem} {r1 r2 : Option Value} {t : Int} {s : Int} {n : Int} (hI : InvF M) (a1 : ((fun rv M' => (rv = some (iv (-1)) ∧ M' = M ∧ (¬ (0 ≤ t ∧ t ≤ 5))) ∨ (rv = some (iv (-2)) ∧ M' = M ∧ (0 ≤ t ∧ t ≤ 5) ∧ (¬ (-1 ≤ s ∧ s ≤ 4) ∨ (s ≠ -1 ∧ 60 < n))) ∨ (rv = some (iv (-14)) ∧ M' = M ∧ (0 ≤ t ∧ t ≤ 5) ∧ (0 ≤ s ∧ s ≤ 4 ∧ n < 0)) ∨ (rv = some (iv 1) ∧ M' = (up1 (up1 M (tpQ t) (up (up (M (tpQ t)) 1 s) 2 (if s = -1 then 0 else n))) (tpQ t + 1) (fun _ => 0)) ∧ (0 ≤ t ∧ t ≤ 5) ∧ ((-1 ≤ s ∧ s ≤ 4) ∧ (s = -1 ∨ (0 ≤ n ∧ n ≤ 60)))))) r1 M1) (a2 : ((fun rv M' => (rv = some (iv (-1)) ∧ M' = M1 ∧ (¬ (0 ≤ t ∧ t ≤ 5))) ∨ (rv = some (iv (-2)) ∧ M' = M1 ∧ (0 ≤ t ∧ t ≤ 5) ∧ (¬ (-1 ≤ s ∧ s ≤ 4) ∨ (0 ≤ s ∧ 60 < n))) ∨ (rv = some (iv (-14)) ∧ M' = M1 ∧ (0 ≤ t ∧ t ≤ 5) ∧ (0 ≤ s ∧ s ≤ 4 ∧ n < 0)) ∨ (rv = some (iv 1) ∧ M' = (up1 (up1 (up1 M1 92 (up (M1 92) t s)) 93 (up (M1 93) t (if s < 0 then 0 else n))) 94 (zrI (M1 94) t)) ∧ (0 ≤ t ∧ t ≤ 5) ∧ ((-1 ≤ s ∧ s ≤ 4) ∧ (s = -1 ∨ (0 ≤ n ∧ n ≤ 60)))))) r2 M2) : ∃ x : Int, r1 = some (iv x) ∧ r2 = some (iv x) ∧ InvP M2 := by
  have h20 : M 2 2 = M 79 20 := hI.1.1.1
  have h3 : M 3 = M 79 := hI.1.1.2.1
  have h11 : M 11 = tdW (M 79) := hI.1.1.2.2.1
  have hw := hI.1.2
  have hm9 := hw.2.2.1
  rcases a1 with ⟨rfl, hM1, xp0⟩ | ⟨rfl, hM1, xp0, xp1⟩ | ⟨rfl, hM1, xp0, xp1⟩ | ⟨rfl, hM1, xp0, xp1⟩
  · skip
    have e78 : M1 78 = M 78 := by rw [hM1]
    have e79 : M1 79 = M 79 := by rw [hM1]
    have e80 : M1 80 = M 80 := by rw [hM1]
    have e82 : M1 82 = M 82 := by rw [hM1]
    have e92 : M1 92 = M 92 := by rw [hM1]
    have e93 : M1 93 = M 93 := by rw [hM1]
    have e94 : M1 94 = M 94 := by rw [hM1]
    try simp only [e78, e79, e80, e82, e92, e93, e94] at a2
    rcases a2 with ⟨rfl, hM2, yp0⟩ | ⟨rfl, hM2, yp0, yp1⟩ | ⟨rfl, hM2, yp0, yp1⟩ | ⟨rfl, hM2, yp0, yp1⟩
    · skip
      refine ⟨_, some_iv (rfl), rfl, ?_⟩
      exact (kAll hI (fun i hi => by rw [hM2]; skip; rw [hM1]) (by rw [hM2]; exact congrFun e78 2) (by rw [hM2]; exact congrFun e78 5))
    · skip
      exfalso; omega
    · skip
      exfalso; omega
    · skip
      exfalso; omega
  · skip
    have e78 : M1 78 = M 78 := by rw [hM1]
    have e79 : M1 79 = M 79 := by rw [hM1]
    have e80 : M1 80 = M 80 := by rw [hM1]
    have e82 : M1 82 = M 82 := by rw [hM1]
    have e92 : M1 92 = M 92 := by rw [hM1]
    have e93 : M1 93 = M 93 := by rw [hM1]
    have e94 : M1 94 = M 94 := by rw [hM1]
    try simp only [e78, e79, e80, e82, e92, e93, e94] at a2
    rcases a2 with ⟨rfl, hM2, yp0⟩ | ⟨rfl, hM2, yp0, yp1⟩ | ⟨rfl, hM2, yp0, yp1⟩ | ⟨rfl, hM2, yp0, yp1⟩
    · skip
      exfalso; omega
    · skip
      refine ⟨_, some_iv (rfl), rfl, ?_⟩
      exact (kAll hI (fun i hi => by rw [hM2]; skip; rw [hM1]) (by rw [hM2]; exact congrFun e78 2) (by rw [hM2]; exact congrFun e78 5))
    · skip
      exfalso; omega
    · skip
      exfalso; omega
  · skip
    have e78 : M1 78 = M 78 := by rw [hM1]
    have e79 : M1 79 = M 79 := by rw [hM1]
    have e80 : M1 80 = M 80 := by rw [hM1]
    have e82 : M1 82 = M 82 := by rw [hM1]
    have e92 : M1 92 = M 92 := by rw [hM1]
    have e93 : M1 93 = M 93 := by rw [hM1]
    have e94 : M1 94 = M 94 := by rw [hM1]
    try simp only [e78, e79, e80, e82, e92, e93, e94] at a2
    rcases a2 with ⟨rfl, hM2, yp0⟩ | ⟨rfl, hM2, yp0, yp1⟩ | ⟨rfl, hM2, yp0, yp1⟩ | ⟨rfl, hM2, yp0, yp1⟩
    · skip
      exfalso; omega
    · skip
      exfalso; omega
    · skip
      refine ⟨_, some_iv (rfl), rfl, ?_⟩
      exact (kAll hI (fun i hi => by rw [hM2]; skip; rw [hM1]) (by rw [hM2]; exact congrFun e78 2) (by rw [hM2]; exact congrFun e78 5))
    · skip
      exfalso; omega
  · skip
    have e78 : M1 78 = M 78 := by rw [hM1]; (repeat (rw [up1_ne (by first | omega | (unfold basQ; omega) | (unfold tpQ; omega))]))
    have e79 : M1 79 = M 79 := by rw [hM1]; (repeat (rw [up1_ne (by first | omega | (unfold basQ; omega) | (unfold tpQ; omega))]))
    have e80 : M1 80 = M 80 := by rw [hM1]; (repeat (rw [up1_ne (by first | omega | (unfold basQ; omega) | (unfold tpQ; omega))]))
    have e82 : M1 82 = M 82 := by rw [hM1]; (repeat (rw [up1_ne (by first | omega | (unfold basQ; omega) | (unfold tpQ; omega))]))
    have e92 : M1 92 = M 92 := by rw [hM1]; (repeat (rw [up1_ne (by first | omega | (unfold basQ; omega) | (unfold tpQ; omega))]))
    have e93 : M1 93 = M 93 := by rw [hM1]; (repeat (rw [up1_ne (by first | omega | (unfold basQ; omega) | (unfold tpQ; omega))]))
    have e94 : M1 94 = M 94 := by rw [hM1]; (repeat (rw [up1_ne (by first | omega | (unfold basQ; omega) | (unfold tpQ; omega))]))
    try simp only [e78, e79, e80, e82, e92, e93, e94] at a2
    rcases a2 with ⟨rfl, hM2, yp0⟩ | ⟨rfl, hM2, yp0, yp1⟩ | ⟨rfl, hM2, yp0, yp1⟩ | ⟨rfl, hM2, yp0, yp1⟩
    · skip
      exfalso; omega
    · skip
      exfalso; omega
    · skip
      exfalso; omega
    · skip
      have z92 : M2 92 = up (M 92) t s := by rw [hM2]; rfl
      have z93 : M2 93 = up (M 93) t (if s < 0 then 0 else n) := by rw [hM2]; rfl
      have z94 : M2 94 = zrI (M 94) t := by rw [hM2]; rfl
      have zq : M2 (tpQ t) = up (up (M (tpQ t)) 1 s) 2 (if s = -1 then 0 else n) := by
        rw [hM2, up1_ne (by unfold tpQ; omega), up1_ne (by unfold tpQ; omega), up1_ne (by unfold tpQ; omega), hM1, up1_ne (by omega), up1_same]
      have zr : M2 (tpQ t + 1) = fun _ => 0 := by
        rw [hM2, up1_ne (by unfold tpQ; omega), up1_ne (by unfold tpQ; omega), up1_ne (by unfold tpQ; omega), hM1, up1_same]
      refine ⟨_, some_iv (rfl), rfl, ?_⟩
      exact ⟨k1 hI (fun i9 hi => by rw [hM2]; (repeat (rw [up1_ne (by first | omega | (unfold basQ; omega) | (unfold tpQ; omega))])); rw [hM1]; (repeat (rw [up1_ne (by first | omega | (unfold basQ; omega) | (unfold tpQ; omega))]))), k2 hI (fun i9 hi => by rw [hM2]; (repeat (rw [up1_ne (by first | omega | (unfold basQ; omega) | (unfold tpQ; omega))])); rw [hM1]; (repeat (rw [up1_ne (by first | omega | (unfold basQ; omega) | (unfold tpQ; omega))]))), k3 hI (fun i9 hi => by rw [hM2]; (repeat (rw [up1_ne (by first | omega | (unfold basQ; omega) | (unfold tpQ; omega))])); rw [hM1]; (repeat (rw [up1_ne (by first | omega | (unfold basQ; omega) | (unfold tpQ; omega))]))), k4 hI (by rw [hM2]; (repeat (rw [up1_ne (by first | omega | (unfold basQ; omega) | (unfold tpQ; omega))])); rw [hM1]; (repeat (rw [up1_ne (by first | omega | (unfold basQ; omega) | (unfold tpQ; omega))]))) (by rw [hM2]; (repeat (rw [up1_ne (by first | omega | (unfold basQ; omega) | (unfold tpQ; omega))])); rw [hM1]; (repeat (rw [up1_ne (by first | omega | (unfold basQ; omega) | (unfold tpQ; omega))]))) (by rw [hM2]; (repeat (rw [up1_ne (by first | omega | (unfold basQ; omega) | (unfold tpQ; omega))])); rw [hM1]; (repeat (rw [up1_ne (by first | omega | (unfold basQ; omega) | (unfold tpQ; omega))]))), k5 hI (by rw [hM2]; (repeat (rw [up1_ne (by first | omega | (unfold basQ; omega) | (unfold tpQ; omega))])); rw [hM1]; (repeat (rw [up1_ne (by first | omega | (unfold basQ; omega) | (unfold tpQ; omega))]))) (by rw [hM2]; exact congrFun e78 2), k6 hI (by rw [hM2]; (repeat (rw [up1_ne (by first | omega | (unfold basQ; omega) | (unfold tpQ; omega))])); rw [hM1]; (repeat (rw [up1_ne (by first | omega | (unfold basQ; omega) | (unfold tpQ; omega))]))) (by rw [hM2]; (repeat (rw [up1_ne (by first | omega | (unfold basQ; omega) | (unfold tpQ; omega))])); rw [hM1]; (repeat (rw [up1_ne (by first | omega | (unfold basQ; omega) | (unfold tpQ; omega))]))) (by rw [hM2]; exact congrFun e78 5) (by rw [hM2]; exact e82), (k7t hI (t := t) (by omega) (by omega) (fun i9 hi hn1 hn2 => by rw [hM2]; (repeat (rw [up1_ne (by first | omega | (unfold basQ; omega) | (unfold tpQ; omega))])); rw [hM1]; (repeat (rw [up1_ne (by omega)]))) (fun j hj => by rw [z92]; exact up_ne hj) (fun j hj => by rw [z93]; exact up_ne hj) (fun j j0 j1 hj k k0 k1 => by rw [z94]; unfold zrI; rw [if_neg (by omega)]) (by
        refine ⟨by rw [zq, z92, up_ne (by decide), up_same, up_same], by rw [zq, z93, up_same, up_same]; by_cases q9 : s = -1 <;> simp [q9] <;> omega, fun k k0 k1 => by rw [zr, z94]; unfold tpI zrI; rw [if_pos (by omega)]⟩) (by rw [z92, up_same]; omega) (by rw [z93, up_same]; split <;> omega) (fun k k0 k1 => by rw [z94]; unfold zrI; rw [if_pos (by omega)]; decide) (fun q9 => by rw [z92, up_same] at q9; rw [z93, up_same, if_pos (by omega)]))⟩
theorem pr_item {M M1 M2 : Mem} {r1 r2 : Option Value} {t : Int} {i : Int} {v : Int} (hI : InvF M) (hv9 : i64 v) (a1 : ((fun rv M' => (rv = some (iv (-1)) ∧ M' = M ∧ (¬ (0 ≤ t ∧ t ≤ 5))) ∨ (rv = some (iv (-11)) ∧ M' = M ∧ (0 ≤ t ∧ t ≤ 5) ∧ (M (tpQ t) 1 = -1)) ∨ (rv = some (iv (-13)) ∧ M' = M ∧ (0 ≤ t ∧ t ≤ 5) ∧ (M (tpQ t) 1 ≠ -1) ∧ (¬ (0 ≤ i ∧ i < M (tpQ t) 2))) ∨ (rv = some (iv 1) ∧ M' = (up1 M (tpQ t + 1) (up (M (tpQ t + 1)) i (nrw (M (tpQ t) 1) v))) ∧ (0 ≤ t ∧ t ≤ 5) ∧ (M (tpQ t) 1 ≠ -1) ∧ (0 ≤ i ∧ i < M (tpQ t) 2)))) r1 M1) (a2 : ((fun rv M' => (rv = some (iv (-1)) ∧ M' = M1 ∧ (¬ (0 ≤ t ∧ t ≤ 5))) ∨ (rv = some (iv (-11)) ∧ M' = M1 ∧ (0 ≤ t ∧ t ≤ 5) ∧ (M1 92 t < 0)) ∨ (rv = some (iv (-13)) ∧ M' = M1 ∧ (0 ≤ t ∧ t ≤ 5) ∧ (0 ≤ M1 92 t) ∧ (¬ (0 ≤ i ∧ i < M1 93 t))) ∨ (rv = some (iv 1) ∧ M' = (up1 M1 94 (up (M1 94) (60 * t + i) (nrw (M1 92 t) v))) ∧ (0 ≤ t ∧ t ≤ 5) ∧ (0 ≤ M1 92 t) ∧ (0 ≤ i ∧ i < M1 93 t)))) r2 M2) : ∃ x : Int, r1 = some (iv x) ∧ r2 = some (iv x) ∧ InvP M2 := by
  have h20 : M 2 2 = M 79 20 := hI.1.1.1
  have h3 : M 3 = M 79 := hI.1.1.2.1
  have h11 : M 11 = tdW (M 79) := hI.1.1.2.2.1
  have hw := hI.1.2
  have hm9 := hw.2.2.1
  rcases a1 with ⟨rfl, hM1, xp0⟩ | ⟨rfl, hM1, xp0, xp1⟩ | ⟨rfl, hM1, xp0, xp1, xp2⟩ | ⟨rfl, hM1, xp0, xp1, xp2⟩
  · skip
    have e78 : M1 78 = M 78 := by rw [hM1]
    have e79 : M1 79 = M 79 := by rw [hM1]
    have e80 : M1 80 = M 80 := by rw [hM1]
    have e82 : M1 82 = M 82 := by rw [hM1]
    have e92 : M1 92 = M 92 := by rw [hM1]
    have e93 : M1 93 = M 93 := by rw [hM1]
    have e94 : M1 94 = M 94 := by rw [hM1]
    try simp only [e78, e79, e80, e82, e92, e93, e94] at a2
    rcases a2 with ⟨rfl, hM2, yp0⟩ | ⟨rfl, hM2, yp0, yp1⟩ | ⟨rfl, hM2, yp0, yp1, yp2⟩ | ⟨rfl, hM2, yp0, yp1, yp2⟩
    · skip
      refine ⟨_, some_iv (rfl), rfl, ?_⟩
      exact (kAll hI (fun i hi => by rw [hM2]; skip; rw [hM1]) (by rw [hM2]; exact congrFun e78 2) (by rw [hM2]; exact congrFun e78 5))
    · skip
      exfalso; omega
    · skip
      exfalso; omega
    · skip
      exfalso; omega
  · skip
    have hT9 := tpF hI (t := t) (by omega) (by omega)
    have ht1 : M (tpQ t) 1 = M 92 t := hT9.1
    have ht2 : M (tpQ t) 2 = M 93 t := hT9.2.1
    have ht3 : M (tpQ t + 1) = tpI (M 94) t := hT9.2.2
    have htw := hI.2.2.2.2.2.2.2.1 t (by omega) (by omega)
    have htz := hI.2.2.2.2.2.2.2.2 t (by omega) (by omega)
    have htw1 := htw.1
    have htw2 := htw.2.1
    have e78 : M1 78 = M 78 := by rw [hM1]
    have e79 : M1 79 = M 79 := by rw [hM1]
    have e80 : M1 80 = M 80 := by rw [hM1]
    have e82 : M1 82 = M 82 := by rw [hM1]
    have e92 : M1 92 = M 92 := by rw [hM1]
    have e93 : M1 93 = M 93 := by rw [hM1]
    have e94 : M1 94 = M 94 := by rw [hM1]
    try simp only [e78, e79, e80, e82, e92, e93, e94] at a2
    rcases a2 with ⟨rfl, hM2, yp0⟩ | ⟨rfl, hM2, yp0, yp1⟩ | ⟨rfl, hM2, yp0, yp1, yp2⟩ | ⟨rfl, hM2, yp0, yp1, yp2⟩
    · skip
      exfalso; omega
    · skip
      refine ⟨_, some_iv (rfl), rfl, ?_⟩
      exact (kAll hI (fun i hi => by rw [hM2]; skip; rw [hM1]) (by rw [hM2]; exact congrFun e78 2) (by rw [hM2]; exact congrFun e78 5))
    · skip
      exfalso; omega
    · skip
      exfalso; omega
  · skip
    have hT9 := tpF hI (t := t) (by omega) (by omega)
    have ht1 : M (tpQ t) 1 = M 92 t := hT9.1
    have ht2 : M (tpQ t) 2 = M 93 t := hT9.2.1
    have ht3 : M (tpQ t + 1) = tpI (M 94) t := hT9.2.2
    have htw := hI.2.2.2.2.2.2.2.1 t (by omega) (by omega)
    have htz := hI.2.2.2.2.2.2.2.2 t (by omega) (by omega)
    have htw1 := htw.1
    have htw2 := htw.2.1
    have e78 : M1 78 = M 78 := by rw [hM1]
    have e79 : M1 79 = M 79 := by rw [hM1]
    have e80 : M1 80 = M 80 := by rw [hM1]
    have e82 : M1 82 = M 82 := by rw [hM1]
    have e92 : M1 92 = M 92 := by rw [hM1]
    have e93 : M1 93 = M 93 := by rw [hM1]
    have e94 : M1 94 = M 94 := by rw [hM1]
    try simp only [e78, e79, e80, e82, e92, e93, e94] at a2
    rcases a2 with ⟨rfl, hM2, yp0⟩ | ⟨rfl, hM2, yp0, yp1⟩ | ⟨rfl, hM2, yp0, yp1, yp2⟩ | ⟨rfl, hM2, yp0, yp1, yp2⟩
    · skip
      exfalso; omega
    · skip
      exfalso; omega
    · skip
      refine ⟨_, some_iv (rfl), rfl, ?_⟩
      exact (kAll hI (fun i hi => by rw [hM2]; skip; rw [hM1]) (by rw [hM2]; exact congrFun e78 2) (by rw [hM2]; exact congrFun e78 5))
    · skip
      exfalso; omega
  · skip
    have hT9 := tpF hI (t := t) (by omega) (by omega)
    have ht1 : M (tpQ t) 1 = M 92 t := hT9.1
    have ht2 : M (tpQ t) 2 = M 93 t := hT9.2.1
    have ht3 : M (tpQ t + 1) = tpI (M 94) t := hT9.2.2
    have htw := hI.2.2.2.2.2.2.2.1 t (by omega) (by omega)
    have htz := hI.2.2.2.2.2.2.2.2 t (by omega) (by omega)
    have htw1 := htw.1
    have htw2 := htw.2.1
    have e78 : M1 78 = M 78 := by rw [hM1]; (repeat (rw [up1_ne (by first | omega | (unfold basQ; omega) | (unfold tpQ; omega))]))
    have e79 : M1 79 = M 79 := by rw [hM1]; (repeat (rw [up1_ne (by first | omega | (unfold basQ; omega) | (unfold tpQ; omega))]))
    have e80 : M1 80 = M 80 := by rw [hM1]; (repeat (rw [up1_ne (by first | omega | (unfold basQ; omega) | (unfold tpQ; omega))]))
    have e82 : M1 82 = M 82 := by rw [hM1]; (repeat (rw [up1_ne (by first | omega | (unfold basQ; omega) | (unfold tpQ; omega))]))
    have e92 : M1 92 = M 92 := by rw [hM1]; (repeat (rw [up1_ne (by first | omega | (unfold basQ; omega) | (unfold tpQ; omega))]))
    have e93 : M1 93 = M 93 := by rw [hM1]; (repeat (rw [up1_ne (by first | omega | (unfold basQ; omega) | (unfold tpQ; omega))]))
    have e94 : M1 94 = M 94 := by rw [hM1]; (repeat (rw [up1_ne (by first | omega | (unfold basQ; omega) | (unfold tpQ; omega))]))
    try simp only [e78, e79, e80, e82, e92, e93, e94] at a2
    rcases a2 with ⟨rfl, hM2, yp0⟩ | ⟨rfl, hM2, yp0, yp1⟩ | ⟨rfl, hM2, yp0, yp1, yp2⟩ | ⟨rfl, hM2, yp0, yp1, yp2⟩
    · skip
      exfalso; omega
    · skip
      exfalso; omega
    · skip
      exfalso; omega
    · skip
      have z92 : M2 92 = M 92 := by rw [hM2]; exact e92
      have z93 : M2 93 = M 93 := by rw [hM2]; exact e93
      have z94 : M2 94 = up (M 94) (60 * t + i) (nrw (M 92 t) v) := by rw [hM2]; rfl
      have zq : M2 (tpQ t) = M (tpQ t) := by
        rw [hM2, up1_ne (by unfold tpQ; omega), hM1, up1_ne (by omega)]
      have zr : M2 (tpQ t + 1) = up (M (tpQ t + 1)) i (nrw (M (tpQ t) 1) v) := by
        rw [hM2, up1_ne (by unfold tpQ; omega), hM1, up1_same]
      refine ⟨_, some_iv (rfl), rfl, ?_⟩
      exact ⟨k1 hI (fun i9 hi => by rw [hM2]; (repeat (rw [up1_ne (by first | omega | (unfold basQ; omega) | (unfold tpQ; omega))])); rw [hM1]; (repeat (rw [up1_ne (by first | omega | (unfold basQ; omega) | (unfold tpQ; omega))]))), k2 hI (fun i9 hi => by rw [hM2]; (repeat (rw [up1_ne (by first | omega | (unfold basQ; omega) | (unfold tpQ; omega))])); rw [hM1]; (repeat (rw [up1_ne (by first | omega | (unfold basQ; omega) | (unfold tpQ; omega))]))), k3 hI (fun i9 hi => by rw [hM2]; (repeat (rw [up1_ne (by first | omega | (unfold basQ; omega) | (unfold tpQ; omega))])); rw [hM1]; (repeat (rw [up1_ne (by first | omega | (unfold basQ; omega) | (unfold tpQ; omega))]))), k4 hI (by rw [hM2]; (repeat (rw [up1_ne (by first | omega | (unfold basQ; omega) | (unfold tpQ; omega))])); rw [hM1]; (repeat (rw [up1_ne (by first | omega | (unfold basQ; omega) | (unfold tpQ; omega))]))) (by rw [hM2]; (repeat (rw [up1_ne (by first | omega | (unfold basQ; omega) | (unfold tpQ; omega))])); rw [hM1]; (repeat (rw [up1_ne (by first | omega | (unfold basQ; omega) | (unfold tpQ; omega))]))) (by rw [hM2]; (repeat (rw [up1_ne (by first | omega | (unfold basQ; omega) | (unfold tpQ; omega))])); rw [hM1]; (repeat (rw [up1_ne (by first | omega | (unfold basQ; omega) | (unfold tpQ; omega))]))), k5 hI (by rw [hM2]; (repeat (rw [up1_ne (by first | omega | (unfold basQ; omega) | (unfold tpQ; omega))])); rw [hM1]; (repeat (rw [up1_ne (by first | omega | (unfold basQ; omega) | (unfold tpQ; omega))]))) (by rw [hM2]; exact congrFun e78 2), k6 hI (by rw [hM2]; (repeat (rw [up1_ne (by first | omega | (unfold basQ; omega) | (unfold tpQ; omega))])); rw [hM1]; (repeat (rw [up1_ne (by first | omega | (unfold basQ; omega) | (unfold tpQ; omega))]))) (by rw [hM2]; (repeat (rw [up1_ne (by first | omega | (unfold basQ; omega) | (unfold tpQ; omega))])); rw [hM1]; (repeat (rw [up1_ne (by first | omega | (unfold basQ; omega) | (unfold tpQ; omega))]))) (by rw [hM2]; exact congrFun e78 5) (by rw [hM2]; exact e82), (k7t hI (t := t) (by omega) (by omega) (fun i9 hi hn1 hn2 => by rw [hM2]; (repeat (rw [up1_ne (by first | omega | (unfold basQ; omega) | (unfold tpQ; omega))])); rw [hM1]; (repeat (rw [up1_ne (by omega)]))) (fun j hj => by rw [z92]) (fun j hj => by rw [z93]) (fun j j0 j1 hj k k0 k1 => by rw [z94]; exact up_ne (by omega)) (by
        refine ⟨by rw [zq, z92]; exact ht1, by rw [zq, z93]; exact ht2, fun k k0 k1 => ?_⟩
        rw [zr, z94, ht1, ht3]
        unfold tpI
        by_cases q9 : k = i
        · rw [q9, up_same, up_same]
        · rw [up_ne q9, up_ne (by omega)]) (by rw [z92]; exact htw1) (by rw [z93]; exact htw2) (fun k k0 k1 => by
        rw [z94]
        by_cases q9 : k = i
        · rw [q9, up_same]; exact nrw_rng (by omega) hv9
        · rw [up_ne (by omega)]; exact htw.2.2 k k0 k1) (fun q9 => by rw [z92] at q9; rw [z93]; exact htz q9))⟩
theorem pr_shift {M M1 M2 : Mem} {r1 r2 : Option Value} {t : Int} {i : Int} {o : Int} {j : Int} {n : Int} (hI : InvF M) (a1 : ((fun rv M' => (rv = some (iv (-1)) ∧ M' = M ∧ (¬ (0 ≤ t ∧ t ≤ 5) ∨ ¬ (0 ≤ o ∧ o ≤ 5))) ∨ (rv = some (iv (-11)) ∧ M' = M ∧ (0 ≤ t ∧ t ≤ 5) ∧ (0 ≤ o ∧ o ≤ 5) ∧ (M (tpQ t) 1 = -1 ∨ M (tpQ o) 1 = -1)) ∨ (rv = some (iv (-12)) ∧ M' = M ∧ (0 ≤ t ∧ t ≤ 5) ∧ (0 ≤ o ∧ o ≤ 5) ∧ (M (tpQ t) 1 ≠ -1 ∧ M (tpQ o) 1 ≠ -1 ∧ M (tpQ t) 1 ≠ M (tpQ o) 1)) ∨ (rv = some (iv (-13)) ∧ M' = M ∧ (0 ≤ t ∧ t ≤ 5) ∧ (0 ≤ o ∧ o ≤ 5) ∧ (M (tpQ t) 1 ≠ -1 ∧ M (tpQ t) 1 = M (tpQ o) 1) ∧ (¬ (0 ≤ n ∧ 0 ≤ i ∧ i + n ≤ M (tpQ t) 2) ∨ ¬ (0 ≤ n ∧ 0 ≤ j ∧ j + n ≤ M (tpQ o) 2))) ∨ (rv = some (iv n) ∧ M' = (up1 M (tpQ o + 1) (cpy (M (tpQ t + 1)) (M (tpQ o + 1)) i j n)) ∧ (0 ≤ t ∧ t ≤ 5) ∧ (0 ≤ o ∧ o ≤ 5) ∧ (M (tpQ t) 1 ≠ -1 ∧ M (tpQ t) 1 = M (tpQ o) 1) ∧ ((0 ≤ n ∧ 0 ≤ i ∧ i + n ≤ M (tpQ t) 2) ∧ (0 ≤ n ∧ 0 ≤ j ∧ j + n ≤ M (tpQ o) 2))))) r1 M1) (a2 : ((fun rv M' => (rv = some (iv (-1)) ∧ M' = M1 ∧ (¬ (0 ≤ t ∧ t ≤ 5) ∨ ¬ (0 ≤ o ∧ o ≤ 5))) ∨ (rv = some (iv (-11)) ∧ M' = M1 ∧ (0 ≤ t ∧ t ≤ 5) ∧ (0 ≤ o ∧ o ≤ 5) ∧ (M1 92 t < 0 ∨ M1 92 o < 0)) ∨ (rv = some (iv (-12)) ∧ M' = M1 ∧ (0 ≤ t ∧ t ≤ 5) ∧ (0 ≤ o ∧ o ≤ 5) ∧ (0 ≤ M1 92 t ∧ 0 ≤ M1 92 o ∧ M1 92 t ≠ M1 92 o)) ∨ (rv = some (iv (-13)) ∧ M' = M1 ∧ (0 ≤ t ∧ t ≤ 5) ∧ (0 ≤ o ∧ o ≤ 5) ∧ (0 ≤ M1 92 t ∧ M1 92 t = M1 92 o) ∧ (¬ (0 ≤ n ∧ 0 ≤ i ∧ i + n ≤ M1 93 t) ∨ ¬ (0 ≤ n ∧ 0 ≤ j ∧ j + n ≤ M1 93 o))) ∨ (rv = some (iv n) ∧ M' = (up1 M1 94 (shI (M1 94) t i o j n)) ∧ (0 ≤ t ∧ t ≤ 5) ∧ (0 ≤ o ∧ o ≤ 5) ∧ (0 ≤ M1 92 t ∧ M1 92 t = M1 92 o) ∧ ((0 ≤ n ∧ 0 ≤ i ∧ i + n ≤ M1 93 t) ∧ (0 ≤ n ∧ 0 ≤ j ∧ j + n ≤ M1 93 o))))) r2 M2) : ∃ x : Int, r1 = some (iv x) ∧ r2 = some (iv x) ∧ InvP M2 := by
  have h20 : M 2 2 = M 79 20 := hI.1.1.1
  have h3 : M 3 = M 79 := hI.1.1.2.1
  have h11 : M 11 = tdW (M 79) := hI.1.1.2.2.1
  have hw := hI.1.2
  have hm9 := hw.2.2.1
  rcases a1 with ⟨rfl, hM1, xp0⟩ | ⟨rfl, hM1, xp0, xp1, xp2⟩ | ⟨rfl, hM1, xp0, xp1, xp2⟩ | ⟨rfl, hM1, xp0, xp1, xp2, xp3⟩ | ⟨rfl, hM1, xp0, xp1, xp2, xp3⟩
  · skip
    have e78 : M1 78 = M 78 := by rw [hM1]
    have e79 : M1 79 = M 79 := by rw [hM1]
    have e80 : M1 80 = M 80 := by rw [hM1]
    have e82 : M1 82 = M 82 := by rw [hM1]
    have e92 : M1 92 = M 92 := by rw [hM1]
    have e93 : M1 93 = M 93 := by rw [hM1]
    have e94 : M1 94 = M 94 := by rw [hM1]
    try simp only [e78, e79, e80, e82, e92, e93, e94] at a2
    rcases a2 with ⟨rfl, hM2, yp0⟩ | ⟨rfl, hM2, yp0, yp1, yp2⟩ | ⟨rfl, hM2, yp0, yp1, yp2⟩ | ⟨rfl, hM2, yp0, yp1, yp2, yp3⟩ | ⟨rfl, hM2, yp0, yp1, yp2, yp3⟩
    · skip
      refine ⟨_, some_iv (rfl), rfl, ?_⟩
      exact (kAll hI (fun i hi => by rw [hM2]; skip; rw [hM1]) (by rw [hM2]; exact congrFun e78 2) (by rw [hM2]; exact congrFun e78 5))
    · skip
      exfalso; omega
    · skip
      exfalso; omega
    · skip
      exfalso; omega
    · skip
      exfalso; omega
  · skip
    have hT9 := tpF hI (t := t) (by omega) (by omega)
    have ht1 : M (tpQ t) 1 = M 92 t := hT9.1
    have ht2 : M (tpQ t) 2 = M 93 t := hT9.2.1
    have ht3 : M (tpQ t + 1) = tpI (M 94) t := hT9.2.2
    have htw := hI.2.2.2.2.2.2.2.1 t (by omega) (by omega)
    have htz := hI.2.2.2.2.2.2.2.2 t (by omega) (by omega)
    have htw1 := htw.1
    have htw2 := htw.2.1
    have hO9 := tpF hI (t := o) (by omega) (by omega)
    have ho1 : M (tpQ o) 1 = M 92 o := hO9.1
    have ho2 : M (tpQ o) 2 = M 93 o := hO9.2.1
    have ho3 : M (tpQ o + 1) = tpI (M 94) o := hO9.2.2
    have how := hI.2.2.2.2.2.2.2.1 o (by omega) (by omega)
    have hoz := hI.2.2.2.2.2.2.2.2 o (by omega) (by omega)
    have how1 := how.1
    have how2 := how.2.1
    have e78 : M1 78 = M 78 := by rw [hM1]
    have e79 : M1 79 = M 79 := by rw [hM1]
    have e80 : M1 80 = M 80 := by rw [hM1]
    have e82 : M1 82 = M 82 := by rw [hM1]
    have e92 : M1 92 = M 92 := by rw [hM1]
    have e93 : M1 93 = M 93 := by rw [hM1]
    have e94 : M1 94 = M 94 := by rw [hM1]
    try simp only [e78, e79, e80, e82, e92, e93, e94] at a2
    rcases a2 with ⟨rfl, hM2, yp0⟩ | ⟨rfl, hM2, yp0, yp1, yp2⟩ | ⟨rfl, hM2, yp0, yp1, yp2⟩ | ⟨rfl, hM2, yp0, yp1, yp2, yp3⟩ | ⟨rfl, hM2, yp0, yp1, yp2, yp3⟩
    · skip
      exfalso; omega
    · skip
      refine ⟨_, some_iv (rfl), rfl, ?_⟩
      exact (kAll hI (fun i hi => by rw [hM2]; skip; rw [hM1]) (by rw [hM2]; exact congrFun e78 2) (by rw [hM2]; exact congrFun e78 5))
    · skip
      exfalso; omega
    · skip
      exfalso; omega
    · skip
      exfalso; omega
  · skip
    have hT9 := tpF hI (t := t) (by omega) (by omega)
    have ht1 : M (tpQ t) 1 = M 92 t := hT9.1
    have ht2 : M (tpQ t) 2 = M 93 t := hT9.2.1
    have ht3 : M (tpQ t + 1) = tpI (M 94) t := hT9.2.2
    have htw := hI.2.2.2.2.2.2.2.1 t (by omega) (by omega)
    have htz := hI.2.2.2.2.2.2.2.2 t (by omega) (by omega)
    have htw1 := htw.1
    have htw2 := htw.2.1
    have hO9 := tpF hI (t := o) (by omega) (by omega)
    have ho1 : M (tpQ o) 1 = M 92 o := hO9.1
    have ho2 : M (tpQ o) 2 = M 93 o := hO9.2.1
    have ho3 : M (tpQ o + 1) = tpI (M 94) o := hO9.2.2
    have how := hI.2.2.2.2.2.2.2.1 o (by omega) (by omega)
    have hoz := hI.2.2.2.2.2.2.2.2 o (by omega) (by omega)
    have how1 := how.1
    have how2 := how.2.1
    have e78 : M1 78 = M 78 := by rw [hM1]
    have e79 : M1 79 = M 79 := by rw [hM1]
    have e80 : M1 80 = M 80 := by rw [hM1]
    have e82 : M1 82 = M 82 := by rw [hM1]
    have e92 : M1 92 = M 92 := by rw [hM1]
    have e93 : M1 93 = M 93 := by rw [hM1]
    have e94 : M1 94 = M 94 := by rw [hM1]
    try simp only [e78, e79, e80, e82, e92, e93, e94] at a2
    rcases a2 with ⟨rfl, hM2, yp0⟩ | ⟨rfl, hM2, yp0, yp1, yp2⟩ | ⟨rfl, hM2, yp0, yp1, yp2⟩ | ⟨rfl, hM2, yp0, yp1, yp2, yp3⟩ | ⟨rfl, hM2, yp0, yp1, yp2, yp3⟩
    · skip
      exfalso; omega
    · skip
      exfalso; omega
    · skip
      refine ⟨_, some_iv (rfl), rfl, ?_⟩
      exact (kAll hI (fun i hi => by rw [hM2]; skip; rw [hM1]) (by rw [hM2]; exact congrFun e78 2) (by rw [hM2]; exact congrFun e78 5))
    · skip
      exfalso; omega
    · skip
      exfalso; omega
  · skip
    have hT9 := tpF hI (t := t) (by omega) (by omega)
    have ht1 : M (tpQ t) 1 = M 92 t := hT9.1
    have ht2 : M (tpQ t) 2 = M 93 t := hT9.2.1
    have ht3 : M (tpQ t + 1) = tpI (M 94) t := hT9.2.2
    have htw := hI.2.2.2.2.2.2.2.1 t (by omega) (by omega)
    have htz := hI.2.2.2.2.2.2.2.2 t (by omega) (by omega)
    have htw1 := htw.1
    have htw2 := htw.2.1
    have hO9 := tpF hI (t := o) (by omega) (by omega)
    have ho1 : M (tpQ o) 1 = M 92 o := hO9.1
    have ho2 : M (tpQ o) 2 = M 93 o := hO9.2.1
    have ho3 : M (tpQ o + 1) = tpI (M 94) o := hO9.2.2
    have how := hI.2.2.2.2.2.2.2.1 o (by omega) (by omega)
    have hoz := hI.2.2.2.2.2.2.2.2 o (by omega) (by omega)
    have how1 := how.1
    have how2 := how.2.1
    have e78 : M1 78 = M 78 := by rw [hM1]
    have e79 : M1 79 = M 79 := by rw [hM1]
    have e80 : M1 80 = M 80 := by rw [hM1]
    have e82 : M1 82 = M 82 := by rw [hM1]
    have e92 : M1 92 = M 92 := by rw [hM1]
    have e93 : M1 93 = M 93 := by rw [hM1]
    have e94 : M1 94 = M 94 := by rw [hM1]
    try simp only [e78, e79, e80, e82, e92, e93, e94] at a2
    rcases a2 with ⟨rfl, hM2, yp0⟩ | ⟨rfl, hM2, yp0, yp1, yp2⟩ | ⟨rfl, hM2, yp0, yp1, yp2⟩ | ⟨rfl, hM2, yp0, yp1, yp2, yp3⟩ | ⟨rfl, hM2, yp0, yp1, yp2, yp3⟩
    · skip
      exfalso; omega
    · skip
      exfalso; omega
    · skip
      exfalso; omega
    · skip
      refine ⟨_, some_iv (rfl), rfl, ?_⟩
      exact (kAll hI (fun i hi => by rw [hM2]; skip; rw [hM1]) (by rw [hM2]; exact congrFun e78 2) (by rw [hM2]; exact congrFun e78 5))
    · skip
      exfalso; omega
  · skip
    have hT9 := tpF hI (t := t) (by omega) (by omega)
    have ht1 : M (tpQ t) 1 = M 92 t := hT9.1
    have ht2 : M (tpQ t) 2 = M 93 t := hT9.2.1
    have ht3 : M (tpQ t + 1) = tpI (M 94) t := hT9.2.2
    have htw := hI.2.2.2.2.2.2.2.1 t (by omega) (by omega)
    have htz := hI.2.2.2.2.2.2.2.2 t (by omega) (by omega)
    have htw1 := htw.1
    have htw2 := htw.2.1
    have hO9 := tpF hI (t := o) (by omega) (by omega)
    have ho1 : M (tpQ o) 1 = M 92 o := hO9.1
    have ho2 : M (tpQ o) 2 = M 93 o := hO9.2.1
    have ho3 : M (tpQ o + 1) = tpI (M 94) o := hO9.2.2
    have how := hI.2.2.2.2.2.2.2.1 o (by omega) (by omega)
    have hoz := hI.2.2.2.2.2.2.2.2 o (by omega) (by omega)
    have how1 := how.1
    have how2 := how.2.1
    have e78 : M1 78 = M 78 := by rw [hM1]; (repeat (rw [up1_ne (by first | omega | (unfold basQ; omega) | (unfold tpQ; omega))]))
    have e79 : M1 79 = M 79 := by rw [hM1]; (repeat (rw [up1_ne (by first | omega | (unfold basQ; omega) | (unfold tpQ; omega))]))
    have e80 : M1 80 = M 80 := by rw [hM1]; (repeat (rw [up1_ne (by first | omega | (unfold basQ; omega) | (unfold tpQ; omega))]))
    have e82 : M1 82 = M 82 := by rw [hM1]; (repeat (rw [up1_ne (by first | omega | (unfold basQ; omega) | (unfold tpQ; omega))]))
    have e92 : M1 92 = M 92 := by rw [hM1]; (repeat (rw [up1_ne (by first | omega | (unfold basQ; omega) | (unfold tpQ; omega))]))
    have e93 : M1 93 = M 93 := by rw [hM1]; (repeat (rw [up1_ne (by first | omega | (unfold basQ; omega) | (unfold tpQ; omega))]))
    have e94 : M1 94 = M 94 := by rw [hM1]; (repeat (rw [up1_ne (by first | omega | (unfold basQ; omega) | (unfold tpQ; omega))]))
    try simp only [e78, e79, e80, e82, e92, e93, e94] at a2
    rcases a2 with ⟨rfl, hM2, yp0⟩ | ⟨rfl, hM2, yp0, yp1, yp2⟩ | ⟨rfl, hM2, yp0, yp1, yp2⟩ | ⟨rfl, hM2, yp0, yp1, yp2, yp3⟩ | ⟨rfl, hM2, yp0, yp1, yp2, yp3⟩
    · skip
      exfalso; omega
    · skip
      exfalso; omega
    · skip
      exfalso; omega
    · skip
      exfalso; omega
    · skip
      have z92 : M2 92 = M 92 := by rw [hM2]; exact e92
      have z93 : M2 93 = M 93 := by rw [hM2]; exact e93
      have z94 : M2 94 = shI (M 94) t i o j n := by rw [hM2]; rfl
      have zq : M2 (tpQ o) = M (tpQ o) := by
        rw [hM2, up1_ne (by unfold tpQ; omega), hM1, up1_ne (by omega)]
      have zr : M2 (tpQ o + 1) = cpy (M (tpQ t + 1)) (M (tpQ o + 1)) i j n := by
        rw [hM2, up1_ne (by unfold tpQ; omega), hM1, up1_same]
      refine ⟨_, some_iv (rfl), rfl, ?_⟩
      exact ⟨k1 hI (fun i9 hi => by rw [hM2]; (repeat (rw [up1_ne (by first | omega | (unfold basQ; omega) | (unfold tpQ; omega))])); rw [hM1]; (repeat (rw [up1_ne (by first | omega | (unfold basQ; omega) | (unfold tpQ; omega))]))), k2 hI (fun i9 hi => by rw [hM2]; (repeat (rw [up1_ne (by first | omega | (unfold basQ; omega) | (unfold tpQ; omega))])); rw [hM1]; (repeat (rw [up1_ne (by first | omega | (unfold basQ; omega) | (unfold tpQ; omega))]))), k3 hI (fun i9 hi => by rw [hM2]; (repeat (rw [up1_ne (by first | omega | (unfold basQ; omega) | (unfold tpQ; omega))])); rw [hM1]; (repeat (rw [up1_ne (by first | omega | (unfold basQ; omega) | (unfold tpQ; omega))]))), k4 hI (by rw [hM2]; (repeat (rw [up1_ne (by first | omega | (unfold basQ; omega) | (unfold tpQ; omega))])); rw [hM1]; (repeat (rw [up1_ne (by first | omega | (unfold basQ; omega) | (unfold tpQ; omega))]))) (by rw [hM2]; (repeat (rw [up1_ne (by first | omega | (unfold basQ; omega) | (unfold tpQ; omega))])); rw [hM1]; (repeat (rw [up1_ne (by first | omega | (unfold basQ; omega) | (unfold tpQ; omega))]))) (by rw [hM2]; (repeat (rw [up1_ne (by first | omega | (unfold basQ; omega) | (unfold tpQ; omega))])); rw [hM1]; (repeat (rw [up1_ne (by first | omega | (unfold basQ; omega) | (unfold tpQ; omega))]))), k5 hI (by rw [hM2]; (repeat (rw [up1_ne (by first | omega | (unfold basQ; omega) | (unfold tpQ; omega))])); rw [hM1]; (repeat (rw [up1_ne (by first | omega | (unfold basQ; omega) | (unfold tpQ; omega))]))) (by rw [hM2]; exact congrFun e78 2), k6 hI (by rw [hM2]; (repeat (rw [up1_ne (by first | omega | (unfold basQ; omega) | (unfold tpQ; omega))])); rw [hM1]; (repeat (rw [up1_ne (by first | omega | (unfold basQ; omega) | (unfold tpQ; omega))]))) (by rw [hM2]; (repeat (rw [up1_ne (by first | omega | (unfold basQ; omega) | (unfold tpQ; omega))])); rw [hM1]; (repeat (rw [up1_ne (by first | omega | (unfold basQ; omega) | (unfold tpQ; omega))]))) (by rw [hM2]; exact congrFun e78 5) (by rw [hM2]; exact e82), (k7t hI (t := o) (by omega) (by omega) (fun i9 hi hn1 hn2 => by rw [hM2]; (repeat (rw [up1_ne (by first | omega | (unfold basQ; omega) | (unfold tpQ; omega))])); rw [hM1]; (repeat (rw [up1_ne (by omega)]))) (fun j hj => by rw [z92]) (fun j hj => by rw [z93]) (fun q q0 q1 hq k k0 k1 => by rw [z94]; unfold shI; rw [if_neg (by omega)]) (by
        refine ⟨by rw [zq, z92]; exact ho1, by rw [zq, z93]; exact ho2, fun k k0 k1 => ?_⟩
        rw [zr, z94, ht3, ho3]
        unfold cpy tpI shI
        by_cases q9 : j ≤ k ∧ k < j + n
        · rw [if_pos q9, if_pos (by omega)]; congr 1; omega
        · rw [if_neg q9, if_neg (by omega)]) (by rw [z92]; exact how1) (by rw [z93]; exact how2) (fun k k0 k1 => by
        rw [z94]
        unfold shI
        by_cases q9 : 60 * o + j ≤ 60 * o + k ∧ 60 * o + k < 60 * o + j + n
        · rw [if_pos q9]
          have q8 := htw.2.2 (i + (k - j)) (by omega) (by omega)
          rw [show 60 * t + i + (60 * o + k - 60 * o - j) = 60 * t + (i + (k - j)) by omega]; exact q8
        · rw [if_neg q9]; exact how.2.2 k k0 k1) (fun q9 => by rw [z92] at q9; rw [z93]; exact hoz q9))⟩
