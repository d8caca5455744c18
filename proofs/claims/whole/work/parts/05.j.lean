set_option maxRecDepth 20000 in
set_option maxHeartbeats 2000000 in
theorem img_3 {M : Mem} (hI : InvF M) : P3 (up1 (up1 (up1 (up1 (up1 (up1 (up1 (up1 (up1 (up1 (up1 (up1 (up1 (up1 (up1 (up1 (up1 (up1 (up1 (up1 (up1 M 23 (M 3)) 26 (M 6)) 25 (up (up (up (M 25) 1 (M 5 1)) 2 (M 5 2)) 3 (M 5 3))) 28 (M 8)) 27 (up (up (up (M 27) 1 (M 7 1)) 2 (M 7 2)) 3 (M 7 3))) 30 (M 10)) 29 (up (up (up (M 29) 1 (M 9 1)) 2 (M 9 2)) 3 (M 9 3))) 22 (up (M 22) 2 (M 2 2))) 31 (M 11)) 33 (M 13)) 34 (M 14)) 32 (up (M 32) 3 (M 12 3))) 36 (M 16)) 37 (M 17)) 35 (up (M 35) 3 (M 15 3))) 39 (M 19)) 40 (M 20)) 38 (up (M 38) 3 (M 18 3))) 0 (up (M 0) 2 1)) 78 (up (M 78) 2 1)) 80 (M 79)) := by
  obtain ⟨a1, a2, a3, ⟨b1, b2, b3, b4⟩, ⟨c1, c2, c3, c4⟩, ⟨d1, d2, d3, d4⟩⟩ := hI.1.1
  obtain ⟨⟨e1, e2, e3⟩, ⟨f1, f2, f3⟩, ⟨g1, g2, g3⟩⟩ := hI.2.1.1
  exact ⟨⟨⟨a1, fun k _ _ => congrFun a2 k, fun k _ _ => congrFun a3 k, ⟨b1, b2, b3, fun k _ _ => congrFun b4 k⟩, ⟨c1, c2, c3, fun k _ _ => congrFun c4 k⟩, ⟨d1, d2, d3, fun k _ _ => congrFun d4 k⟩⟩, hI.1.2⟩, ⟨⟨e1, fun k _ _ => congrFun e2 k, fun k _ _ => congrFun e3 k⟩, ⟨f1, fun k _ _ => congrFun f2 k, fun k _ _ => congrFun f3 k⟩, ⟨g1, fun k _ _ => congrFun g2 k, fun k _ _ => congrFun g3 k⟩⟩, hI.2.1.2⟩
set_option maxRecDepth 20000 in
set_option maxHeartbeats 2000000 in
theorem und_1 {M : Mem} (hI : InvF M) : P1 (up1 (up1 (up1 (up1 (up1 (up1 (up1 (up1 (up1 (up1 (up1 (up1 (up1 (up1 (up1 (up1 (up1 (up1 (up1 M 3 (M 23)) 6 (M 26)) 5 (up (up (up (M 5) 1 (M 25 1)) 2 (M 25 2)) 3 (M 25 3))) 8 (M 28)) 7 (up (up (up (M 7) 1 (M 27 1)) 2 (M 27 2)) 3 (M 27 3))) 10 (M 30)) 9 (up (up (up (M 9) 1 (M 29 1)) 2 (M 29 2)) 3 (M 29 3))) 2 (up (M 2) 2 (M 22 2))) 11 (M 31)) 13 (M 33)) 14 (M 34)) 12 (up (M 12) 3 (M 32 3))) 16 (M 36)) 17 (M 37)) 15 (up (M 15) 3 (M 35 3))) 19 (M 39)) 20 (M 40)) 18 (up (M 18) 3 (M 38 3))) 79 (M 80)) := by
  obtain ⟨a1, a2, a3, ⟨b1, b2, b3, b4⟩, ⟨c1, c2, c3, c4⟩, ⟨d1, d2, d3, d4⟩⟩ := hI.2.2.1.1.1
  obtain ⟨⟨e1, e2, e3⟩, ⟨f1, f2, f3⟩, ⟨g1, g2, g3⟩⟩ := hI.2.2.1.2.1
  exact ⟨⟨a1, fun k _ _ => congrFun a2 k, fun k _ _ => congrFun a3 k, ⟨b1, b2, b3, fun k _ _ => congrFun b4 k⟩, ⟨c1, c2, c3, fun k _ _ => congrFun c4 k⟩, ⟨d1, d2, d3, fun k _ _ => congrFun d4 k⟩⟩, hI.2.2.1.1.2⟩
set_option maxRecDepth 20000 in
set_option maxHeartbeats 2000000 in
theorem und_2 {M : Mem} (hI : InvF M) : P2 (up1 (up1 (up1 (up1 (up1 (up1 (up1 (up1 (up1 (up1 (up1 (up1 (up1 (up1 (up1 (up1 (up1 (up1 (up1 M 3 (M 23)) 6 (M 26)) 5 (up (up (up (M 5) 1 (M 25 1)) 2 (M 25 2)) 3 (M 25 3))) 8 (M 28)) 7 (up (up (up (M 7) 1 (M 27 1)) 2 (M 27 2)) 3 (M 27 3))) 10 (M 30)) 9 (up (up (up (M 9) 1 (M 29 1)) 2 (M 29 2)) 3 (M 29 3))) 2 (up (M 2) 2 (M 22 2))) 11 (M 31)) 13 (M 33)) 14 (M 34)) 12 (up (M 12) 3 (M 32 3))) 16 (M 36)) 17 (M 37)) 15 (up (M 15) 3 (M 35 3))) 19 (M 39)) 20 (M 40)) 18 (up (M 18) 3 (M 38 3))) 79 (M 80)) := by
  obtain ⟨a1, a2, a3, ⟨b1, b2, b3, b4⟩, ⟨c1, c2, c3, c4⟩, ⟨d1, d2, d3, d4⟩⟩ := hI.2.2.1.1.1
  obtain ⟨⟨e1, e2, e3⟩, ⟨f1, f2, f3⟩, ⟨g1, g2, g3⟩⟩ := hI.2.2.1.2.1
  exact ⟨⟨⟨e1, fun k _ _ => congrFun e2 k, fun k _ _ => congrFun e3 k⟩, ⟨f1, fun k _ _ => congrFun f2 k, fun k _ _ => congrFun f3 k⟩, ⟨g1, fun k _ _ => congrFun g2 k, fun k _ _ => congrFun g3 k⟩⟩, hI.2.2.1.2.2⟩
theorem pr_image {M M1 M2 : Mem} {r1 r2 : Option Value}  (hI : InvF M) (a1 : ((fun rv M' => rv = some (iv (M 2 2)) ∧ M' = (up1 (up1 (up1 (up1 (up1 (up1 (up1 (up1 (up1 (up1 (up1 (up1 (up1 (up1 (up1 (up1 (up1 (up1 (up1 M 23 (M 3)) 26 (M 6)) 25 (up (up (up (M 25) 1 (M 5 1)) 2 (M 5 2)) 3 (M 5 3))) 28 (M 8)) 27 (up (up (up (M 27) 1 (M 7 1)) 2 (M 7 2)) 3 (M 7 3))) 30 (M 10)) 29 (up (up (up (M 29) 1 (M 9 1)) 2 (M 9 2)) 3 (M 9 3))) 22 (up (M 22) 2 (M 2 2))) 31 (M 11)) 33 (M 13)) 34 (M 14)) 32 (up (M 32) 3 (M 12 3))) 36 (M 16)) 37 (M 17)) 35 (up (M 35) 3 (M 15 3))) 39 (M 19)) 40 (M 20)) 38 (up (M 38) 3 (M 18 3))) 0 (up (M 0) 2 1)))) r1 M1) (a2 : ((fun rv M' => rv = some (iv (M1 79 20)) ∧ M' = (up1 (up1 M1 78 (up (M1 78) 2 1)) 80 (M1 79)))) r2 M2) : ∃ x : Int, r1 = some (iv x) ∧ r2 = some (iv x) ∧ InvP M2 := by
  have h20 : M 2 2 = M 79 20 := hI.1.1.1
  have h3 : M 3 = M 79 := hI.1.1.2.1
  have h11 : M 11 = tdW (M 79) := hI.1.1.2.2.1
  have hw := hI.1.2
  have hm9 := hw.2.2.1
  obtain ⟨rfl, hM1⟩ := a1
  have e78 : M1 78 = M 78 := by rw [hM1]; (repeat (rw [up1_ne (by first | omega | (unfold basQ; omega) | (unfold tpQ; omega))]))
  have e79 : M1 79 = M 79 := by rw [hM1]; (repeat (rw [up1_ne (by first | omega | (unfold basQ; omega) | (unfold tpQ; omega))]))
  have e80 : M1 80 = M 80 := by rw [hM1]; (repeat (rw [up1_ne (by first | omega | (unfold basQ; omega) | (unfold tpQ; omega))]))
  have e82 : M1 82 = M 82 := by rw [hM1]; (repeat (rw [up1_ne (by first | omega | (unfold basQ; omega) | (unfold tpQ; omega))]))
  have e92 : M1 92 = M 92 := by rw [hM1]; (repeat (rw [up1_ne (by first | omega | (unfold basQ; omega) | (unfold tpQ; omega))]))
  have e93 : M1 93 = M 93 := by rw [hM1]; (repeat (rw [up1_ne (by first | omega | (unfold basQ; omega) | (unfold tpQ; omega))]))
  have e94 : M1 94 = M 94 := by rw [hM1]; (repeat (rw [up1_ne (by first | omega | (unfold basQ; omega) | (unfold tpQ; omega))]))
  try simp only [e78, e79, e80, e82, e92, e93, e94] at a2
  obtain ⟨rfl, hM2⟩ := a2
  refine ⟨_, some_iv (h20), rfl, ?_⟩
  exact ⟨k1 hI (fun i hi => by rw [hM2]; (repeat (rw [up1_ne (by first | omega | (unfold basQ; omega) | (unfold tpQ; omega))])); rw [hM1]; (repeat (rw [up1_ne (by first | omega | (unfold basQ; omega) | (unfold tpQ; omega))]))), k2 hI (fun i hi => by rw [hM2]; (repeat (rw [up1_ne (by first | omega | (unfold basQ; omega) | (unfold tpQ; omega))])); rw [hM1]; (repeat (rw [up1_ne (by first | omega | (unfold basQ; omega) | (unfold tpQ; omega))]))), (by rw [hM2, hM1]; exact img_3 hI), k4 hI (by rw [hM2, hM1]; rfl) (by rw [hM2, hM1]; rfl) (by rw [hM2, hM1]; rfl), (by rw [hM2, hM1]; exact ⟨rfl, (show (0 : Int) ≤ 1 by decide), (show (1 : Int) ≤ 1 by decide)⟩), k6 hI (by rw [hM2, hM1]; rfl) (by rw [hM2, hM1]; rfl) (by rw [hM2, hM1]; rfl) (by rw [hM2, hM1]; rfl), k7 hI (fun i hi => by rw [hM2]; (repeat (rw [up1_ne (by first | omega | (unfold basQ; omega) | (unfold tpQ; omega))])); rw [hM1]; (repeat (rw [up1_ne (by first | omega | (unfold basQ; omega) | (unfold tpQ; omega))])))⟩
theorem pr_undo {M M1 M2 : Mem} {r1 r2 : Option Value}  (hI : InvF M) (a1 : ((fun rv M' => (rv = some (iv (-3)) ∧ M' = M ∧ (M 0 2 = 0)) ∨ (rv = some (iv (M 22 2)) ∧ M' = (up1 (up1 (up1 (up1 (up1 (up1 (up1 (up1 (up1 (up1 (up1 (up1 (up1 (up1 (up1 (up1 (up1 (up1 M 3 (M 23)) 6 (M 26)) 5 (up (up (up (M 5) 1 (M 25 1)) 2 (M 25 2)) 3 (M 25 3))) 8 (M 28)) 7 (up (up (up (M 7) 1 (M 27 1)) 2 (M 27 2)) 3 (M 27 3))) 10 (M 30)) 9 (up (up (up (M 9) 1 (M 29 1)) 2 (M 29 2)) 3 (M 29 3))) 2 (up (M 2) 2 (M 22 2))) 11 (M 31)) 13 (M 33)) 14 (M 34)) 12 (up (M 12) 3 (M 32 3))) 16 (M 36)) 17 (M 37)) 15 (up (M 15) 3 (M 35 3))) 19 (M 39)) 20 (M 40)) 18 (up (M 18) 3 (M 38 3))) ∧ (M 0 2 = 1)))) r1 M1) (a2 : ((fun rv M' => (rv = some (iv (-3)) ∧ M' = M1 ∧ (M1 78 2 = 0)) ∨ (rv = some (iv (M1 80 20)) ∧ M' = (up1 M1 79 (M1 80)) ∧ (M1 78 2 = 1)))) r2 M2) : ∃ x : Int, r1 = some (iv x) ∧ r2 = some (iv x) ∧ InvP M2 := by
  have h20 : M 2 2 = M 79 20 := hI.1.1.1
  have h3 : M 3 = M 79 := hI.1.1.2.1
  have h11 : M 11 = tdW (M 79) := hI.1.1.2.2.1
  have hw := hI.1.2
  have hm9 := hw.2.2.1
  have hk9 : M 0 2 = M 78 2 := hI.2.2.2.2.1.1
  rcases a1 with ⟨rfl, hM1, xp0⟩ | ⟨rfl, hM1, xp0⟩
  · skip
    have e78 : M1 78 = M 78 := by rw [hM1]
    have e79 : M1 79 = M 79 := by rw [hM1]
    have e80 : M1 80 = M 80 := by rw [hM1]
    have e82 : M1 82 = M 82 := by rw [hM1]
    have e92 : M1 92 = M 92 := by rw [hM1]
    have e93 : M1 93 = M 93 := by rw [hM1]
    have e94 : M1 94 = M 94 := by rw [hM1]
    try simp only [e78, e79, e80, e82, e92, e93, e94] at a2
    rcases a2 with ⟨rfl, hM2, yp0⟩ | ⟨rfl, hM2, yp0⟩
    · skip
      refine ⟨_, some_iv (rfl), rfl, ?_⟩
      exact (kAll hI (fun i hi => by rw [hM2]; skip; rw [hM1]) (by rw [hM2]; exact congrFun e78 2) (by rw [hM2]; exact congrFun e78 5))
    · skip
      exfalso; omega
  · skip
    have e78 : M1 78 = M 78 := by rw [hM1]; (repeat (rw [up1_ne (by first | omega | (unfold basQ; omega) | (unfold tpQ; omega))]))
    have e79 : M1 79 = M 79 := by rw [hM1]; (repeat (rw [up1_ne (by first | omega | (unfold basQ; omega) | (unfold tpQ; omega))]))
    have e80 : M1 80 = M 80 := by rw [hM1]; (repeat (rw [up1_ne (by first | omega | (unfold basQ; omega) | (unfold tpQ; omega))]))
    have e82 : M1 82 = M 82 := by rw [hM1]; (repeat (rw [up1_ne (by first | omega | (unfold basQ; omega) | (unfold tpQ; omega))]))
    have e92 : M1 92 = M 92 := by rw [hM1]; (repeat (rw [up1_ne (by first | omega | (unfold basQ; omega) | (unfold tpQ; omega))]))
    have e93 : M1 93 = M 93 := by rw [hM1]; (repeat (rw [up1_ne (by first | omega | (unfold basQ; omega) | (unfold tpQ; omega))]))
    have e94 : M1 94 = M 94 := by rw [hM1]; (repeat (rw [up1_ne (by first | omega | (unfold basQ; omega) | (unfold tpQ; omega))]))
    try simp only [e78, e79, e80, e82, e92, e93, e94] at a2
    rcases a2 with ⟨rfl, hM2, yp0⟩ | ⟨rfl, hM2, yp0⟩
    · skip
      exfalso; omega
    · skip
      refine ⟨_, some_iv (hI.2.2.1.1.1.1), rfl, ?_⟩
      exact ⟨(by rw [hM2, hM1]; exact und_1 hI), (by rw [hM2, hM1]; exact und_2 hI), k3 hI (fun i hi => by rw [hM2]; (repeat (rw [up1_ne (by first | omega | (unfold basQ; omega) | (unfold tpQ; omega))])); rw [hM1]; (repeat (rw [up1_ne (by first | omega | (unfold basQ; omega) | (unfold tpQ; omega))]))), k4 hI (by rw [hM2, hM1]; rfl) (by rw [hM2, hM1]; rfl) (by rw [hM2, hM1]; rfl), k5 hI (by rw [hM2, hM1]; rfl) (by rw [hM2]; exact congrFun e78 2), k6 hI (by rw [hM2, hM1]; rfl) (by rw [hM2, hM1]; rfl) (by rw [hM2]; exact congrFun e78 5) (by rw [hM2, hM1]; rfl), k7 hI (fun i hi => by rw [hM2]; (repeat (rw [up1_ne (by first | omega | (unfold basQ; omega) | (unfold tpQ; omega))])); rw [hM1]; (repeat (rw [up1_ne (by first | omega | (unfold basQ; omega) | (unfold tpQ; omega))])))⟩
