/-- rows told by hand: another row of numbers, as before below 45 -/
theorem kRow {M M2 : Mem} {W' : Int → Int} (h : InvF M) (h79 : M2 79 = W') (hlo : ∀ j : Int, j < 45 → W' j = M 79 j) (hk : ∀ i : Nat, 2 ≤ i ∧ i ≤ 11 → M2 i = M i) (hr : RwP M2 2 W') (ho : RwOk W') (q3 : P3 M2) (q4 : F4 M2) (q5 : F5 M2) (q6 : P6 M2) (q7 : P7 M2) : InvP M2 := by
  refine ⟨?_, by unfold P2; rw [h79]; exact ⟨hr, ho⟩, q3, q4, q5, q6, q7⟩
  have hw := h.1.2
  obtain ⟨a1, a2, a3, b, c, d⟩ := h.1.1
  obtain ⟨hR, hT9, hm9, hq9, hz9⟩ := hw
  unfold P1
  rw [h79]
  have hB : ∀ (b : Int) (q : Nat), 0 ≤ b → b < 3 → q = 5 ∨ q = 7 ∨ q = 9 → BasF M q (M 79) b → BasP M2 q W' b := fun b q b0 b1 hq hb => BasP_far hb.P (hk q (by omega)) (hk (q + 1) (by omega)) (fun k k0 k1 => hlo _ (by omega))
  refine ⟨⟨by rw [hk 2 (by omega), hlo 20 (by omega)]; exact a1, fun k k0 k1 => by show M2 3 k = _; rw [hk 3 (by omega), hlo k (by omega)]; exact congrFun a2 k, fun k k0 k1 => ?_, hB 0 5 (by omega) (by omega) (by omega) b, hB 1 7 (by omega) (by omega) (by omega) c, hB 2 9 (by omega) (by omega) (by omega) d⟩, ?_⟩
  · show M2 11 k = _
    rw [hk 11 (by omega)]; unfold tdW; rw [hlo _ (by omega)]; exact congrFun a3 k
  · refine ⟨fun j j0 j1 => by rw [hlo j (by omega)]; exact hR j j0 j1, fun j j0 j1 => by unfold tdW; rw [hlo _ (by omega)]; exact hT9 j j0 j1, by rw [hlo 20 (by omega)]; exact hm9, fun d d0 d1 => ?_, fun d d0 d1 => ?_⟩
    · obtain ⟨q1, q2, q3, q4, q5⟩ := hq9 d d0 d1
      simp only [bsK, bsN] at q3 q4 q5 ⊢
      refine ⟨fun j j0 j1 => by unfold bsA; rw [hlo _ (by omega)]; exact q1 j j0 j1, ?_⟩
      rw [hlo _ (by omega), hlo (21 + 8 * d + 6) (by omega), hlo (21 + 8 * d + 7) (by omega)]
      exact ⟨q2, q3, q4, q5⟩
    · rw [hlo 20 (by omega)] at d1
      have q1 := hz9 d d0 d1
      unfold bsA at q1 ⊢
      rw [hlo _ (by omega)]; exact q1
theorem adW_low {W : Int → Int} {c a x y : Int} (h1 : 45 ≤ c) (h2 : 45 ≤ a ∧ 0 ≤ W c) : ∀ j : Int, j < 45 → adW W c a x y j = W j := by
  intro j hj
  unfold adW
  rw [up_ne (by omega), up_ne (by omega), up_ne (by omega)]
theorem adW_c {W : Int → Int} {c a x y : Int} : adW W c a x y c = W c + 1 := up_same _ _ _
theorem adW_o {W : Int → Int} {c a x y : Int} (j : Int) (h0 : j ≠ c) (h1 : j ≠ a + 2 * W c) (h2 : j ≠ a + 2 * W c + 1) : adW W c a x y j = W j := by
  unfold adW; rw [up_ne h0, up_ne h2, up_ne h1]
theorem adW_H {W : Int → Int} {c a x y : Int} (h : c < a) (h0 : 0 ≤ W c) (k : Int) (k0 : 0 ≤ k) : rwH (adW W c a x y) a k = up (rwH W a) (W c) x k := by
  unfold rwH
  by_cases e9 : k = W c
  · rw [e9, up_same]; unfold adW; rw [up_ne (by omega), up_ne (by omega), up_same]
  · rw [up_ne e9, adW_o _ (by omega) (by omega) (by omega)]
theorem adW_N {W : Int → Int} {c a x y : Int} (h : c < a) (h0 : 0 ≤ W c) (k : Int) (k0 : 0 ≤ k) : rwN (adW W c a x y) a k = up (rwN W a) (W c) y k := by
  unfold rwN
  by_cases e9 : k = W c
  · rw [e9, up_same]; unfold adW; rw [up_ne (by omega), up_same]
  · rw [up_ne e9, adW_o _ (by omega) (by omega) (by omega)]
theorem bdf_app {F G : Int → Int} {n hi v : Int} (h : bdf F n 0 hi) (hn : 0 ≤ n) (hv : 0 ≤ v ∧ v ≤ hi) (hG : ∀ k : Int, 0 ≤ k → G k = up F n v k) : bdf G (n + 1) 0 hi := by
  intro k k0 k1
  rw [hG k k0]
  by_cases e9 : k = n
  · rw [e9, up_same]; exact hv
  · rw [up_ne e9]; exact h k k0 (by omega)
theorem R3P_w {M : Mem} {q : Nat} {n n' : Int} {F F' N N' : Int → Int} (h : R3P M q n F N) (hn : n' = n) (hF : ∀ k : Int, 0 ≤ k → k < 8 → F' k = F k) (hN9 : ∀ k : Int, 0 ≤ k → k < 8 → N' k = N k) : R3P M q n' F' N' := by
  obtain ⟨a1, a2, a3⟩ := h
  exact ⟨by rw [hn]; exact a1, fun k k0 k1 => by rw [hF k k0 k1]; exact a2 k k0 k1, fun k k0 k1 => by rw [hN9 k k0 k1]; exact a3 k k0 k1⟩
theorem sn5_w {F F' : Int → Int} (h : ∀ k : Int, 0 ≤ k → k < 5 → F' k = F k) : ∀ k : Int, 0 ≤ k → k < 8 → sn5 F' k = sn5 F k := fun k k0 _ => by
  unfold sn5; split
  · rename_i x1; exact h k k0 x1
  · rfl
theorem rw12_0 {M : Mem} (hI : InvF M) : RwP (up1 (up1 M 12 (up (M 12) 3 0)) 79 (up (M 79) 45 0)) 2 (up (M 79) 45 0) := by
  have hr1 := hI.2.1.2.1.1
  have hr2 := hI.2.1.2.2.1.1
  have hr3 := hI.2.1.2.2.2.1
  exact ⟨⟨rfl, fun k k0 k1 => (hI.2.1.1.P.1.2.1 k k0 k1).trans ((sn5_w (F := rwH (M 79) 46) (F' := rwH (up (M 79) 45 0) 46) (fun k k0 k1 => by unfold rwH; rw [up_ne (by omega)])) k k0 k1).symm, fun k k0 k1 => (hI.2.1.1.P.1.2.2 k k0 k1).trans ((sn5_w (F := rwN (M 79) 46) (F' := rwN (up (M 79) 45 0) 46) (fun k k0 k1 => by unfold rwN; rw [up_ne (by omega)])) k k0 k1).symm⟩,
    R3P_eq (R3P_w hI.2.1.1.P.2.1 (up_ne (by decide)) (fun k k0 k1 => by unfold rwH; rw [up_ne (by omega)]) (fun k k0 k1 => by unfold rwN; rw [up_ne (by omega)])) rfl rfl rfl,
    R3P_eq (R3P_w hI.2.1.1.P.2.2 (up_ne (by decide)) (fun k k0 k1 => by unfold rwH; rw [up_ne (by omega)]) (fun k k0 k1 => by unfold rwN; rw [up_ne (by omega)])) rfl rfl rfl⟩
theorem rw12_0k {M : Mem} (hI : InvF M) : RwOk (up (M 79) 45 0) := by
  have hr1 := hI.2.1.2.1.1
  have hr2 := hI.2.1.2.2.1.1
  have hr3 := hI.2.1.2.2.2.1
  exact ⟨⟨by rw [up_same]; decide, fun k k0 k1 => by rw [up_same] at k1; omega, fun k k0 k1 => by rw [up_same] at k1; omega⟩,
    ⟨by rw [up_ne (by decide)]; exact hI.2.1.2.2.1.1, fun r r0 r1 => by
    rw [up_ne (by decide)] at r1
    rw [up_ne (show 57 + 2 * r ≠ 45 by omega), up_ne (show 58 + 2 * r ≠ 45 by omega), up_ne (show (20 : Int) ≠ 45 by decide)]; exact hI.2.1.2.2.1.2 r r0 r1⟩,
    ⟨by rw [up_ne (by decide)]; exact hI.2.1.2.2.2.1, fun k k0 k1 => by
    rw [up_ne (by decide)] at k1
    unfold rwH; rw [up_ne (by omega)]; exact hI.2.1.2.2.2.2.1 k k0 k1, fun k k0 k1 => by
    rw [up_ne (by decide)] at k1
    unfold rwN; rw [up_ne (by omega)]; exact hI.2.1.2.2.2.2.2 k k0 k1⟩⟩
theorem rw12_1 {M : Mem} (hI : InvF M) {x y : Int} (hlt : M 79 45 < 5) : RwP (up1 (up1 (up1 (up1 M 13 (up (M 13) (M 79 45) x)) 14 (up (M 14) (M 79 45) y)) 12 (up (M 12) 3 (M 79 45 + 1))) 79 (adW (M 79) 45 46 x y)) 2 (adW (M 79) 45 46 x y) := by
  have hr1 := hI.2.1.2.1.1
  have hr2 := hI.2.1.2.2.1.1
  have hr3 := hI.2.1.2.2.2.1
  exact ⟨⟨rfl, fun k k0 k1 => by
      show up (M 13) (M 79 45) x k = sn5 (rwH (adW (M 79) 45 46 x y) 46) k
      have e9 : M 13 = sn5 (rwH (M 79) 46) := hI.2.1.1.1.2.1
      rw [e9]; unfold sn5
      by_cases x5 : k < 5
      · rw [if_pos x5, adW_H (by decide) (by omega) k k0]
        by_cases x6 : k = M 79 45
        · rw [x6, up_same, up_same]
        · rw [up_ne x6, up_ne x6, if_pos x5]
      · rw [if_neg x5, up_ne (by omega), if_neg x5], fun k k0 k1 => by
      show up (M 14) (M 79 45) y k = sn5 (rwN (adW (M 79) 45 46 x y) 46) k
      have e9 : M 14 = sn5 (rwN (M 79) 46) := hI.2.1.1.1.2.2
      rw [e9]; unfold sn5
      by_cases x5 : k < 5
      · rw [if_pos x5, adW_N (by decide) (by omega) k k0]
        by_cases x6 : k = M 79 45
        · rw [x6, up_same, up_same]
        · rw [up_ne x6, up_ne x6, if_pos x5]
      · rw [if_neg x5, up_ne (by omega), if_neg x5]⟩,
    R3P_eq (R3P_w hI.2.1.1.P.2.1 (adW_o _ (by omega) (by omega) (by omega)) (fun k k0 k1 => by unfold rwH; rw [adW_o _ (by omega) (by omega) (by omega)]) (fun k k0 k1 => by unfold rwN; rw [adW_o _ (by omega) (by omega) (by omega)])) rfl rfl rfl,
    R3P_eq (R3P_w hI.2.1.1.P.2.2 (adW_o _ (by omega) (by omega) (by omega)) (fun k k0 k1 => by unfold rwH; rw [adW_o _ (by omega) (by omega) (by omega)]) (fun k k0 k1 => by unfold rwN; rw [adW_o _ (by omega) (by omega) (by omega)])) rfl rfl rfl⟩
theorem rw12_1k {M : Mem} (hI : InvF M) {x y : Int} (hlt : M 79 45 < 5) (hv : 0 ≤ x ∧ x ≤ 29) (hu : 0 ≤ y ∧ y ≤ 9999) : RwOk (adW (M 79) 45 46 x y) := by
  have hr1 := hI.2.1.2.1.1
  have hr2 := hI.2.1.2.2.1.1
  have hr3 := hI.2.1.2.2.2.1
  exact ⟨⟨by rw [adW_c]; omega, by rw [adW_c]; exact bdf_app hI.2.1.2.1.2.1 (by omega) hv (adW_H (by decide) (by omega)), by rw [adW_c]; exact bdf_app hI.2.1.2.1.2.2 (by omega) hu (adW_N (by decide) (by omega))⟩,
    ⟨by rw [adW_o _ (by omega) (by omega) (by omega)]; exact hI.2.1.2.2.1.1, fun r r0 r1 => by
    rw [adW_o _ (by omega) (by omega) (by omega)] at r1
    rw [adW_o (57 + 2 * r) (by omega) (by omega) (by omega), adW_o (58 + 2 * r) (by omega) (by omega) (by omega), adW_o 20 (by omega) (by omega) (by omega)]; exact hI.2.1.2.2.1.2 r r0 r1⟩,
    ⟨by rw [adW_o _ (by omega) (by omega) (by omega)]; exact hI.2.1.2.2.2.1, fun k k0 k1 => by
    rw [adW_o _ (by omega) (by omega) (by omega)] at k1
    unfold rwH; rw [adW_o _ (by omega) (by omega) (by omega)]; exact hI.2.1.2.2.2.2.1 k k0 k1, fun k k0 k1 => by
    rw [adW_o _ (by omega) (by omega) (by omega)] at k1
    unfold rwN; rw [adW_o _ (by omega) (by omega) (by omega)]; exact hI.2.1.2.2.2.2.2 k k0 k1⟩⟩
theorem rw15_0 {M : Mem} (hI : InvF M) : RwP (up1 (up1 M 15 (up (M 15) 3 0)) 79 (up (M 79) 56 0)) 2 (up (M 79) 56 0) := by
  have hr1 := hI.2.1.2.1.1
  have hr2 := hI.2.1.2.2.1.1
  have hr3 := hI.2.1.2.2.2.1
  exact ⟨R3P_eq (R3P_w hI.2.1.1.P.1 (up_ne (by decide)) (sn5_w (F := rwH (M 79) 46) (F' := rwH (up (M 79) 56 0) 46) (fun k k0 k1 => by unfold rwH; rw [up_ne (by omega)])) (sn5_w (F := rwN (M 79) 46) (F' := rwN (up (M 79) 56 0) 46) (fun k k0 k1 => by unfold rwN; rw [up_ne (by omega)]))) rfl rfl rfl,
    ⟨rfl, fun k k0 k1 => (hI.2.1.1.P.2.1.2.1 k k0 k1).trans ((show ∀ k : Int, 0 ≤ k → k < 8 → rwH (up (M 79) 56 0) 57 k = rwH (M 79) 57 k from (fun k k0 k1 => by unfold rwH; rw [up_ne (by omega)])) k k0 k1).symm, fun k k0 k1 => (hI.2.1.1.P.2.1.2.2 k k0 k1).trans ((show ∀ k : Int, 0 ≤ k → k < 8 → rwN (up (M 79) 56 0) 57 k = rwN (M 79) 57 k from (fun k k0 k1 => by unfold rwN; rw [up_ne (by omega)])) k k0 k1).symm⟩,
    R3P_eq (R3P_w hI.2.1.1.P.2.2 (up_ne (by decide)) (fun k k0 k1 => by unfold rwH; rw [up_ne (by omega)]) (fun k k0 k1 => by unfold rwN; rw [up_ne (by omega)])) rfl rfl rfl⟩
theorem rw15_0k {M : Mem} (hI : InvF M) : RwOk (up (M 79) 56 0) := by
  have hr1 := hI.2.1.2.1.1
  have hr2 := hI.2.1.2.2.1.1
  have hr3 := hI.2.1.2.2.2.1
  exact ⟨⟨by rw [up_ne (by decide)]; exact hI.2.1.2.1.1, fun k k0 k1 => by
    rw [up_ne (by decide)] at k1
    unfold rwH; rw [up_ne (by omega)]; exact hI.2.1.2.1.2.1 k k0 k1, fun k k0 k1 => by
    rw [up_ne (by decide)] at k1
    unfold rwN; rw [up_ne (by omega)]; exact hI.2.1.2.1.2.2 k k0 k1⟩,
    ⟨by rw [up_same]; decide, fun r r0 r1 => by rw [up_same] at r1; omega⟩,
    ⟨by rw [up_ne (by decide)]; exact hI.2.1.2.2.2.1, fun k k0 k1 => by
    rw [up_ne (by decide)] at k1
    unfold rwH; rw [up_ne (by omega)]; exact hI.2.1.2.2.2.2.1 k k0 k1, fun k k0 k1 => by
    rw [up_ne (by decide)] at k1
    unfold rwN; rw [up_ne (by omega)]; exact hI.2.1.2.2.2.2.2 k k0 k1⟩⟩
theorem rw15_1 {M : Mem} (hI : InvF M) {x y : Int} (hlt : M 79 56 < 8) : RwP (up1 (up1 (up1 (up1 M 16 (up (M 16) (M 79 56) x)) 17 (up (M 17) (M 79 56) y)) 15 (up (M 15) 3 (M 79 56 + 1))) 79 (adW (M 79) 56 57 x y)) 2 (adW (M 79) 56 57 x y) := by
  have hr1 := hI.2.1.2.1.1
  have hr2 := hI.2.1.2.2.1.1
  have hr3 := hI.2.1.2.2.2.1
  exact ⟨R3P_eq (R3P_w hI.2.1.1.P.1 (adW_o _ (by omega) (by omega) (by omega)) (sn5_w (F := rwH (M 79) 46) (F' := rwH (adW (M 79) 56 57 x y) 46) (fun k k0 k1 => by unfold rwH; rw [adW_o _ (by omega) (by omega) (by omega)])) (sn5_w (F := rwN (M 79) 46) (F' := rwN (adW (M 79) 56 57 x y) 46) (fun k k0 k1 => by unfold rwN; rw [adW_o _ (by omega) (by omega) (by omega)]))) rfl rfl rfl,
    ⟨rfl, fun k k0 k1 => by
      show up (M 16) (M 79 56) x k = rwH (adW (M 79) 56 57 x y) 57 k
      have e9 : M 16 = rwH (M 79) 57 := hI.2.1.1.2.1.2.1
      rw [e9, adW_H (by decide) (by omega) k k0], fun k k0 k1 => by
      show up (M 17) (M 79 56) y k = rwN (adW (M 79) 56 57 x y) 57 k
      have e9 : M 17 = rwN (M 79) 57 := hI.2.1.1.2.1.2.2
      rw [e9, adW_N (by decide) (by omega) k k0]⟩,
    R3P_eq (R3P_w hI.2.1.1.P.2.2 (adW_o _ (by omega) (by omega) (by omega)) (fun k k0 k1 => by unfold rwH; rw [adW_o _ (by omega) (by omega) (by omega)]) (fun k k0 k1 => by unfold rwN; rw [adW_o _ (by omega) (by omega) (by omega)])) rfl rfl rfl⟩
theorem rw15_1k {M : Mem} (hI : InvF M) {x y : Int} (hlt : M 79 56 < 8) (hv1 : 0 ≤ x ∧ x ≤ 3) (hv2 : 0 ≤ y ∧ y ≤ 7) (hv3 : x = 2 → y < M 79 20) : RwOk (adW (M 79) 56 57 x y) := by
  have hv : (0 ≤ x ∧ x ≤ 3) ∧ (0 ≤ y ∧ y ≤ 7) := ⟨hv1, hv2⟩
  have hr1 := hI.2.1.2.1.1
  have hr2 := hI.2.1.2.2.1.1
  have hr3 := hI.2.1.2.2.2.1
  exact ⟨⟨by rw [adW_o _ (by omega) (by omega) (by omega)]; exact hI.2.1.2.1.1, fun k k0 k1 => by
    rw [adW_o _ (by omega) (by omega) (by omega)] at k1
    unfold rwH; rw [adW_o _ (by omega) (by omega) (by omega)]; exact hI.2.1.2.1.2.1 k k0 k1, fun k k0 k1 => by
    rw [adW_o _ (by omega) (by omega) (by omega)] at k1
    unfold rwN; rw [adW_o _ (by omega) (by omega) (by omega)]; exact hI.2.1.2.1.2.2 k k0 k1⟩,
    ⟨by rw [adW_c]; omega, fun r r0 r1 => by
    rw [adW_c] at r1
    have e1 := adW_H (W := M 79) (c := 56) (a := 57) (x := x) (y := y) (by decide) (by omega) r r0
    have e2 := adW_N (W := M 79) (c := 56) (a := 57) (x := x) (y := y) (by decide) (by omega) r r0
    have e3 : rwH (adW (M 79) 56 57 x y) 57 r = adW (M 79) 56 57 x y (57 + 2 * r) := rfl
    have e4 : rwN (adW (M 79) 56 57 x y) 57 r = adW (M 79) 56 57 x y (58 + 2 * r) := by unfold rwN; congr 1; omega
    have e5 : adW (M 79) 56 57 x y 20 = M 79 20 := adW_o _ (by omega) (by omega) (by omega)
    rw [← e3, ← e4, e5, e1, e2]
    by_cases x6 : r = M 79 56
    · rw [x6, up_same, up_same]; exact ⟨hv.1, hv.2, hv3⟩
    · rw [up_ne x6, up_ne x6]
      have q9 := hI.2.1.2.2.1.2 r r0 (by omega)
      have e6 : rwN (M 79) 57 r = M 79 (58 + 2 * r) := by unfold rwN; congr 1; omega
      rw [e6]; exact q9⟩,
    ⟨by rw [adW_o _ (by omega) (by omega) (by omega)]; exact hI.2.1.2.2.2.1, fun k k0 k1 => by
    rw [adW_o _ (by omega) (by omega) (by omega)] at k1
    unfold rwH; rw [adW_o _ (by omega) (by omega) (by omega)]; exact hI.2.1.2.2.2.2.1 k k0 k1, fun k k0 k1 => by
    rw [adW_o _ (by omega) (by omega) (by omega)] at k1
    unfold rwN; rw [adW_o _ (by omega) (by omega) (by omega)]; exact hI.2.1.2.2.2.2.2 k k0 k1⟩⟩
theorem rw18_0 {M : Mem} (hI : InvF M) : RwP (up1 (up1 M 18 (up (M 18) 3 0)) 79 (up (M 79) 73 0)) 2 (up (M 79) 73 0) := by
  have hr1 := hI.2.1.2.1.1
  have hr2 := hI.2.1.2.2.1.1
  have hr3 := hI.2.1.2.2.2.1
  exact ⟨R3P_eq (R3P_w hI.2.1.1.P.1 (up_ne (by decide)) (sn5_w (F := rwH (M 79) 46) (F' := rwH (up (M 79) 73 0) 46) (fun k k0 k1 => by unfold rwH; rw [up_ne (by omega)])) (sn5_w (F := rwN (M 79) 46) (F' := rwN (up (M 79) 73 0) 46) (fun k k0 k1 => by unfold rwN; rw [up_ne (by omega)]))) rfl rfl rfl,
    R3P_eq (R3P_w hI.2.1.1.P.2.1 (up_ne (by decide)) (fun k k0 k1 => by unfold rwH; rw [up_ne (by omega)]) (fun k k0 k1 => by unfold rwN; rw [up_ne (by omega)])) rfl rfl rfl,
    ⟨rfl, fun k k0 k1 => (hI.2.1.1.P.2.2.2.1 k k0 k1).trans ((show ∀ k : Int, 0 ≤ k → k < 8 → rwH (up (M 79) 73 0) 74 k = rwH (M 79) 74 k from (fun k k0 k1 => by unfold rwH; rw [up_ne (by omega)])) k k0 k1).symm, fun k k0 k1 => (hI.2.1.1.P.2.2.2.2 k k0 k1).trans ((show ∀ k : Int, 0 ≤ k → k < 8 → rwN (up (M 79) 73 0) 74 k = rwN (M 79) 74 k from (fun k k0 k1 => by unfold rwN; rw [up_ne (by omega)])) k k0 k1).symm⟩⟩
theorem rw18_0k {M : Mem} (hI : InvF M) : RwOk (up (M 79) 73 0) := by
  have hr1 := hI.2.1.2.1.1
  have hr2 := hI.2.1.2.2.1.1
  have hr3 := hI.2.1.2.2.2.1
  exact ⟨⟨by rw [up_ne (by decide)]; exact hI.2.1.2.1.1, fun k k0 k1 => by
    rw [up_ne (by decide)] at k1
    unfold rwH; rw [up_ne (by omega)]; exact hI.2.1.2.1.2.1 k k0 k1, fun k k0 k1 => by
    rw [up_ne (by decide)] at k1
    unfold rwN; rw [up_ne (by omega)]; exact hI.2.1.2.1.2.2 k k0 k1⟩,
    ⟨by rw [up_ne (by decide)]; exact hI.2.1.2.2.1.1, fun r r0 r1 => by
    rw [up_ne (by decide)] at r1
    rw [up_ne (show 57 + 2 * r ≠ 73 by omega), up_ne (show 58 + 2 * r ≠ 73 by omega), up_ne (show (20 : Int) ≠ 73 by decide)]; exact hI.2.1.2.2.1.2 r r0 r1⟩,
    ⟨by rw [up_same]; decide, fun k k0 k1 => by rw [up_same] at k1; omega, fun k k0 k1 => by rw [up_same] at k1; omega⟩⟩
theorem rw18_1 {M : Mem} (hI : InvF M) {x y : Int} (hlt : M 79 73 < 8) : RwP (up1 (up1 (up1 (up1 M 19 (up (M 19) (M 79 73) x)) 20 (up (M 20) (M 79 73) y)) 18 (up (M 18) 3 (M 79 73 + 1))) 79 (adW (M 79) 73 74 x y)) 2 (adW (M 79) 73 74 x y) := by
  have hr1 := hI.2.1.2.1.1
  have hr2 := hI.2.1.2.2.1.1
  have hr3 := hI.2.1.2.2.2.1
  exact ⟨R3P_eq (R3P_w hI.2.1.1.P.1 (adW_o _ (by omega) (by omega) (by omega)) (sn5_w (F := rwH (M 79) 46) (F' := rwH (adW (M 79) 73 74 x y) 46) (fun k k0 k1 => by unfold rwH; rw [adW_o _ (by omega) (by omega) (by omega)])) (sn5_w (F := rwN (M 79) 46) (F' := rwN (adW (M 79) 73 74 x y) 46) (fun k k0 k1 => by unfold rwN; rw [adW_o _ (by omega) (by omega) (by omega)]))) rfl rfl rfl,
    R3P_eq (R3P_w hI.2.1.1.P.2.1 (adW_o _ (by omega) (by omega) (by omega)) (fun k k0 k1 => by unfold rwH; rw [adW_o _ (by omega) (by omega) (by omega)]) (fun k k0 k1 => by unfold rwN; rw [adW_o _ (by omega) (by omega) (by omega)])) rfl rfl rfl,
    ⟨rfl, fun k k0 k1 => by
      show up (M 19) (M 79 73) x k = rwH (adW (M 79) 73 74 x y) 74 k
      have e9 : M 19 = rwH (M 79) 74 := hI.2.1.1.2.2.2.1
      rw [e9, adW_H (by decide) (by omega) k k0], fun k k0 k1 => by
      show up (M 20) (M 79 73) y k = rwN (adW (M 79) 73 74 x y) 74 k
      have e9 : M 20 = rwN (M 79) 74 := hI.2.1.1.2.2.2.2
      rw [e9, adW_N (by decide) (by omega) k k0]⟩⟩
theorem rw18_1k {M : Mem} (hI : InvF M) {x y : Int} (hlt : M 79 73 < 8) (hv : 0 ≤ x ∧ x ≤ 29) (hu : 0 ≤ y ∧ y ≤ 9999) : RwOk (adW (M 79) 73 74 x y) := by
  have hr1 := hI.2.1.2.1.1
  have hr2 := hI.2.1.2.2.1.1
  have hr3 := hI.2.1.2.2.2.1
  exact ⟨⟨by rw [adW_o _ (by omega) (by omega) (by omega)]; exact hI.2.1.2.1.1, fun k k0 k1 => by
    rw [adW_o _ (by omega) (by omega) (by omega)] at k1
    unfold rwH; rw [adW_o _ (by omega) (by omega) (by omega)]; exact hI.2.1.2.1.2.1 k k0 k1, fun k k0 k1 => by
    rw [adW_o _ (by omega) (by omega) (by omega)] at k1
    unfold rwN; rw [adW_o _ (by omega) (by omega) (by omega)]; exact hI.2.1.2.1.2.2 k k0 k1⟩,
    ⟨by rw [adW_o _ (by omega) (by omega) (by omega)]; exact hI.2.1.2.2.1.1, fun r r0 r1 => by
    rw [adW_o _ (by omega) (by omega) (by omega)] at r1
    rw [adW_o (57 + 2 * r) (by omega) (by omega) (by omega), adW_o (58 + 2 * r) (by omega) (by omega) (by omega), adW_o 20 (by omega) (by omega) (by omega)]; exact hI.2.1.2.2.1.2 r r0 r1⟩,
    ⟨by rw [adW_c]; omega, by rw [adW_c]; exact bdf_app hI.2.1.2.2.2.2.1 (by omega) hv (adW_H (by decide) (by omega)), by rw [adW_c]; exact bdf_app hI.2.1.2.2.2.2.2 (by omega) hu (adW_N (by decide) (by omega))⟩⟩
