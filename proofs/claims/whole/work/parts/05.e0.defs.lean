/-! the law's invariant: the class against the reference; F: as functions, P: pointwise -/
def sn5 (F : Int → Int) : Int → Int := fun k => if k < 5 then F k else 0
def RwF (M : Mem) (s : Nat) (W : Int → Int) : Prop := (M (s + 10) 3 = W 45 ∧ M (s + 11) = sn5 (rwH W 46) ∧ M (s + 12) = sn5 (rwN W 46)) ∧ (M (s + 13) 3 = W 56 ∧ M (s + 14) = rwH W 57 ∧ M (s + 15) = rwN W 57) ∧ (M (s + 16) 3 = W 73 ∧ M (s + 17) = rwH W 74 ∧ M (s + 18) = rwN W 74)
def R3P (M : Mem) (q : Nat) (n : Int) (F N : Int → Int) : Prop := M q 3 = n ∧ (∀ k : Int, 0 ≤ k → k < 8 → M (q + 1) k = F k) ∧ ∀ k : Int, 0 ≤ k → k < 8 → M (q + 2) k = N k
def RwP (M : Mem) (s : Nat) (W : Int → Int) : Prop := R3P M (s + 10) (W 45) (sn5 (rwH W 46)) (sn5 (rwN W 46)) ∧ R3P M (s + 13) (W 56) (rwH W 57) (rwN W 57) ∧ R3P M (s + 16) (W 73) (rwH W 74) (rwN W 74)
theorem RwF.P {M : Mem} {s : Nat} {W : Int → Int} (h : RwF M s W) : RwP M s W := by
  obtain ⟨⟨a1, a2, a3⟩, ⟨b1, b2, b3⟩, ⟨c1, c2, c3⟩⟩ := h
  exact ⟨⟨a1, fun k _ _ => by rw [← a2], fun k _ _ => by rw [← a3]⟩, ⟨b1, fun k _ _ => by rw [← b2], fun k _ _ => by rw [← b3]⟩, ⟨c1, fun k _ _ => by rw [← c2], fun k _ _ => by rw [← c3]⟩⟩
def RwOk (W : Int → Int) : Prop := ((0 ≤ W 45 ∧ W 45 ≤ 5) ∧ bdf (rwH W 46) (W 45) 0 29 ∧ bdf (rwN W 46) (W 45) 0 9999) ∧ ((0 ≤ W 56 ∧ W 56 ≤ 8) ∧ ∀ r : Int, 0 ≤ r → r < W 56 → (0 ≤ W (57 + 2 * r) ∧ W (57 + 2 * r) ≤ 3) ∧ (0 ≤ W (58 + 2 * r) ∧ W (58 + 2 * r) ≤ 7) ∧ (W (57 + 2 * r) = 2 → W (58 + 2 * r) < W 20)) ∧ ((0 ≤ W 73 ∧ W 73 ≤ 8) ∧ bdf (rwH W 74) (W 73) 0 29 ∧ bdf (rwN W 74) (W 73) 0 9999)
def TpF (M : Mem) (q : Nat) (t : Int) : Prop := M q 1 = M 92 t ∧ M q 2 = M 93 t ∧ M (q + 1) = tpI (M 94) t
def TpP (M : Mem) (q : Nat) (t : Int) : Prop := M q 1 = M 92 t ∧ M q 2 = M 93 t ∧ ∀ k : Int, 0 ≤ k → k < 60 → M (q + 1) k = tpI (M 94) t k
theorem TpF.P {M : Mem} {q : Nat} {t : Int} (h : TpF M q t) : TpP M q t := ⟨h.1, h.2.1, fun k _ _ => by rw [h.2.2]⟩
def TpV (S Z I : Int → Int) : Prop := TpW S Z I ∧ ∀ t : Int, 0 ≤ t → t < 6 → S t = -1 → Z t = 0
def F1 (M : Mem) : Prop := RelF M 2 (M 79) ∧ WOk (M 79)
def F2 (M : Mem) : Prop := RwF M 2 (M 79) ∧ RwOk (M 79)
def F3 (M : Mem) : Prop := (RelF M 22 (M 80) ∧ WOk (M 80)) ∧ RwF M 22 (M 80) ∧ RwOk (M 80)
def F4 (M : Mem) : Prop := M 12 2 = 5 ∧ M 15 2 = 8 ∧ M 18 2 = 8
def F5 (M : Mem) : Prop := M 0 2 = M 78 2 ∧ 0 ≤ M 78 2 ∧ M 78 2 ≤ 1
def F6 (M : Mem) : Prop := (M 62 1 = M 78 5 ∧ M 63 = M 82) ∧ (0 ≤ M 78 5 ∧ M 78 5 ≤ 100) ∧ bdf (M 82) 100 0 127
def F7 (M : Mem) : Prop := (TpF M 66 0 ∧ TpF M 68 1 ∧ TpF M 70 2 ∧ TpF M 72 3 ∧ TpF M 74 4 ∧ TpF M 76 5) ∧ TpV (M 92) (M 93) (M 94)
def P1 (M : Mem) : Prop := RelP M 2 (M 79) ∧ WOk (M 79)
def P2 (M : Mem) : Prop := RwP M 2 (M 79) ∧ RwOk (M 79)
def P3 (M : Mem) : Prop := (RelP M 22 (M 80) ∧ WOk (M 80)) ∧ RwP M 22 (M 80) ∧ RwOk (M 80)
def P6 (M : Mem) : Prop := (M 62 1 = M 78 5 ∧ ∀ k : Int, 0 ≤ k → k < 100 → M 63 k = M 82 k) ∧ (0 ≤ M 78 5 ∧ M 78 5 ≤ 100) ∧ bdf (M 82) 100 0 127
def P7 (M : Mem) : Prop := (TpP M 66 0 ∧ TpP M 68 1 ∧ TpP M 70 2 ∧ TpP M 72 3 ∧ TpP M 74 4 ∧ TpP M 76 5) ∧ TpV (M 92) (M 93) (M 94)
def InvF (M : Mem) : Prop := F1 M ∧ F2 M ∧ F3 M ∧ F4 M ∧ F5 M ∧ F6 M ∧ F7 M
def InvP (M : Mem) : Prop := P1 M ∧ P2 M ∧ P3 M ∧ F4 M ∧ F5 M ∧ P6 M ∧ P7 M
/-! cells that stay -/
theorem BasP_eq {M M2 : Mem} {q : Nat} {Q : Int → Int} {b : Int} (h : BasP M q Q b) (h1 : M2 q = M q) (h2 : M2 (q + 1) = M (q + 1)) : BasP M2 q Q b := by
  unfold BasP at *; rw [h1, h2]; exact h
theorem RelP_eq {M M2 : Mem} {s : Nat} {Q : Int → Int} (h : RelP M s Q) (hk : ∀ i : Nat, s ≤ i → i ≤ s + 9 → M2 i = M i) : RelP M2 s Q := by
  obtain ⟨a1, a2, a3, b, c, d⟩ := h
  exact ⟨by rw [hk s (by omega) (by omega)]; exact a1, by rw [hk (s + 1) (by omega) (by omega)]; exact a2, by rw [hk (s + 9) (by omega) (by omega)]; exact a3,
    BasP_eq b (hk _ (by omega) (by omega)) (hk _ (by omega) (by omega)), BasP_eq c (hk _ (by omega) (by omega)) (hk _ (by omega) (by omega)), BasP_eq d (hk _ (by omega) (by omega)) (hk _ (by omega) (by omega))⟩
theorem R3P_eq {M M2 : Mem} {q : Nat} {n : Int} {F N : Int → Int} (h : R3P M q n F N) (h0 : M2 q = M q) (h1 : M2 (q + 1) = M (q + 1)) (h2 : M2 (q + 2) = M (q + 2)) : R3P M2 q n F N := by
  unfold R3P at *; rw [h0, h1, h2]; exact h
theorem RwP_eq {M M2 : Mem} {s : Nat} {W : Int → Int} (h : RwP M s W) (hk : ∀ i : Nat, s + 10 ≤ i → i ≤ s + 18 → M2 i = M i) : RwP M2 s W := by
  obtain ⟨a, b, c⟩ := h
  exact ⟨R3P_eq a (hk _ (by omega) (by omega)) (hk _ (by omega) (by omega)) (hk _ (by omega) (by omega)), R3P_eq b (hk _ (by omega) (by omega)) (hk _ (by omega) (by omega)) (hk _ (by omega) (by omega)), R3P_eq c (hk _ (by omega) (by omega)) (hk _ (by omega) (by omega)) (hk _ (by omega) (by omega))⟩
theorem TpP_eq {M M2 : Mem} {q : Nat} {t : Int} (h : TpP M q t) (h1 : M2 q = M q) (h2 : M2 (q + 1) = M (q + 1)) (h3 : M2 92 = M 92) (h4 : M2 93 = M 93) (h5 : M2 94 = M 94) : TpP M2 q t := by
  unfold TpP at *; rw [h1, h2, h3, h4, h5]; exact h
theorem k1 {M M2 : Mem} (h : InvF M) (hk : ∀ i : Nat, (2 ≤ i ∧ i ≤ 11) ∨ i = 79 → M2 i = M i) : P1 M2 := by
  unfold P1
  rw [hk 79 (by omega)]
  exact ⟨RelP_eq h.1.1.P (fun i h1 h2 => hk i (by omega)), h.1.2⟩
theorem k2 {M M2 : Mem} (h : InvF M) (hk : ∀ i : Nat, (12 ≤ i ∧ i ≤ 20) ∨ i = 79 → M2 i = M i) : P2 M2 := by
  unfold P2
  rw [hk 79 (by omega)]
  exact ⟨RwP_eq h.2.1.1.P (fun i h1 h2 => hk i (by omega)), h.2.1.2⟩
/-- the row of numbers may be another below 45 -/
theorem RwP_low {M : Mem} {s : Nat} {W W' : Int → Int} (h : RwP M s W) (hW : ∀ j : Int, 45 ≤ j → W' j = W j) : RwP M s W' := by
  obtain ⟨⟨a1, a2, a3⟩, ⟨b1, b2, b3⟩, ⟨c1, c2, c3⟩⟩ := h
  have s5 : ∀ F F' : Int → Int, (∀ k : Int, 0 ≤ k → F' k = F k) → ∀ k : Int, 0 ≤ k → sn5 F' k = sn5 F k := fun F F' q k k0 => by
    unfold sn5; split
    · exact q k k0
    · rfl
  refine ⟨⟨by rw [hW 45 (by decide)]; exact a1, fun k k0 k1 => ?_, fun k k0 k1 => ?_⟩, ⟨by rw [hW 56 (by decide)]; exact b1, fun k k0 k1 => ?_, fun k k0 k1 => ?_⟩, ⟨by rw [hW 73 (by decide)]; exact c1, fun k k0 k1 => ?_, fun k k0 k1 => ?_⟩⟩
  · rw [a2 k k0 k1]; exact (s5 _ _ (fun j j0 => hW _ (by omega)) k k0).symm
  · rw [a3 k k0 k1]; exact (s5 _ _ (fun j j0 => hW _ (by omega)) k k0).symm
  · rw [b2 k k0 k1]; exact (hW _ (by omega)).symm
  · rw [b3 k k0 k1]; exact (hW _ (by omega)).symm
  · rw [c2 k k0 k1]; exact (hW _ (by omega)).symm
  · rw [c3 k k0 k1]; exact (hW _ (by omega)).symm
theorem bdf_low {W W' : Int → Int} {a n hi : Int} (h : bdf (rwH W a) n 0 hi) (ha : 45 ≤ a) (hW : ∀ j : Int, 45 ≤ j → W' j = W j) : bdf (rwH W' a) n 0 hi := fun k k0 k1 => by
  unfold rwH; rw [hW _ (by omega)]; exact h k k0 k1
theorem bdf_lowN {W W' : Int → Int} {a n hi : Int} (h : bdf (rwN W a) n 0 hi) (ha : 45 ≤ a) (hW : ∀ j : Int, 45 ≤ j → W' j = W j) : bdf (rwN W' a) n 0 hi := fun k k0 k1 => by
  unfold rwN; rw [hW _ (by omega)]; exact h k k0 k1
theorem RwOk_low {W W' : Int → Int} (h : RwOk W) (hW : ∀ j : Int, 45 ≤ j → W' j = W j) (h20 : W 20 ≤ W' 20) : RwOk W' := by
  obtain ⟨⟨a1, a2, a3⟩, ⟨b1, b2⟩, ⟨c1, c2, c3⟩⟩ := h
  refine ⟨⟨by rw [hW 45 (by decide)]; exact a1, by rw [hW 45 (by decide)]; exact bdf_low a2 (by decide) hW, by rw [hW 45 (by decide)]; exact bdf_lowN a3 (by decide) hW⟩, ⟨by rw [hW 56 (by decide)]; exact b1, fun r r0 r1 => ?_⟩, ⟨by rw [hW 73 (by decide)]; exact c1, by rw [hW 73 (by decide)]; exact bdf_low c2 (by decide) hW, by rw [hW 73 (by decide)]; exact bdf_lowN c3 (by decide) hW⟩⟩
  rw [hW 56 (by decide)] at r1
  have q := b2 r r0 r1
  rw [hW _ (by omega), hW (58 + 2 * r) (by omega)]
  exact ⟨q.1, q.2.1, fun x => Int.lt_of_lt_of_le (q.2.2 x) h20⟩
theorem k2w {M M2 : Mem} {W' : Int → Int} (h : InvF M) (hk : ∀ i : Nat, 12 ≤ i ∧ i ≤ 20 → M2 i = M i) (h79 : M2 79 = W') (hW : ∀ j : Int, 45 ≤ j → W' j = M 79 j) (h20 : M 79 20 ≤ W' 20) : P2 M2 := by
  unfold P2
  rw [h79]
  exact ⟨RwP_low (RwP_eq h.2.1.1.P (fun i h1 h2 => hk i (by omega))) hW, RwOk_low h.2.1.2 hW h20⟩
theorem k1w {M M2 : Mem} {W' : Int → Int} (h79 : M2 79 = W') (hr : RelP M2 2 W') (hw : WOk W') : P1 M2 := by
  unfold P1; rw [h79]; exact ⟨hr, hw⟩
theorem k3 {M M2 : Mem} (h : InvF M) (hk : ∀ i : Nat, (22 ≤ i ∧ i ≤ 40) ∨ i = 80 → M2 i = M i) : P3 M2 := by
  unfold P3
  rw [hk 80 (by omega)]
  exact ⟨⟨RelP_eq h.2.2.1.1.1.P (fun i h1 h2 => hk i (by omega)), h.2.2.1.1.2⟩, RwP_eq h.2.2.1.2.1.P (fun i h1 h2 => hk i (by omega)), h.2.2.1.2.2⟩
theorem k4 {M M2 : Mem} (h : InvF M) (h1 : M2 12 2 = M 12 2) (h2 : M2 15 2 = M 15 2) (h3 : M2 18 2 = M 18 2) : F4 M2 := by
  unfold F4; rw [h1, h2, h3]; exact h.2.2.2.1
theorem k5 {M M2 : Mem} (h : InvF M) (h1 : M2 0 2 = M 0 2) (h2 : M2 78 2 = M 78 2) : F5 M2 := by
  unfold F5; rw [h1, h2]; exact h.2.2.2.2.1
theorem k6 {M M2 : Mem} (h : InvF M) (h1 : M2 62 1 = M 62 1) (h2 : M2 63 = M 63) (h3 : M2 78 5 = M 78 5) (h4 : M2 82 = M 82) : P6 M2 := by
  unfold P6; rw [h1, h2, h3, h4]
  exact ⟨⟨h.2.2.2.2.2.1.1.1, fun k _ _ => by rw [h.2.2.2.2.2.1.1.2]⟩, h.2.2.2.2.2.1.2⟩
theorem k7 {M M2 : Mem} (h : InvF M) (hk : ∀ i : Nat, (66 ≤ i ∧ i ≤ 77) ∨ 92 ≤ i → M2 i = M i) : P7 M2 := by
  obtain ⟨⟨a, b, c, d, e, f⟩, hw⟩ := h.2.2.2.2.2.2
  unfold P7
  refine ⟨⟨?_, ?_, ?_, ?_, ?_, ?_⟩, ?_⟩
  · exact TpP_eq a.P (hk _ (by omega)) (hk _ (by omega)) (hk _ (by omega)) (hk _ (by omega)) (hk _ (by omega))
  · exact TpP_eq b.P (hk _ (by omega)) (hk _ (by omega)) (hk _ (by omega)) (hk _ (by omega)) (hk _ (by omega))
  · exact TpP_eq c.P (hk _ (by omega)) (hk _ (by omega)) (hk _ (by omega)) (hk _ (by omega)) (hk _ (by omega))
  · exact TpP_eq d.P (hk _ (by omega)) (hk _ (by omega)) (hk _ (by omega)) (hk _ (by omega)) (hk _ (by omega))
  · exact TpP_eq e.P (hk _ (by omega)) (hk _ (by omega)) (hk _ (by omega)) (hk _ (by omega)) (hk _ (by omega))
  · exact TpP_eq f.P (hk _ (by omega)) (hk _ (by omega)) (hk _ (by omega)) (hk _ (by omega)) (hk _ (by omega))
  · rw [hk 92 (by omega), hk 93 (by omega), hk 94 (by omega)]; exact hw
/-- what no call shows stays out of it -/
theorem kAll {M M2 : Mem} (h : InvF M) (hk : ∀ i : Nat, i ≤ 40 ∨ i = 62 ∨ i = 63 ∨ (66 ≤ i ∧ i ≤ 80 ∧ i ≠ 78) ∨ i = 82 ∨ 92 ≤ i → M2 i = M i) (h2 : M2 78 2 = M 78 2) (h5 : M2 78 5 = M 78 5) : InvP M2 :=
  ⟨k1 h (fun i hi => hk i (by omega)), k2 h (fun i hi => hk i (by omega)), k3 h (fun i hi => hk i (by omega)), k4 h (by rw [hk 12 (by omega)]) (by rw [hk 15 (by omega)]) (by rw [hk 18 (by omega)]), k5 h (by rw [hk 0 (by omega)]) h2, k6 h (by rw [hk 62 (by omega)]) (hk 63 (by omega)) h5 (hk 82 (by omega)), k7 h (fun i hi => hk i (by omega))⟩
/-- the arrays of the class written over the reference's -/
def cnI (M : Mem) : Mem := (up1 (up1 (up1 (up1 (up1 (up1 (up1 (up1 (up1 (up1 (up1 (up1 (up1 (up1 (up1 (up1 (up1 (up1 (up1 (up1 (up1 (up1 (up1 (up1 (up1 (up1 (up1 (up1 (up1 M 3 (M 79)) 6 (bsA (M 79) 0)) 8 (bsA (M 79) 1)) 10 (bsA (M 79) 2)) 11 (tdW (M 79))) 13 (sn5 (rwH (M 79) 46))) 14 (sn5 (rwN (M 79) 46))) 16 (rwH (M 79) 57)) 17 (rwN (M 79) 57)) 19 (rwH (M 79) 74)) 20 (rwN (M 79) 74)) 23 (M 80)) 26 (bsA (M 80) 0)) 28 (bsA (M 80) 1)) 30 (bsA (M 80) 2)) 31 (tdW (M 80))) 33 (sn5 (rwH (M 80) 46))) 34 (sn5 (rwN (M 80) 46))) 36 (rwH (M 80) 57)) 37 (rwN (M 80) 57)) 39 (rwH (M 80) 74)) 40 (rwN (M 80) 74)) 63 (M 82)) 67 (tpI (M 94) 0)) 69 (tpI (M 94) 1)) 71 (tpI (M 94) 2)) 73 (tpI (M 94) 3)) 75 (tpI (M 94) 4)) 77 (tpI (M 94) 5))
set_option maxRecDepth 20000 in
set_option maxHeartbeats 2000000 in
theorem cnI_F {M : Mem} (h : InvP M) : InvF (cnI M) := by
  obtain ⟨⟨⟨a1, a2, a3, ⟨b1, b2, b3, b4⟩, ⟨c1, c2, c3, c4⟩, ⟨d1, d2, d3, d4⟩⟩, hw⟩, ⟨⟨⟨e1, e2, e3⟩, ⟨f1, f2, f3⟩, ⟨g1, g2, g3⟩⟩, hr⟩, ⟨⟨⟨ka1, ka2, ka3, ⟨kb1, kb2, kb3, kb4⟩, ⟨kc1, kc2, kc3, kc4⟩, ⟨kd1, kd2, kd3, kd4⟩⟩, khw⟩, ⟨⟨ke1, ke2, ke3⟩, ⟨kf1, kf2, kf3⟩, ⟨kg1, kg2, kg3⟩⟩, khr⟩, h4, h5, ⟨⟨t1, t2⟩, t3⟩, ⟨⟨u0, u1, u2, u3, u4, u5⟩, u6⟩⟩ := h
  exact ⟨⟨⟨a1, rfl, rfl, ⟨b1, b2, b3, rfl⟩, ⟨c1, c2, c3, rfl⟩, ⟨d1, d2, d3, rfl⟩⟩, hw⟩, ⟨⟨⟨e1, rfl, rfl⟩, ⟨f1, rfl, rfl⟩, ⟨g1, rfl, rfl⟩⟩, hr⟩, ⟨⟨⟨ka1, rfl, rfl, ⟨kb1, kb2, kb3, rfl⟩, ⟨kc1, kc2, kc3, rfl⟩, ⟨kd1, kd2, kd3, rfl⟩⟩, khw⟩, ⟨⟨ke1, rfl, rfl⟩, ⟨kf1, rfl, rfl⟩, ⟨kg1, rfl, rfl⟩⟩, khr⟩, h4, h5, ⟨⟨t1, rfl⟩, t3⟩, ⟨⟨⟨u0.1, u0.2.1, rfl⟩, ⟨u1.1, u1.2.1, rfl⟩, ⟨u2.1, u2.2.1, rfl⟩, ⟨u3.1, u3.2.1, rfl⟩, ⟨u4.1, u4.2.1, rfl⟩, ⟨u5.1, u5.2.1, rfl⟩⟩, u6⟩⟩
set_option maxRecDepth 20000 in
set_option maxHeartbeats 2000000 in
theorem cnI_eq {M : Mem} (h : InvP M) : Meq M (cnI M) := by
  obtain ⟨⟨⟨a1, a2, a3, ⟨b1, b2, b3, b4⟩, ⟨c1, c2, c3, c4⟩, ⟨d1, d2, d3, d4⟩⟩, hw⟩, ⟨⟨⟨e1, e2, e3⟩, ⟨f1, f2, f3⟩, ⟨g1, g2, g3⟩⟩, hr⟩, ⟨⟨⟨ka1, ka2, ka3, ⟨kb1, kb2, kb3, kb4⟩, ⟨kc1, kc2, kc3, kc4⟩, ⟨kd1, kd2, kd3, kd4⟩⟩, khw⟩, ⟨⟨ke1, ke2, ke3⟩, ⟨kf1, kf2, kf3⟩, ⟨kg1, kg2, kg3⟩⟩, khr⟩, h4, h5, ⟨⟨t1, t2⟩, t3⟩, ⟨⟨u0, u1, u2, u3, u4, u5⟩, u6⟩⟩ := h
  intro i _
  by_cases y3 : i = 3
  · subst y3; exact ceq_a (Or.inl rfl) a2
  by_cases y6 : i = 6
  · subst y6; exact ceq_a (Or.inl rfl) b4
  by_cases y8 : i = 8
  · subst y8; exact ceq_a (Or.inl rfl) c4
  by_cases y10 : i = 10
  · subst y10; exact ceq_a (Or.inl rfl) d4
  by_cases y11 : i = 11
  · subst y11; exact ceq_a (Or.inl rfl) a3
  by_cases y13 : i = 13
  · subst y13; exact ceq_a (Or.inl rfl) e2
  by_cases y14 : i = 14
  · subst y14; exact ceq_a (Or.inl rfl) e3
  by_cases y16 : i = 16
  · subst y16; exact ceq_a (Or.inl rfl) f2
  by_cases y17 : i = 17
  · subst y17; exact ceq_a (Or.inl rfl) f3
  by_cases y19 : i = 19
  · subst y19; exact ceq_a (Or.inl rfl) g2
  by_cases y20 : i = 20
  · subst y20; exact ceq_a (Or.inl rfl) g3
  by_cases y23 : i = 23
  · subst y23; exact ceq_a (Or.inl rfl) ka2
  by_cases y26 : i = 26
  · subst y26; exact ceq_a (Or.inl rfl) kb4
  by_cases y28 : i = 28
  · subst y28; exact ceq_a (Or.inl rfl) kc4
  by_cases y30 : i = 30
  · subst y30; exact ceq_a (Or.inl rfl) kd4
  by_cases y31 : i = 31
  · subst y31; exact ceq_a (Or.inl rfl) ka3
  by_cases y33 : i = 33
  · subst y33; exact ceq_a (Or.inl rfl) ke2
  by_cases y34 : i = 34
  · subst y34; exact ceq_a (Or.inl rfl) ke3
  by_cases y36 : i = 36
  · subst y36; exact ceq_a (Or.inl rfl) kf2
  by_cases y37 : i = 37
  · subst y37; exact ceq_a (Or.inl rfl) kf3
  by_cases y39 : i = 39
  · subst y39; exact ceq_a (Or.inl rfl) kg2
  by_cases y40 : i = 40
  · subst y40; exact ceq_a (Or.inl rfl) kg3
  by_cases y63 : i = 63
  · subst y63; exact ceq_a (Or.inl rfl) t2
  by_cases y67 : i = 67
  · subst y67; exact ceq_a (Or.inr rfl) u0.2.2
  by_cases y69 : i = 69
  · subst y69; exact ceq_a (Or.inr rfl) u1.2.2
  by_cases y71 : i = 71
  · subst y71; exact ceq_a (Or.inr rfl) u2.2.2
  by_cases y73 : i = 73
  · subst y73; exact ceq_a (Or.inr rfl) u3.2.2
  by_cases y75 : i = 75
  · subst y75; exact ceq_a (Or.inr rfl) u4.2.2
  by_cases y77 : i = 77
  · subst y77; exact ceq_a (Or.inr rfl) u5.2.2
  refine ceq_e ?_
  unfold cnI
  rw [up1_ne y77, up1_ne y75, up1_ne y73, up1_ne y71, up1_ne y69, up1_ne y67, up1_ne y63, up1_ne y40, up1_ne y39, up1_ne y37, up1_ne y36, up1_ne y34, up1_ne y33, up1_ne y31, up1_ne y30, up1_ne y28, up1_ne y26, up1_ne y23, up1_ne y20, up1_ne y19, up1_ne y17, up1_ne y16, up1_ne y14, up1_ne y13, up1_ne y11, up1_ne y10, up1_ne y8, up1_ne y6, up1_ne y3]
