set_option maxRecDepth 100000 in
set_option maxHeartbeats 400000 in
theorem ct_X9_between (l : Launch) (g : Gl) (M : Mem) (v lo hi : Int) (hv : i32 v) (hlo : i32 lo) (hhi : i32 hi) : Ct l g yX9_between wsX9_between 0 0 [iv v, iv lo, iv hi] M (fun rv M' => (rv = some (iv 1) ∧ M' = M ∧ (lo ≤ v ∧ v ≤ hi)) ∨ (rv = some (iv 0) ∧ M' = M ∧ (¬ (lo ≤ v ∧ v ≤ hi)))) := by
  refine Ct.of (cc := cX9_between) (nL := 3) (ret := (some .boolean)) (by decide) rfl (Nat.le_of_ble_eq_true rfl) (fun z hz ok rt => ?_)
  have ok : Ok z g cX9_between 3 RX9 wsX9_between 0 0 := ok
  show V z g 3 M [(0, iv v), (1, iv lo), (2, iv hi)] [] 0
  refine v_iload_n ok 0 dX9_between_0 rfl rfl ?_
  refine v_iload_n ok 1 dX9_between_1 rfl rfl ?_
  refine v_icmp_lt (tgt := 14) ok ⟨by omega, by omega⟩ ⟨by omega, by omega⟩ dX9_between_2 (by decide) (fun c1 => ?_) (fun c1 => ?_)
  · skip
    refine v_iconst (n := 0) ok dX9_between_14 ?_
    exact v_zret ok rt (by omega) dX9_between_15 (Or.inr (⟨rfl, rfl, (by omega)⟩))
  · skip
    refine v_iload_n ok 0 dX9_between_5 rfl rfl ?_
    refine v_iload_n ok 2 dX9_between_6 rfl rfl ?_
    refine v_icmp_gt (tgt := 14) ok ⟨by omega, by omega⟩ ⟨by omega, by omega⟩ dX9_between_7 (by decide) (fun c2 => ?_) (fun c2 => ?_)
    · skip
      refine v_iconst (n := 0) ok dX9_between_14 ?_
      exact v_zret ok rt (by omega) dX9_between_15 (Or.inr (⟨rfl, rfl, (by omega)⟩))
    · skip
      refine v_iconst (n := 1) ok dX9_between_10 ?_
      refine v_goto (tgt := 15) ok dX9_between_11 (by decide) ?_
      exact v_zret ok rt (by omega) dX9_between_15 (Or.inl (⟨rfl, rfl, (by omega)⟩))

set_option maxRecDepth 100000 in
set_option maxHeartbeats 400000 in
theorem ct_X10_in (l : Launch) (g : Gl) (M : Mem) (v lo hi : Int) (hv : i64 v) (hlo : i64 lo) (hhi : i64 hi) : Ct l g yX10_in wsX10_in 0 0 [jv v, jv lo, jv hi] M (fun rv M' => (rv = some (iv 1) ∧ M' = M ∧ (lo ≤ v ∧ v ≤ hi)) ∨ (rv = some (iv 0) ∧ M' = M ∧ (¬ (lo ≤ v ∧ v ≤ hi)))) := by
  refine Ct.of (cc := cX10_in) (nL := 6) (ret := (some .boolean)) (by decide) rfl (Nat.le_of_ble_eq_true rfl) (fun z hz ok rt => ?_)
  have ok : Ok z g cX10_in 6 RX10 wsX10_in 0 0 := ok
  show V z g 6 M [(0, jv v), (2, jv lo), (4, jv hi)] [] 0
  refine v_lload_n ok 0 dX10_in_0 rfl rfl ?_
  refine v_lload_n ok 1 dX10_in_1 rfl rfl ?_
  refine v_lcmp ok ⟨by omega, by omega⟩ ⟨by omega, by omega⟩ dX10_in_2 (fun r1 hc2a hc2b hc2c hc2d => ?_)
  refine v_if_lt (tgt := 17) ok ⟨by omega, by omega⟩ dX10_in_3 (by decide) (fun c3 => ?_) (fun c3 => ?_)
  · skip
    refine v_iconst (n := 0) ok dX10_in_17 ?_
    exact v_zret ok rt (by omega) dX10_in_18 (Or.inr (⟨rfl, rfl, (by omega)⟩))
  · skip
    refine v_lload_n ok 0 dX10_in_6 rfl rfl ?_
    refine v_lload ok 2 dX10_in_7 rfl ?_
    refine v_lcmp ok ⟨by omega, by omega⟩ ⟨by omega, by omega⟩ dX10_in_9 (fun r4 hc5a hc5b hc5c hc5d => ?_)
    refine v_if_gt (tgt := 17) ok ⟨by omega, by omega⟩ dX10_in_10 (by decide) (fun c6 => ?_) (fun c6 => ?_)
    · skip
      refine v_iconst (n := 0) ok dX10_in_17 ?_
      exact v_zret ok rt (by omega) dX10_in_18 (Or.inr (⟨rfl, rfl, (by omega)⟩))
    · skip
      refine v_iconst (n := 1) ok dX10_in_13 ?_
      refine v_goto (tgt := 18) ok dX10_in_14 (by decide) ?_
      exact v_zret ok rt (by omega) dX10_in_18 (Or.inl (⟨rfl, rfl, (by omega)⟩))

set_option maxRecDepth 100000 in
set_option maxHeartbeats 400000 in
theorem ct_J7_fill_53178 (l : Launch) (g : Gl) (M : Mem) (a : Nat) (n v : Int) (ha : kd a = 11) (hn : (ln a : Int) = n) : Ct l g yJ7_fill_53178 wsJ7_fill_53178 0 0 [rf g a, iv v] M (fun rv M' => rv = none ∧ M' = (up1 M a (fun _ => v))) := by
  refine Ct.of (cc := cJ7_fill_53178) (nL := 4) (ret := none) (by decide) rfl (Nat.le_of_ble_eq_true rfl) (fun z hz ok rt => ?_)
  have ok : Ok z g cJ7_fill_53178 4 RJ7 wsJ7_fill_53178 0 0 := ok
  show V z g 4 M [(0, rf g a), (1, iv v)] [] 0
  have hn0 := ln_le a
  refine v_iconst (n := 0) ok dJ7_fill_53178_0 ?_
  refine v_istore_n ok [(2, iv 0), (0, rf g a), (1, iv v)] dJ7_fill_53178_1 rfl (by decide) rfl ?_
  refine v_aload_n ok 1 dJ7_fill_53178_2 rfl rfl ?_
  refine v_alen (n := n) ok (Or.inl ha) hn dJ7_fill_53178_3 ?_
  refine v_istore_n ok [(3, iv n), (2, iv 0), (0, rf g a), (1, iv v)] dJ7_fill_53178_4 rfl (by decide) rfl ?_
  have lp5 : ∀ (fu : Nat) (k : Int) (F : Int → Int), (0 ≤ k ∧ k ≤ n) → (∀ j : Int, 0 ≤ j → j < k → F j = (fun _ => v) j) → (n - k).toNat < fu → V z g 4 (up1 M a F) [(0, rf g a), (1, iv v), (2, iv k), (3, iv n)] [] 5 := by
    intro fu
    induction fu with
    | zero => intro k F _ _ hm; exact absurd hm (Nat.not_lt_zero _)
    | succ fu ih5 =>
      intro k F i5_0 i5_1 hm5
      refine v_iload_n ok 2 dJ7_fill_53178_5 rfl rfl ?_
      refine v_iload_n ok 3 dJ7_fill_53178_6 rfl rfl ?_
      refine v_icmp_ge (tgt := 20) ok ⟨by omega, by omega⟩ ⟨by omega, by omega⟩ dJ7_fill_53178_7 (by decide) (fun c1 => ?_) (fun c1 => ?_)
      · skip
        refine v_cong (n := n) (fun _ => v) (Or.inl ha) hn (fun j h1 h2 => i5_1 j h1 (by omega)) ?_
        exact v_vret ok rt dJ7_fill_53178_20 (⟨rfl, rfl⟩)
      · skip
        refine v_aload_n ok 0 dJ7_fill_53178_10 rfl rfl ?_
        refine v_iload_n ok 2 dJ7_fill_53178_11 rfl rfl ?_
        refine v_iload_n ok 1 dJ7_fill_53178_12 rfl rfl ?_
        refine v_iast (n := n) (f0 := F) ok ha hn (by omega) (by rw [up1_same]) dJ7_fill_53178_13 ?_
        rw [up1_up1]
        refine v_iinc ok 2 [(2, iv (k + 1)), (0, rf g a), (1, iv v), (3, iv n)] dJ7_fill_53178_14 rfl (by decide) rfl ?_
        refine v_goto (tgt := 5) ok dJ7_fill_53178_17 (by decide) ?_
        refine v_lv (ls' := [(0, rf g a), (1, iv v), (2, iv (k + 1)), (3, iv n)]) ok [1, 2, 0, 3] rfl ?_
        exact ih5 (k + 1) (up F k v) ⟨by omega, by omega⟩ (up_lt i5_1 rfl) (by omega)
  refine v_lv (ls' := [(0, rf g a), (1, iv v), (2, iv 0), (3, iv n)]) ok [2, 3, 1, 0] rfl ?_
  rw [show (M : Mem) = (up1 M a (M a)) from (by
        funext j
        by_cases hj0 : j = a
        · simp_all [up1, up1_self]
        simp [up1, hj0])]
  exact lp5 _ 0 (M a) ⟨by omega, by omega⟩ (fun j h1 h2 => by omega) (Nat.lt_succ_self _)

set_option maxRecDepth 100000 in
set_option maxHeartbeats 400000 in
theorem ct_J7_fill_d0a16 (l : Launch) (g : Gl) (M : Mem) (a : Nat) (n v : Int) (ha : kd a = 12) (hn : (ln a : Int) = n) : Ct l g yJ7_fill_d0a16 wsJ7_fill_d0a16 0 0 [rf g a, jv v] M (fun rv M' => rv = none ∧ M' = (up1 M a (fun _ => v))) := by
  refine Ct.of (cc := cJ7_fill_d0a16) (nL := 5) (ret := none) (by decide) rfl (Nat.le_of_ble_eq_true rfl) (fun z hz ok rt => ?_)
  have ok : Ok z g cJ7_fill_d0a16 5 RJ7 wsJ7_fill_d0a16 0 0 := ok
  show V z g 5 M [(0, rf g a), (1, jv v)] [] 0
  have hn0 := ln_le a
  refine v_iconst (n := 0) ok dJ7_fill_d0a16_0 ?_
  refine v_istore_n ok [(3, iv 0), (0, rf g a), (1, jv v)] dJ7_fill_d0a16_1 rfl (by decide) rfl ?_
  refine v_aload_n ok 1 dJ7_fill_d0a16_2 rfl rfl ?_
  refine v_alen (n := n) ok (Or.inr ha) hn dJ7_fill_d0a16_3 ?_
  refine v_istore ok [(4, iv n), (3, iv 0), (0, rf g a), (1, jv v)] dJ7_fill_d0a16_4 (by decide) rfl ?_
  have lp6 : ∀ (fu : Nat) (k : Int) (F : Int → Int), (0 ≤ k ∧ k ≤ n) → (∀ j : Int, 0 ≤ j → j < k → F j = (fun _ => v) j) → (n - k).toNat < fu → V z g 5 (up1 M a F) [(0, rf g a), (1, jv v), (3, iv k), (4, iv n)] [] 6 := by
    intro fu
    induction fu with
    | zero => intro k F _ _ hm; exact absurd hm (Nat.not_lt_zero _)
    | succ fu ih6 =>
      intro k F i6_0 i6_1 hm6
      refine v_iload_n ok 2 dJ7_fill_d0a16_6 rfl rfl ?_
      refine v_iload ok 3 dJ7_fill_d0a16_7 rfl ?_
      refine v_icmp_ge (tgt := 22) ok ⟨by omega, by omega⟩ ⟨by omega, by omega⟩ dJ7_fill_d0a16_9 (by decide) (fun c1 => ?_) (fun c1 => ?_)
      · skip
        refine v_cong (n := n) (fun _ => v) (Or.inr ha) hn (fun j h1 h2 => i6_1 j h1 (by omega)) ?_
        exact v_vret ok rt dJ7_fill_d0a16_22 (⟨rfl, rfl⟩)
      · skip
        refine v_aload_n ok 0 dJ7_fill_d0a16_12 rfl rfl ?_
        refine v_iload_n ok 2 dJ7_fill_d0a16_13 rfl rfl ?_
        refine v_lload_n ok 1 dJ7_fill_d0a16_14 rfl rfl ?_
        refine v_last (n := n) (f0 := F) ok ha hn (by omega) (by rw [up1_same]) dJ7_fill_d0a16_15 ?_
        rw [up1_up1]
        refine v_iinc ok 2 [(3, iv (k + 1)), (0, rf g a), (1, jv v), (4, iv n)] dJ7_fill_d0a16_16 rfl (by decide) rfl ?_
        refine v_goto (tgt := 6) ok dJ7_fill_d0a16_19 (by decide) ?_
        refine v_lv (ls' := [(0, rf g a), (1, jv v), (3, iv (k + 1)), (4, iv n)]) ok [1, 2, 0, 3] rfl ?_
        exact ih6 (k + 1) (up F k v) ⟨by omega, by omega⟩ (up_lt i6_1 rfl) (by omega)
  refine v_lv (ls' := [(0, rf g a), (1, jv v), (3, iv 0), (4, iv n)]) ok [2, 3, 1, 0] rfl ?_
  rw [show (M : Mem) = (up1 M a (M a)) from (by
        funext j
        by_cases hj0 : j = a
        · simp_all [up1, up1_self]
        simp [up1, hj0])]
  exact lp6 _ 0 (M a) ⟨by omega, by omega⟩ (fun j h1 h2 => by omega) (Nat.lt_succ_self _)

set_option maxRecDepth 100000 in
set_option maxHeartbeats 400000 in
theorem ct_X9_copyNumbers (l : Launch) (g : Gl) (M : Mem) (a b : Nat) (n : Int) (ha : kd a = 11) (hb : kd b = 11) (hna : (ln a : Int) = n) (hnb : (ln b : Int) = n) (hab : a ≠ b) : Ct l g yX9_copyNumbers wsX9_copyNumbers 0 0 [rf g a, rf g b] M (fun rv M' => rv = none ∧ M' = (up1 M b (M a))) := by
  refine Ct.of (cc := cX9_copyNumbers) (nL := 3) (ret := none) (by decide) rfl (Nat.le_of_ble_eq_true rfl) (fun z hz ok rt => ?_)
  have ok : Ok z g cX9_copyNumbers 3 RX9 wsX9_copyNumbers 0 0 := ok
  show V z g 3 M [(0, rf g a), (1, rf g b)] [] 0
  have hn0 := ln_le a
  refine v_iconst (n := 0) ok dX9_copyNumbers_0 ?_
  refine v_istore_n ok [(2, iv 0), (0, rf g a), (1, rf g b)] dX9_copyNumbers_1 rfl (by decide) rfl ?_
  have lp2 : ∀ (fu : Nat) (k : Int) (F : Int → Int), (0 ≤ k ∧ k ≤ n) → (∀ j : Int, 0 ≤ j → j < k → F j = M a j) → (n - k).toNat < fu → V z g 3 (up1 M b F) [(0, rf g a), (1, rf g b), (2, iv k)] [] 2 := by
    intro fu
    induction fu with
    | zero => intro k F _ _ hm; exact absurd hm (Nat.not_lt_zero _)
    | succ fu ih2 =>
      intro k F i2_0 i2_1 hm2
      refine v_iload_n ok 2 dX9_copyNumbers_2 rfl rfl ?_
      refine v_aload_n ok 0 dX9_copyNumbers_3 rfl rfl ?_
      refine v_alen (n := n) ok (Or.inl ha) hna dX9_copyNumbers_4 ?_
      refine v_icmp_ge (tgt := 26) ok ⟨by omega, by omega⟩ ⟨by omega, by omega⟩ dX9_copyNumbers_5 (by decide) (fun c1 => ?_) (fun c1 => ?_)
      · skip
        refine v_cong (n := n) (M a) (Or.inl hb) hnb (fun j h1 h2 => i2_1 j h1 (by omega)) ?_
        exact v_vret ok rt dX9_copyNumbers_26 (⟨rfl, rfl⟩)
      · skip
        refine v_iload_n ok 2 dX9_copyNumbers_8 rfl rfl ?_
        refine v_aload_n ok 1 dX9_copyNumbers_9 rfl rfl ?_
        refine v_alen (n := n) ok (Or.inl hb) hnb dX9_copyNumbers_10 ?_
        refine v_icmp_ge (tgt := 26) ok ⟨by omega, by omega⟩ ⟨by omega, by omega⟩ dX9_copyNumbers_11 (by decide) (fun c2 => ?_) (fun c2 => ?_)
        · skip
          refine v_cong (n := n) (M a) (Or.inl hb) hnb (fun j h1 h2 => i2_1 j h1 (by omega)) ?_
          exact v_vret ok rt dX9_copyNumbers_26 (⟨rfl, rfl⟩)
        · skip
          refine v_aload_n ok 1 dX9_copyNumbers_14 rfl rfl ?_
          refine v_iload_n ok 2 dX9_copyNumbers_15 rfl rfl ?_
          refine v_aload_n ok 0 dX9_copyNumbers_16 rfl rfl ?_
          refine v_iload_n ok 2 dX9_copyNumbers_17 rfl rfl ?_
          refine v_iald (n := n) (f0 := (M a)) ok ha hna (by omega) (by rw [up1_ne hab]) dX9_copyNumbers_18 ?_
          refine v_iast (n := n) (f0 := F) ok hb hnb (by omega) (by rw [up1_same]) dX9_copyNumbers_19 ?_
          rw [up1_up1]
          refine v_iinc ok 2 [(2, iv (k + 1)), (0, rf g a), (1, rf g b)] dX9_copyNumbers_20 rfl (by decide) rfl ?_
          refine v_goto (tgt := 2) ok dX9_copyNumbers_23 (by decide) ?_
          refine v_lv (ls' := [(0, rf g a), (1, rf g b), (2, iv (k + 1))]) ok [1, 2, 0] rfl ?_
          exact ih2 (k + 1) (up F k (M a k)) ⟨by omega, by omega⟩ (up_lt i2_1 rfl) (by omega)
  refine v_lv (ls' := [(0, rf g a), (1, rf g b), (2, iv 0)]) ok [1, 2, 0] rfl ?_
  rw [show (M : Mem) = (up1 M b (M b)) from (by
        funext j
        by_cases hj0 : j = b
        · simp_all [up1, up1_self]
        simp [up1, hj0])]
  exact lp2 _ 0 (M b) ⟨by omega, by omega⟩ (fun j h1 h2 => by omega) (Nat.lt_succ_self _)

theorem mk_X6_has_22 : Cond.fieldLink RX6 22 "StormRunoff$Site" "many" "I" ∈ wsX6_has := by decide +kernel
theorem mi_X6_has_6 : ∀ w ∈ wsX60, w ∈ wsX6_has := by decide +kernel
theorem mk_X6_has_18 : Cond.fieldLink RX6 18 "StormRunoff$Site" "basins" "[LStormRunoff$Basin;" ∈ wsX6_has := by decide +kernel
set_option maxRecDepth 100000 in
set_option maxHeartbeats 400000 in
theorem ct_X6_has (l : Launch) (g : Gl) (M : Mem) (s : Nat) (b : Int) (hs : kd s = 6) (hb : i32 b) (hm : 0 ≤ M s 2 ∧ M s 2 ≤ 3) : Ct l g yX6_has wsX6_has 0 0 [rf g s, iv b] M (fun rv M' => (rv = some (iv 1) ∧ M' = M ∧ (0 ≤ b ∧ b < M s 2)) ∨ (rv = some (iv 0) ∧ M' = M ∧ (¬ (0 ≤ b ∧ b < M s 2)))) := by
  refine Ct.of (cc := cX6_has) (nL := 2) (ret := (some .boolean)) (by decide) rfl (Nat.le_of_ble_eq_true rfl) (fun z hz ok rt => ?_)
  have ok : Ok z g cX6_has 2 RX6 wsX6_has 0 0 := ok
  show V z g 2 M [(0, rf g s), (1, iv b)] [] 0
  refine v_iload_n ok 1 dX6_has_0 rfl rfl ?_
  refine v_if_lt (tgt := 25) ok ⟨by omega, by omega⟩ dX6_has_1 (by decide) (fun c1 => ?_) (fun c1 => ?_)
  · skip
    refine v_iconst (n := 0) ok dX6_has_25 ?_
    exact v_zret ok rt (by omega) dX6_has_26 (Or.inr (⟨rfl, rfl, (by omega)⟩))
  · skip
    refine v_iload_n ok 1 dX6_has_4 rfl rfl ?_
    refine v_aload_n ok 0 dX6_has_5 rfl rfl ?_
    refine v_get (T := TX6) (N := 3) (f0 := (M s)) (v := iv (M s 2)) ok mi_X6_has_6 (kd_lt hs (by decide)) rfl rfl (cellF_6 _ hs) 2 (by decide) mk_X6_has_22 rfl rfl dX6_has_6 ?_
    refine v_icmp_ge (tgt := 25) ok ⟨by omega, by omega⟩ ⟨by omega, by omega⟩ dX6_has_9 (by decide) (fun c2 => ?_) (fun c2 => ?_)
    · skip
      refine v_iconst (n := 0) ok dX6_has_25 ?_
      exact v_zret ok rt (by omega) dX6_has_26 (Or.inr (⟨rfl, rfl, (by omega)⟩))
    · skip
      refine v_iload_n ok 1 dX6_has_12 rfl rfl ?_
      refine v_aload_n ok 0 dX6_has_13 rfl rfl ?_
      refine v_get (T := TX6) (N := 3) (f0 := (M s)) (v := rf g (s + 2)) ok mi_X6_has_6 (kd_lt hs (by decide)) rfl rfl (cellF_6 _ hs) 1 (by decide) mk_X6_has_18 rfl rfl dX6_has_14 ?_
      refine v_alen13 ok (kd_c6_2 hs) dX6_has_17 ?_
      refine v_icmp_ge (tgt := 25) ok ⟨by omega, by omega⟩ (by decide) dX6_has_18 (by decide) (fun c3 => ?_) (fun c3 => ?_)
      · skip
        refine v_iconst (n := 0) ok dX6_has_25 ?_
        exact v_zret ok rt (by omega) dX6_has_26 (Or.inr (⟨rfl, rfl, (by omega)⟩))
      · skip
        refine v_iconst (n := 1) ok dX6_has_21 ?_
        refine v_goto (tgt := 26) ok dX6_has_22 (by decide) ?_
        exact v_zret ok rt (by omega) dX6_has_26 (Or.inl (⟨rfl, rfl, (by omega)⟩))
