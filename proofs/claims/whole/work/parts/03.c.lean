set_option maxRecDepth 100000 in
set_option maxHeartbeats 400000 in
theorem ct_X2_wholePart (l : Launch) (g : Gl) (M : Mem) (v d m : Int) (hv : i32 v) (hd : i32 d) (hm : i32 m) : Ct l g yX2_wholePart wsX2_wholePart 0 0 [iv v, iv d, iv m] M (fun rv M' => (rv = some (iv (v / d)) ∧ M' = M ∧ (whl v d m)) ∨ (rv = some (iv (-1)) ∧ M' = M ∧ (¬ whl v d m))) := by
  refine Ct.of (cc := cX2_wholePart) (nL := 3) (ret := (some .int)) (by decide) rfl (Nat.le_of_ble_eq_true rfl) (fun z hz ok rt => ?_)
  have ok : Ok z g cX2_wholePart 3 RX2 wsX2_wholePart 0 0 := ok
  show V z g 3 M [(0, iv v), (1, iv d), (2, iv m)] [] 0
  refine v_iload_n ok 1 dX2_wholePart_0 rfl rfl ?_
  refine v_if_le (tgt := 21) ok ⟨by omega, by omega⟩ dX2_wholePart_1 (by decide) (fun c1 => ?_) (fun c1 => ?_)
  · skip
    refine v_iconst (n := -1) ok dX2_wholePart_21 ?_
    exact v_iret ok rt dX2_wholePart_22 (Or.inr (⟨rfl, rfl, (fun q => by have q4 := q.2.2.2; have q3 := q.2.2.1; omega)⟩))
  · skip
    refine v_iload_n ok 0 dX2_wholePart_4 rfl rfl ?_
    refine v_if_lt (tgt := 21) ok ⟨by omega, by omega⟩ dX2_wholePart_5 (by decide) (fun c2 => ?_) (fun c2 => ?_)
    · skip
      refine v_iconst (n := -1) ok dX2_wholePart_21 ?_
      exact v_iret ok rt dX2_wholePart_22 (Or.inr (⟨rfl, rfl, (fun q => by have q4 := q.2.2.2; have q3 := q.2.2.1; omega)⟩))
    · skip
      have hq1 : 0 ≤ v / d := Int.ediv_nonneg (by omega) (by omega)
      have hq2 : v / d ≤ v := Int.ediv_le_self d (by omega)
      have hq3 : 0 ≤ v % d := Int.emod_nonneg v (by omega)
      have hq4 : v % d < d := Int.emod_lt_of_pos v (by omega)
      refine v_iload_n ok 0 dX2_wholePart_8 rfl rfl ?_
      refine v_iload_n ok 1 dX2_wholePart_9 rfl rfl ?_
      refine v_irem ok (by omega) (by omega) dX2_wholePart_10 ?_
      refine v_if_ne (tgt := 21) ok ⟨by omega, by omega⟩ dX2_wholePart_11 (by decide) (fun c3 => ?_) (fun c3 => ?_)
      · skip
        refine v_iconst (n := -1) ok dX2_wholePart_21 ?_
        exact v_iret ok rt dX2_wholePart_22 (Or.inr (⟨rfl, rfl, (fun q => by have q4 := q.2.2.2; have q3 := q.2.2.1; omega)⟩))
      · skip
        refine v_iload_n ok 0 dX2_wholePart_14 rfl rfl ?_
        refine v_iload_n ok 1 dX2_wholePart_15 rfl rfl ?_
        refine v_idiv ok (by omega) (by omega) dX2_wholePart_16 ?_
        refine v_iload_n ok 2 dX2_wholePart_17 rfl rfl ?_
        refine v_icmp_le (tgt := 23) ok ⟨by omega, by omega⟩ ⟨by omega, by omega⟩ dX2_wholePart_18 (by decide) (fun c4 => ?_) (fun c4 => ?_)
        · skip
          refine v_iload_n ok 0 dX2_wholePart_23 rfl rfl ?_
          refine v_iload_n ok 1 dX2_wholePart_24 rfl rfl ?_
          refine v_idiv ok (by omega) (by omega) dX2_wholePart_25 ?_
          exact v_iret ok rt dX2_wholePart_26 (Or.inl (⟨rfl, rfl, ⟨by omega, by omega, by omega, by omega⟩⟩))
        · skip
          refine v_iconst (n := -1) ok dX2_wholePart_21 ?_
          exact v_iret ok rt dX2_wholePart_22 (Or.inr (⟨rfl, rfl, (fun q => by have q4 := q.2.2.2; have q3 := q.2.2.1; omega)⟩))

set_option maxRecDepth 100000 in
set_option maxHeartbeats 400000 in
theorem ct_X2_firstWet (l : Launch) (g : Gl) (M : Mem)  (hR : bdf (M 3) 8 0 20) : Ct l g yX2_firstWet wsX2_firstWet 0 0 [rf g 3] M (fun rv M' => rv = some (iv (fwt (M 3) 8 0)) ∧ M' = M) := by
  refine Ct.of (cc := cX2_firstWet) (nL := 2) (ret := (some .int)) (by decide) rfl (Nat.le_of_ble_eq_true rfl) (fun z hz ok rt => ?_)
  have ok : Ok z g cX2_firstWet 2 RX2 wsX2_firstWet 0 0 := ok
  show V z g 2 M [(0, rf g 3)] [] 0
  refine v_iconst (n := 0) ok dX2_firstWet_0 ?_
  refine v_istore_n ok [(1, iv 0), (0, rf g 3)] dX2_firstWet_1 rfl (by decide) rfl ?_
  have lp2 : ∀ (fu : Nat) (h : Int), (0 ≤ h ∧ h ≤ 8) → (fwt (M 3) 8 0 = fwt (M 3) (8 - h).toNat h) → (8 - h).toNat < fu → V z g 2 M [(0, rf g 3), (1, iv h)] [] 2 := by
    intro fu
    induction fu with
    | zero => intro h _ _ hm; exact absurd hm (Nat.not_lt_zero _)
    | succ fu ih2 =>
      intro h i2_0 i2_1 hm2
      refine v_iload_n ok 1 dX2_firstWet_2 rfl rfl ?_
      refine v_aload_n ok 0 dX2_firstWet_3 rfl rfl ?_
      refine v_alen (n := 8) ok (Or.inl (by decide)) rfl dX2_firstWet_4 ?_
      refine v_icmp_ge (tgt := 22) ok ⟨by omega, by omega⟩ (by decide) dX2_firstWet_5 (by decide) (fun c1 => ?_) (fun c1 => ?_)
      · skip
        have hr : fwt (M 3) 8 0 = -1 := by rw [i2_1, show (8 - h).toNat = 0 by omega]; rfl
        refine v_iconst (n := -1) ok dX2_firstWet_22 ?_
        exact v_iret ok rt dX2_firstWet_23 (⟨(congrArg (fun q : Int => some (iv q)) (show (-1) = (fwt (M 3) 8 0) from by (rw [hr]))), rfl⟩)
      · skip
        refine v_aload_n ok 0 dX2_firstWet_8 rfl rfl ?_
        refine v_iload_n ok 1 dX2_firstWet_9 rfl rfl ?_
        refine v_iald (n := 8) (f0 := (M 3)) ok (by decide) rfl (by omega) rfl dX2_firstWet_10 ?_
        have b2 := hR h (by omega) (by omega)
        refine v_if_le (tgt := 16) ok ⟨by omega, by omega⟩ dX2_firstWet_11 (by decide) (fun c3 => ?_) (fun c3 => ?_)
        · skip
          have hb : fwt (M 3) 8 0 = fwt (M 3) (8 - (h + 1)).toNat (h + 1) := by rw [i2_1, nat_s (show h < 8 by omega), fwt_f (by omega)]
          refine v_iinc ok 1 [(1, iv (h + 1)), (0, rf g 3)] dX2_firstWet_16 rfl (by decide) rfl ?_
          refine v_goto (tgt := 2) ok dX2_firstWet_19 (by decide) ?_
          refine v_lv (ls' := [(0, rf g 3), (1, iv (h + 1))]) ok [1, 0] rfl ?_
          exact ih2 (h + 1) (by omega) hb (by omega)
        · skip
          have hr : fwt (M 3) 8 0 = h := by rw [i2_1, nat_s (show h < 8 by omega), fwt_t (by omega)]
          refine v_iload_n ok 1 dX2_firstWet_14 rfl rfl ?_
          exact v_iret ok rt dX2_firstWet_15 (⟨(congrArg (fun q : Int => some (iv q)) (show h = (fwt (M 3) 8 0) from by (rw [hr]))), rfl⟩)
  refine v_lv (ls' := [(0, rf g 3), (1, iv 0)]) ok [1, 0] rfl ?_
  exact lp2 _ 0 (by omega) rfl (Nat.lt_succ_self _)

theorem mk_X2_firstLeft_9 : Cond.fieldLink RX2 9 "StormRunoff$Division" "left" "[I" ∈ wsX2_firstLeft := by decide +kernel
theorem mi_X2_firstLeft_2 : ∀ w ∈ wsX20, w ∈ wsX2_firstLeft := by decide +kernel
set_option maxRecDepth 100000 in
set_option maxHeartbeats 400000 in
theorem ct_X2_firstLeft (l : Launch) (g : Gl) (M : Mem)  (hL : bdf (M 55) 12 (-100000) 100000) : Ct l g yX2_firstLeft wsX2_firstLeft 0 0 [rf g 54] M (fun rv M' => rv = some (iv (rsc (M 55) 12 0)) ∧ M' = M) := by
  refine Ct.of (cc := cX2_firstLeft) (nL := 2) (ret := (some .int)) (by decide) rfl (Nat.le_of_ble_eq_true rfl) (fun z hz ok rt => ?_)
  have ok : Ok z g cX2_firstLeft 2 RX2 wsX2_firstLeft 0 0 := ok
  show V z g 2 M [(0, rf g 54)] [] 0
  refine v_iconst (n := 0) ok dX2_firstLeft_0 ?_
  refine v_istore_n ok [(1, iv 0), (0, rf g 54)] dX2_firstLeft_1 rfl (by decide) rfl ?_
  have lp2 : ∀ (fu : Nat) (h : Int), (0 ≤ h ∧ h ≤ 12) → (rsc (M 55) 12 0 = rsc (M 55) (12 - h).toNat h) → (12 - h).toNat < fu → V z g 2 M [(0, rf g 54), (1, iv h)] [] 2 := by
    intro fu
    induction fu with
    | zero => intro h _ _ hm; exact absurd hm (Nat.not_lt_zero _)
    | succ fu ih2 =>
      intro h i2_0 i2_1 hm2
      refine v_iload_n ok 1 dX2_firstLeft_2 rfl rfl ?_
      refine v_aload_n ok 0 dX2_firstLeft_3 rfl rfl ?_
      refine v_get (T := TX2) (N := 3) (f0 := (M 54)) (v := rf g 55) ok mi_X2_firstLeft_2 (kd_lt (show kd 54 = 2 from rfl) (by decide)) rfl rfl (cellF_2 _ (by decide)) 0 (by decide) mk_X2_firstLeft_9 rfl rfl dX2_firstLeft_4 ?_
      refine v_alen (n := 12) ok (Or.inl (by decide)) rfl dX2_firstLeft_7 ?_
      refine v_icmp_ge (tgt := 28) ok ⟨by omega, by omega⟩ (by decide) dX2_firstLeft_8 (by decide) (fun c1 => ?_) (fun c1 => ?_)
      · skip
        have hr : rsc (M 55) 12 0 = -1 := by rw [i2_1, show (12 - h).toNat = 0 by omega]; rfl
        refine v_iconst (n := -1) ok dX2_firstLeft_28 ?_
        exact v_iret ok rt dX2_firstLeft_29 (⟨(congrArg (fun q : Int => some (iv q)) (show (-1) = (rsc (M 55) 12 0) from by (rw [hr]))), rfl⟩)
      · skip
        refine v_aload_n ok 0 dX2_firstLeft_11 rfl rfl ?_
        refine v_get (T := TX2) (N := 3) (f0 := (M 54)) (v := rf g 55) ok mi_X2_firstLeft_2 (kd_lt (show kd 54 = 2 from rfl) (by decide)) rfl rfl (cellF_2 _ (by decide)) 0 (by decide) mk_X2_firstLeft_9 rfl rfl dX2_firstLeft_12 ?_
        refine v_iload_n ok 1 dX2_firstLeft_15 rfl rfl ?_
        refine v_iald (n := 12) (f0 := (M 55)) ok (by decide) rfl (by omega) rfl dX2_firstLeft_16 ?_
        have b2 := hL h (by omega) (by omega)
        refine v_if_eq (tgt := 22) ok ⟨by omega, by omega⟩ dX2_firstLeft_17 (by decide) (fun c3 => ?_) (fun c3 => ?_)
        · skip
          have hb : rsc (M 55) 12 0 = rsc (M 55) (12 - (h + 1)).toNat (h + 1) := by rw [i2_1, nat_s (show h < 12 by omega), rsc_f (by omega)]
          refine v_iinc ok 1 [(1, iv (h + 1)), (0, rf g 54)] dX2_firstLeft_22 rfl (by decide) rfl ?_
          refine v_goto (tgt := 2) ok dX2_firstLeft_25 (by decide) ?_
          refine v_lv (ls' := [(0, rf g 54), (1, iv (h + 1))]) ok [1, 0] rfl ?_
          exact ih2 (h + 1) (by omega) hb (by omega)
        · skip
          have hr : rsc (M 55) 12 0 = h := by rw [i2_1, nat_s (show h < 12 by omega), rsc_t (by omega)]
          refine v_iload_n ok 1 dX2_firstLeft_20 rfl rfl ?_
          exact v_iret ok rt dX2_firstLeft_21 (⟨(congrArg (fun q : Int => some (iv q)) (show h = (rsc (M 55) 12 0) from by (rw [hr]))), rfl⟩)
  refine v_lv (ls' := [(0, rf g 54), (1, iv 0)]) ok [1, 0] rfl ?_
  exact lp2 _ 0 (by omega) rfl (Nat.lt_succ_self _)

theorem mk_X2_takeAway_9 : Cond.fieldLink RX2 9 "StormRunoff$Division" "left" "[I" ∈ wsX2_takeAway := by decide +kernel
theorem mi_X2_takeAway_2 : ∀ w ∈ wsX20, w ∈ wsX2_takeAway := by decide +kernel
theorem ms_X2_takeAway_X9_between : Cond.static yX9_between ∈ wsX2_takeAway := by decide +kernel
theorem mn_X2_takeAway_X9_between : Cond.initialized yX9_between.cls ∈ wsX2_takeAway := by decide +kernel
theorem mq_X2_takeAway_X9_between : (RX2, 44, yX9_between) ∈ nestW := by decide +kernel
set_option maxRecDepth 100000 in
set_option maxHeartbeats 400000 in
theorem ct_X2_takeAway (l : Launch) (g : Gl) (M : Mem) (f t : Int) (a : Nat) (n : Int) (ha : kd a = 11) (hn : (ln a : Int) = n) (hne : a ≠ 55) (hf : 0 ≤ f ∧ f ≤ 12) : Ct l g yX2_takeAway wsX2_takeAway 1 22 [rf g 54, iv f, iv t, rf g a] M (fun rv M' => rv = none ∧ M' = (up1 M 55 (tkw (M 55) f t (M a) n))) := by
  refine Ct.of (cc := cX2_takeAway) (nL := 5) (ret := none) (by decide) rfl (Nat.le_of_ble_eq_true rfl) (fun z hz ok rt => ?_)
  have ok : Ok z g cX2_takeAway 5 RX2 wsX2_takeAway 1 22 := ok
  show V z g 5 M [(0, rf g 54), (1, iv f), (2, iv t), (3, rf g a)] [] 0
  have hn0 := ln_le a
  refine v_iconst (n := 0) ok dX2_takeAway_0 ?_
  refine v_istore ok [(4, iv 0), (0, rf g 54), (1, iv f), (2, iv t), (3, rf g a)] dX2_takeAway_1 (by decide) rfl ?_
  have lp3 : ∀ (fu : Nat) (k : Int) (G : Int → Int), (0 ≤ k ∧ k ≤ n) → (∀ j : Int, 0 ≤ j → j < 12 → G j = tkw (M 55) f t (M a) k j) → (n - k).toNat < fu → V z g 5 (up1 M 55 G) [(0, rf g 54), (1, iv f), (2, iv t), (3, rf g a), (4, iv k)] [] 3 := by
    intro fu
    induction fu with
    | zero => intro k G _ _ hm; exact absurd hm (Nat.not_lt_zero _)
    | succ fu ih3 =>
      intro k G i3_0 i3_1 hm3
      refine v_iload ok 4 dX2_takeAway_3 rfl ?_
      refine v_aload_n ok 3 dX2_takeAway_5 rfl rfl ?_
      refine v_alen (n := n) ok (Or.inl ha) hn dX2_takeAway_6 ?_
      refine v_icmp_ge (tgt := 52) ok ⟨by omega, by omega⟩ ⟨by omega, by omega⟩ dX2_takeAway_7 (by decide) (fun c1 => ?_) (fun c1 => ?_)
      · skip
        refine v_cong (n := 12) (tkw (M 55) f t (M a) n) (Or.inl (by decide)) rfl (fun j j0 j1 => by rw [i3_1 j j0 j1]; exact tkw_cut i3_0.2 (m := 12) (by omega) j j0 j1) ?_
        exact v_vret ok rt dX2_takeAway_52 (⟨rfl, rfl⟩)
      · skip
        refine v_iload_n ok 1 dX2_takeAway_10 rfl rfl ?_
        refine v_iload ok 4 dX2_takeAway_11 rfl ?_
        refine v_iadd ok dX2_takeAway_13 ?_
        refine v_iconst (n := 0) ok dX2_takeAway_14 ?_
        refine v_aload_n ok 0 dX2_takeAway_15 rfl rfl ?_
        refine v_get (T := TX2) (N := 3) (f0 := (M 54)) (v := rf g 55) ok mi_X2_takeAway_2 (kd_lt (show kd 54 = 2 from rfl) (by decide)) rfl rfl (cellF_2 _ (by decide)) 0 (by decide) mk_X2_takeAway_9 rfl rfl dX2_takeAway_16 ?_
        refine v_alen (n := 12) ok (Or.inl (by decide)) rfl dX2_takeAway_19 ?_
        refine v_iconst (n := 1) ok dX2_takeAway_20 ?_
        refine v_isub ok dX2_takeAway_21 ?_
        show V z g 5 (up1 M 55 G) [(0, rf g 54), (1, iv f), (2, iv t), (3, rf g a), (4, iv k)] [iv 11, iv 0, iv (f + k)] 22
        refine v_callN (na := 3) ok (ct_X9_between z.2.1 g (up1 M 55 G) (f + k) 0 11 ⟨by omega, by omega⟩ (by decide) (by decide)) gX2_takeAway_X9_between_n44 mq_X2_takeAway_X9_between ms_X2_takeAway_X9_between mn_X2_takeAway_X9_between rfl (by decide +kernel) rfl (by decide) [] rfl (Nat.le_of_ble_eq_true rfl) dX2_takeAway_22 (fun v3 M4 hp2 => ?_)
        rcases hp2 with ⟨rfl, rfl, h5⟩ | ⟨rfl, rfl, h6⟩
        · skip
          show V z g 5 (up1 M 55 G) [(0, rf g 54), (1, iv f), (2, iv t), (3, rf g a), (4, iv k)] [iv 1] 25
          refine v_if_eq (tgt := 52) ok (by decide) dX2_takeAway_25 (by decide) (fun c7 => absurd c7 (by decide)) (fun c7 => ?_)
          refine v_aload_n ok 0 dX2_takeAway_28 rfl rfl ?_
          refine v_get (T := TX2) (N := 3) (f0 := (M 54)) (v := rf g 55) ok mi_X2_takeAway_2 (kd_lt (show kd 54 = 2 from rfl) (by decide)) rfl rfl (cellF_2 _ (by decide)) 0 (by decide) mk_X2_takeAway_9 rfl rfl dX2_takeAway_29 ?_
          refine v_iload_n ok 1 dX2_takeAway_32 rfl rfl ?_
          refine v_iload ok 4 dX2_takeAway_33 rfl ?_
          refine v_iadd ok dX2_takeAway_35 ?_
          refine v_dup2 ok rfl rfl dX2_takeAway_36 ?_
          refine v_iald (n := 12) (f0 := G) ok (by decide) rfl (by omega) rfl dX2_takeAway_37 ?_
          refine v_iload_n ok 2 dX2_takeAway_38 rfl rfl ?_
          refine v_aload_n ok 3 dX2_takeAway_39 rfl rfl ?_
          refine v_iload ok 4 dX2_takeAway_40 rfl ?_
          refine v_iald (n := n) (f0 := (M a)) ok ha hn (by omega) (by rw [up1_ne hne]) dX2_takeAway_42 ?_
          refine v_imul ok dX2_takeAway_43 ?_
          refine v_isub ok dX2_takeAway_44 ?_
          refine v_iast (n := 12) (f0 := G) ok (by decide) rfl (by omega) rfl dX2_takeAway_45 ?_
          rw [up1_up1]
          refine v_iinc ok 4 [(4, iv (k + 1)), (0, rf g 54), (1, iv f), (2, iv t), (3, rf g a)] dX2_takeAway_46 rfl (by decide) rfl ?_
          refine v_goto (tgt := 3) ok dX2_takeAway_49 (by decide) ?_
          refine v_lv (ls' := [(0, rf g 54), (1, iv f), (2, iv t), (3, rf g a), (4, iv (k + 1))]) ok [1, 2, 3, 4, 0] rfl ?_
          exact ih3 (k + 1) (up G (f + k) ((G (f + k)) - (t * (M a k)))) (by omega) (tkw_in i3_0.1 i3_1 (by omega) (by omega)) (by omega)
        · skip
          show V z g 5 (up1 M 55 G) [(0, rf g 54), (1, iv f), (2, iv t), (3, rf g a), (4, iv k)] [iv 0] 25
          refine v_if_eq (tgt := 52) ok (by decide) dX2_takeAway_25 (by decide) (fun c8 => ?_) (fun c8 => absurd c8 (by decide))
          refine v_cong (n := 12) (tkw (M 55) f t (M a) n) (Or.inl (by decide)) rfl (fun j j0 j1 => by rw [i3_1 j j0 j1]; exact tkw_cut i3_0.2 (m := 12) (by omega) j j0 j1) ?_
          exact v_vret ok rt dX2_takeAway_52 (⟨rfl, rfl⟩)
  refine v_lv (ls' := [(0, rf g 54), (1, iv f), (2, iv t), (3, rf g a), (4, iv 0)]) ok [1, 2, 3, 4, 0] rfl ?_
  rw [show (M : Mem) = (up1 M 55 (M 55)) from (by
        funext j
        by_cases hj0 : j = 55
        · subst hj0; simp [up1, up1_self]
        simp [up1, hj0])]
  exact lp3 _ 0 (M 55) (by omega) (fun j _ _ => by unfold tkw; rw [if_neg (by omega)]) (Nat.lt_succ_self _)

theorem mk_X2_unfoldBy_9 : Cond.fieldLink RX2 9 "StormRunoff$Division" "left" "[I" ∈ wsX2_unfoldBy := by decide +kernel
theorem mi_X2_unfoldBy_2 : ∀ w ∈ wsX20, w ∈ wsX2_unfoldBy := by decide +kernel
theorem ms_X2_unfoldBy_X9_copyNumbers : Cond.static yX9_copyNumbers ∈ wsX2_unfoldBy := by decide +kernel
theorem mn_X2_unfoldBy_X9_copyNumbers : Cond.initialized yX9_copyNumbers.cls ∈ wsX2_unfoldBy := by decide +kernel
theorem mq_X2_unfoldBy_X9_copyNumbers : (RX2, 21, yX9_copyNumbers) ∈ nestW := by decide +kernel
theorem mk_X2_unfoldBy_15 : Cond.fieldLink RX2 15 "StormRunoff$Division" "rain" "[I" ∈ wsX2_unfoldBy := by decide +kernel
theorem mk_X2_unfoldBy_25 : Cond.fieldLink RX2 25 "StormRunoff$Basin" "answer" "[I" ∈ wsX2_unfoldBy := by decide +kernel
theorem mi_X2_unfoldBy_0 : ∀ w ∈ wsX00, w ∈ wsX2_unfoldBy := by decide +kernel
set_option maxRecDepth 100000 in
set_option maxHeartbeats 400000 in
theorem ct_X2_unfoldBy (l : Launch) (g : Gl) (M : Mem) (b : Nat) (hb : kd b = 0) (hT : bdf (M 11) 12 0 999) (hA : bdf (M (b + 1)) 5 0 9) : Ct l g yX2_unfoldBy wsX2_unfoldBy 2 46 [rf g 54, rf g b, rf g 11] M (fun rv M' => ∃ (L U : Int → Int), rv = some (iv (unfR (M 11) (M (b + 1)))) ∧ M' = (up1 (up1 M 55 L) 56 U) ∧ (unfR (M 11) (M (b + 1)) = -5 → ∀ k : Int, 0 ≤ k → k < 8 → U k = dvQ (M 11) (M (b + 1)) 0 5 k)) := by
  refine Ct.of (cc := cX2_unfoldBy) (nL := 4) (ret := (some .int)) (by decide) rfl (Nat.le_of_ble_eq_true rfl) (fun z hz ok rt => ?_)
  have ok : Ok z g cX2_unfoldBy 4 RX2 wsX2_unfoldBy 2 46 := ok
  show V z g 4 M [(0, rf g 54), (1, rf g b), (2, rf g 11)] [] 0
  have hA0 := hA 0 (by omega) (by omega)
  refine v_aload_n ok 2 dX2_unfoldBy_0 rfl rfl ?_
  refine v_aload_n ok 0 dX2_unfoldBy_1 rfl rfl ?_
  refine v_get (T := TX2) (N := 3) (f0 := (M 54)) (v := rf g 55) ok mi_X2_unfoldBy_2 (kd_lt (show kd 54 = 2 from rfl) (by decide)) rfl rfl (cellF_2 _ (by decide)) 0 (by decide) mk_X2_unfoldBy_9 rfl rfl dX2_unfoldBy_2 ?_
  refine v_callN (na := 2) ok (ct_X9_copyNumbers z.2.1 g M 11 55 12 (by decide) (by decide) rfl rfl (show (11 : Nat) ≠ 55 by decide)) gX2_unfoldBy_X9_copyNumbers_n21 mq_X2_unfoldBy_X9_copyNumbers ms_X2_unfoldBy_X9_copyNumbers mn_X2_unfoldBy_X9_copyNumbers rfl (by decide +kernel) rfl (by decide) [] rfl (Nat.le_of_ble_eq_true rfl) dX2_unfoldBy_5 (fun v2 M3 hp1 => ?_)
  obtain ⟨rfl, rfl⟩ := hp1
  show V z g 4 (up1 M 55 ((M 11))) [(0, rf g 54), (1, rf g b), (2, rf g 11)] [] 8
  refine v_iconst (n := 0) ok dX2_unfoldBy_8 ?_
  refine v_istore_n ok [(3, iv 0), (0, rf g 54), (1, rf g b), (2, rf g 11)] dX2_unfoldBy_9 rfl (by decide) rfl ?_
  have lp10 : ∀ (fu : Nat) (h : Int) (U : Int → Int), (0 ≤ h ∧ h ≤ 8) → (dvB (M 11) (M (b + 1)) 0 5 20 8 0 = dvB (M 11) (M (b + 1)) 0 5 20 (8 - h).toNat h.toNat) → (bdf (dvL (M 11) (M (b + 1)) 0 5 h.toNat) 12 (-(180 * h)) 999) → (∀ j : Int, 0 ≤ j → j < h → U j = dvQ (M 11) (M (b + 1)) 0 5 j) → (∀ j : Int, 0 ≤ j → j < h → dvL (M 11) (M (b + 1)) 0 5 h.toNat j = 0) → (8 - h).toNat < fu → V z g 4 (up1 (up1 M 55 (dvL (M 11) (M (b + 1)) 0 5 h.toNat)) 56 U) [(0, rf g 54), (1, rf g b), (2, rf g 11), (3, iv h)] [] 10 := by
    intro fu
    induction fu with
    | zero => intro h U _ _ _ _ _ hm; exact absurd hm (Nat.not_lt_zero _)
    | succ fu ih10 =>
      intro h U i10_0 i10_1 i10_2 i10_3 i10_4 hm10
      have hv := i10_2 h i10_0.1 (by omega)
      refine v_iload_n ok 3 dX2_unfoldBy_10 rfl rfl ?_
      refine v_aload_n ok 0 dX2_unfoldBy_11 rfl rfl ?_
      refine v_get (T := TX2) (N := 3) (f0 := (M 54)) (v := rf g 56) ok mi_X2_unfoldBy_2 (kd_lt (show kd 54 = 2 from rfl) (by decide)) rfl rfl (cellF_2 _ (by decide)) 1 (by decide) mk_X2_unfoldBy_15 rfl rfl dX2_unfoldBy_12 ?_
      refine v_alen (n := 8) ok (Or.inl (by decide)) rfl dX2_unfoldBy_15 ?_
      refine v_icmp_ge (tgt := 83) ok ⟨by omega, by omega⟩ (by decide) dX2_unfoldBy_16 (by decide) (fun c4 => ?_) (fun c4 => ?_)
      · skip
        have e8 : h.toNat = 8 := by omega
        have hb1 : dvB (M 11) (M (b + 1)) 0 5 20 8 0 = -1 := by rw [i10_1, show (8 - h).toNat = 0 by omega]; rfl
        have hz8 : ∀ j : Int, 0 ≤ j → j < 8 → dvL (M 11) (M (b + 1)) 0 5 8 j = 0 := by
          intro j j0 j1
          have h9 := i10_4 j j0 (by omega)
          rw [e8] at h9
          exact h9
        have hl8 : bdf (dvL (M 11) (M (b + 1)) 0 5 8) 12 (-100000) 100000 := by
          intro j j0 j1
          have h9 := i10_2 j j0 j1
          rw [e8] at h9
          omega
        have hq8 : ∀ k : Int, 0 ≤ k → k < 8 → U k = dvQ (M 11) (M (b + 1)) 0 5 k := fun k k0 k1 => i10_3 k k0 (by omega)
        have hu := unfR_b hb1 hz8
        have hr := rsc_rng (L := dvL (M 11) (M (b + 1)) 0 5 8) 12 0 (by decide)
        rw [show ((up1 (up1 M 55 (dvL (M 11) (M (b + 1)) 0 5 h.toNat)) 56 U) : Mem) = (up1 (up1 M 55 (dvL (M 11) (M (b + 1)) 0 5 8)) 56 U) from (by rw [e8])]
        refine v_aload_n ok 0 dX2_unfoldBy_83 rfl rfl ?_
        refine v_callV (na := 0) (i := 54) (C := RX2) (T := TX2) (N := 3) (f0 := (M 54)) ok (ct_X2_firstLeft z.2.1 g (up1 (up1 M 55 (dvL (M 11) (M (b + 1)) 0 5 8)) 56 U)  hl8) gX2_unfoldBy_X2_firstLeft (kd_lt (show kd 54 = 2 from rfl) (by decide)) rfl rfl (cellF_2 _ (by decide)) rfl (by decide +kernel) rfl (by decide) [] rfl (Nat.le_of_ble_eq_true rfl) dX2_unfoldBy_84 (fun v6 M7 hp5 => ?_)
        obtain ⟨rfl, rfl⟩ := hp5
        show V z g 4 (up1 (up1 M 55 (dvL (M 11) (M (b + 1)) 0 5 8)) 56 U) [(0, rf g 54), (1, rf g b), (2, rf g 11), (3, iv h)] [iv (rsc ((dvL (M 11) (M (b + 1)) 0 5 8)) 12 0)] 87
        refine v_istore_n ok [(3, iv (rsc ((dvL (M 11) (M (b + 1)) 0 5 8)) 12 0)), (0, rf g 54), (1, rf g b), (2, rf g 11)] dX2_unfoldBy_87 rfl (by decide) rfl ?_
        refine v_iload_n ok 0 dX2_unfoldBy_88 rfl rfl ?_
        refine v_if_ge (tgt := 97) ok ⟨by omega, by omega⟩ dX2_unfoldBy_89 (by decide) (fun c8 => ?_) (fun c8 => ?_)
        · skip
          refine v_iload_n ok 0 dX2_unfoldBy_97 rfl rfl ?_
          exact v_iret ok rt dX2_unfoldBy_98 (⟨(dvL (M 11) (M (b + 1)) 0 5 8), U, (congrArg (fun q : Int => some (iv q)) (show (rsc ((dvL (M 11) (M (b + 1)) 0 5 8)) 12 0) = (unfR (M 11) (M (b + 1))) from by (first | exact (hu.1 (by omega)).symm | exact (hu.2 (by omega)).symm))), rfl, (fun _ => hq8)⟩)
        · skip
          refine v_bipush (n := -5) ok rfl dX2_unfoldBy_92 ?_
          refine v_goto (tgt := 98) ok dX2_unfoldBy_94 (by decide) ?_
          exact v_iret ok rt dX2_unfoldBy_98 (⟨(dvL (M 11) (M (b + 1)) 0 5 8), U, (congrArg (fun q : Int => some (iv q)) (show (-5) = (unfR (M 11) (M (b + 1))) from by (first | exact (hu.1 (by omega)).symm | exact (hu.2 (by omega)).symm))), rfl, (fun _ => hq8)⟩)
      · skip
        refine v_iload_n ok 3 dX2_unfoldBy_19 rfl rfl ?_
        refine v_aload_n ok 0 dX2_unfoldBy_20 rfl rfl ?_
        refine v_get (T := TX2) (N := 3) (f0 := (M 54)) (v := rf g 55) ok mi_X2_unfoldBy_2 (kd_lt (show kd 54 = 2 from rfl) (by decide)) rfl rfl (cellF_2 _ (by decide)) 0 (by decide) mk_X2_unfoldBy_9 rfl rfl dX2_unfoldBy_21 ?_
        refine v_alen (n := 12) ok (Or.inl (by decide)) rfl dX2_unfoldBy_24 ?_
        refine v_icmp_ge (tgt := 83) ok ⟨by omega, by omega⟩ (by decide) dX2_unfoldBy_25 (by decide) (fun c9 => absurd c9 (by omega)) (fun c9 => ?_)
        refine v_aload_n ok 0 dX2_unfoldBy_28 rfl rfl ?_
        refine v_get (T := TX2) (N := 3) (f0 := (M 54)) (v := rf g 56) ok mi_X2_unfoldBy_2 (kd_lt (show kd 54 = 2 from rfl) (by decide)) rfl rfl (cellF_2 _ (by decide)) 1 (by decide) mk_X2_unfoldBy_15 rfl rfl dX2_unfoldBy_29 ?_
        refine v_iload_n ok 3 dX2_unfoldBy_32 rfl rfl ?_
        refine v_aload_n ok 0 dX2_unfoldBy_33 rfl rfl ?_
        refine v_get (T := TX2) (N := 3) (f0 := (M 54)) (v := rf g 55) ok mi_X2_unfoldBy_2 (kd_lt (show kd 54 = 2 from rfl) (by decide)) rfl rfl (cellF_2 _ (by decide)) 0 (by decide) mk_X2_unfoldBy_9 rfl rfl dX2_unfoldBy_34 ?_
        refine v_iload_n ok 3 dX2_unfoldBy_37 rfl rfl ?_
        refine v_iald (n := 12) (f0 := (dvL (M 11) (M (b + 1)) 0 5 h.toNat)) ok (by decide) rfl (by omega) rfl dX2_unfoldBy_38 ?_
        refine v_aload_n ok 1 dX2_unfoldBy_39 rfl rfl ?_
        refine v_get (T := TX0) (N := 4) (f0 := (M b)) (v := rf g (b + 1)) ok mi_X2_unfoldBy_0 (kd_lt hb (by decide)) rfl (by rw [up1_ne (kd_ne (show kd b = 0 from hb) (show kd 56 = 11 from rfl) (by decide)), up1_ne (kd_ne (show kd b = 0 from hb) (show kd 55 = 11 from rfl) (by decide))]) (cellF_0 _ hb) 0 (by decide) mk_X2_unfoldBy_25 rfl rfl dX2_unfoldBy_40 ?_
        refine v_iconst (n := 0) ok dX2_unfoldBy_43 ?_
        refine v_iald (n := 5) (f0 := (M (b + 1))) ok (kd_c0_1 hb) (ln_c0_1 hb) (by omega) (by rw [up1_ne (ln_ne (show (ln (b + 1) : Int) = 5 from (ln_c0_1 hb)) (show (ln 56 : Int) = 8 from rfl) (by decide)), up1_ne (ln_ne (show (ln (b + 1) : Int) = 5 from (ln_c0_1 hb)) (show (ln 55 : Int) = 12 from rfl) (by decide))]) dX2_unfoldBy_44 ?_
        refine v_bipush (n := 20) ok rfl dX2_unfoldBy_45 ?_
        refine v_callS (na := 3) ok (ct_X2_wholePart z.2.1 g (up1 (up1 M 55 (dvL (M 11) (M (b + 1)) 0 5 h.toNat)) 56 U) ((dvL (M 11) (M (b + 1)) 0 5 h.toNat) h) (M (b + 1) 0) 20 ⟨by omega, by omega⟩ (⟨by omega, by omega⟩) (by decide)) gX2_unfoldBy_X2_wholePart rfl (by decide +kernel) rfl (by decide) [iv h, rf g 56] rfl (Nat.le_of_ble_eq_true rfl) dX2_unfoldBy_47 (fun v11 M12 hp10 => ?_)
        rcases hp10 with ⟨rfl, rfl, h13⟩ | ⟨rfl, rfl, h14⟩
        · skip
          show V z g 4 (up1 (up1 M 55 (dvL (M 11) (M (b + 1)) 0 5 h.toNat)) 56 U) [(0, rf g 54), (1, rf g b), (2, rf g 11), (3, iv h)] [iv (((dvL (M 11) (M (b + 1)) 0 5 h.toNat) h) / (M (b + 1) 0)), iv h, rf g 56] 50
          have hw := h13
          have hq : dvL (M 11) (M (b + 1)) 0 5 h.toNat h / M (b + 1) 0 = dvQ (M 11) (M (b + 1)) 0 5 h := by unfold dvQ; rw [Int.zero_add]
          have hq0 : 0 ≤ dvL (M 11) (M (b + 1)) 0 5 h.toNat h / M (b + 1) 0 := Int.ediv_nonneg (by omega) (by omega)
          have hw2 : whl (dvL (M 11) (M (b + 1)) 0 5 h.toNat (0 + h)) (M (b + 1) 0) 20 := by rw [Int.zero_add]; exact hw
          have hb1 : dvB (M 11) (M (b + 1)) 0 5 20 8 0 = dvB (M 11) (M (b + 1)) 0 5 20 (8 - (h + 1)).toNat (h + 1).toNat := by rw [i10_1, nat_s (show h < 8 by omega), dvB_t i10_0.1 hw2]
          have hb2 : bdf (dvL (M 11) (M (b + 1)) 0 5 (h + 1).toNat) 12 (-(180 * (h + 1))) 999 := by
            rw [dvL_s i10_0.1, ← hq]
            intro j j0 j1
            have h9 := tkw_rng (f := h) (n := 5) (A := M (b + 1)) i10_2 (fun k k0 k1 => prd_rng (x := M (b + 1) k) hq0 hw.2.2.2 (hA k k0 k1).1 (hA k k0 k1).2 (by decide) (by decide)) j j0 j1
            omega
          have hb4 := dv_zero (T := M 11) (D := M (b + 1)) i10_0.1 (by decide) hw2 i10_4
          refine v_iast (n := 8) (f0 := U) ok (by decide) rfl (by omega) rfl dX2_unfoldBy_50 ?_
          rw [up1_up1]
          refine v_aload_n ok 0 dX2_unfoldBy_51 rfl rfl ?_
          refine v_get (T := TX2) (N := 3) (f0 := (M 54)) (v := rf g 56) ok mi_X2_unfoldBy_2 (kd_lt (show kd 54 = 2 from rfl) (by decide)) rfl rfl (cellF_2 _ (by decide)) 1 (by decide) mk_X2_unfoldBy_15 rfl rfl dX2_unfoldBy_52 ?_
          refine v_iload_n ok 3 dX2_unfoldBy_55 rfl rfl ?_
          refine v_iald (n := 8) (f0 := up U h (((dvL (M 11) (M (b + 1)) 0 5 h.toNat) h) / (M (b + 1) 0))) ok (by decide) rfl (by omega) rfl dX2_unfoldBy_56 ?_
          rw [show ((up U h (((dvL (M 11) (M (b + 1)) 0 5 h.toNat) h) / (M (b + 1) 0)) h) : Int) = (dvL (M 11) (M (b + 1)) 0 5 h.toNat h / M (b + 1) 0) from (by rw [up_same])]
          refine v_if_ge (tgt := 62) ok ⟨by omega, by omega⟩ dX2_unfoldBy_57 (by decide) (fun c15 => ?_) (fun c15 => absurd c15 (by omega))
          refine v_aload_n ok 0 dX2_unfoldBy_62 rfl rfl ?_
          refine v_iload_n ok 3 dX2_unfoldBy_63 rfl rfl ?_
          refine v_aload_n ok 0 dX2_unfoldBy_64 rfl rfl ?_
          refine v_get (T := TX2) (N := 3) (f0 := (M 54)) (v := rf g 56) ok mi_X2_unfoldBy_2 (kd_lt (show kd 54 = 2 from rfl) (by decide)) rfl rfl (cellF_2 _ (by decide)) 1 (by decide) mk_X2_unfoldBy_15 rfl rfl dX2_unfoldBy_65 ?_
          refine v_iload_n ok 3 dX2_unfoldBy_68 rfl rfl ?_
          refine v_iald (n := 8) (f0 := up U h (((dvL (M 11) (M (b + 1)) 0 5 h.toNat) h) / (M (b + 1) 0))) ok (by decide) rfl (by omega) rfl dX2_unfoldBy_69 ?_
          rw [show ((up U h (((dvL (M 11) (M (b + 1)) 0 5 h.toNat) h) / (M (b + 1) 0)) h) : Int) = (dvL (M 11) (M (b + 1)) 0 5 h.toNat h / M (b + 1) 0) from (by rw [up_same])]
          refine v_aload_n ok 1 dX2_unfoldBy_70 rfl rfl ?_
          refine v_get (T := TX0) (N := 4) (f0 := (M b)) (v := rf g (b + 1)) ok mi_X2_unfoldBy_0 (kd_lt hb (by decide)) rfl (by rw [up1_ne (kd_ne (show kd b = 0 from hb) (show kd 56 = 11 from rfl) (by decide)), up1_ne (kd_ne (show kd b = 0 from hb) (show kd 55 = 11 from rfl) (by decide))]) (cellF_0 _ hb) 0 (by decide) mk_X2_unfoldBy_25 rfl rfl dX2_unfoldBy_71 ?_
          refine v_callV (na := 3) (i := 54) (C := RX2) (T := TX2) (N := 3) (f0 := (M 54)) ok (ct_X2_takeAway z.2.1 g (up1 (up1 M 55 (dvL (M 11) (M (b + 1)) 0 5 h.toNat)) 56 (up U h (((dvL (M 11) (M (b + 1)) 0 5 h.toNat) h) / (M (b + 1) 0)))) h (dvL (M 11) (M (b + 1)) 0 5 h.toNat h / M (b + 1) 0) (b + 1) 5 (kd_c0_1 hb) (ln_c0_1 hb) (ln_ne (show (ln (b + 1) : Int) = 5 from (ln_c0_1 hb)) (show (ln 55 : Int) = 12 from rfl) (by decide)) (by first | omega | assumption)) gX2_unfoldBy_X2_takeAway (kd_lt (show kd 54 = 2 from rfl) (by decide)) rfl rfl (cellF_2 _ (by decide)) rfl (by decide +kernel) rfl (by decide) [] rfl (Nat.le_of_ble_eq_true rfl) dX2_unfoldBy_74 (fun v17 M18 hp16 => ?_)
          obtain ⟨rfl, rfl⟩ := hp16
          rw [show ((up1 (up1 M 55 (dvL (M 11) (M (b + 1)) 0 5 h.toNat)) 56 (up U h (((dvL (M 11) (M (b + 1)) 0 5 h.toNat) h) / (M (b + 1) 0)))) : Mem) (b + 1) = (M (b + 1)) from (by rw [up1_ne (ln_ne (show (ln (b + 1) : Int) = 5 from (ln_c0_1 hb)) (show (ln 56 : Int) = 8 from rfl) (by decide)), up1_ne (ln_ne (show (ln (b + 1) : Int) = 5 from (ln_c0_1 hb)) (show (ln 55 : Int) = 12 from rfl) (by decide))])]
          show V z g 4 (up1 (up1 (up1 M 55 (dvL (M 11) (M (b + 1)) 0 5 h.toNat)) 56 (up U h (((dvL (M 11) (M (b + 1)) 0 5 h.toNat) h) / (M (b + 1) 0)))) 55 (tkw ((dvL (M 11) (M (b + 1)) 0 5 h.toNat)) h (dvL (M 11) (M (b + 1)) 0 5 h.toNat h / M (b + 1) 0) ((M (b + 1))) 5)) [(0, rf g 54), (1, rf g b), (2, rf g 11), (3, iv h)] [] 77
          rw [show ((up1 (up1 (up1 M 55 (dvL (M 11) (M (b + 1)) 0 5 h.toNat)) 56 (up U h (((dvL (M 11) (M (b + 1)) 0 5 h.toNat) h) / (M (b + 1) 0)))) 55 (tkw ((dvL (M 11) (M (b + 1)) 0 5 h.toNat)) h (dvL (M 11) (M (b + 1)) 0 5 h.toNat h / M (b + 1) 0) ((M (b + 1))) 5)) : Mem) = (up1 (up1 M 55 (tkw ((dvL (M 11) (M (b + 1)) 0 5 h.toNat)) h (dvL (M 11) (M (b + 1)) 0 5 h.toNat h / M (b + 1) 0) ((M (b + 1))) 5)) 56 (up U h (((dvL (M 11) (M (b + 1)) 0 5 h.toNat) h) / (M (b + 1) 0)))) from (by
                funext j
                by_cases hj0 : j = 55
                · subst hj0; simp [up1, up1_self]
                by_cases hj1 : j = 56
                · subst hj1; simp [up1, up1_self]
                simp [up1, hj0, hj1])]
          rw [show ((up1 (up1 M 55 (tkw ((dvL (M 11) (M (b + 1)) 0 5 h.toNat)) h (dvL (M 11) (M (b + 1)) 0 5 h.toNat h / M (b + 1) 0) ((M (b + 1))) 5)) 56 (up U h (((dvL (M 11) (M (b + 1)) 0 5 h.toNat) h) / (M (b + 1) 0)))) : Mem) = (up1 (up1 M 55 (dvL (M 11) (M (b + 1)) 0 5 (h + 1).toNat)) 56 (up U h (dvL (M 11) (M (b + 1)) 0 5 h.toNat h / M (b + 1) 0))) from (by rw [dvL_s i10_0.1, ← hq])]
          refine v_iinc ok 3 [(3, iv (h + 1)), (0, rf g 54), (1, rf g b), (2, rf g 11)] dX2_unfoldBy_77 rfl (by decide) rfl ?_
          refine v_goto (tgt := 10) ok dX2_unfoldBy_80 (by decide) ?_
          refine v_lv (ls' := [(0, rf g 54), (1, rf g b), (2, rf g 11), (3, iv (h + 1))]) ok [1, 2, 3, 0] rfl ?_
          exact ih10 (h + 1) (up U h (dvL (M 11) (M (b + 1)) 0 5 h.toNat h / M (b + 1) 0)) (by omega) hb1 hb2 (up_lt i10_3 hq) hb4 (by omega)
        · skip
          show V z g 4 (up1 (up1 M 55 (dvL (M 11) (M (b + 1)) 0 5 h.toNat)) 56 U) [(0, rf g 54), (1, rf g b), (2, rf g 11), (3, iv h)] [iv (-1), iv h, rf g 56] 50
          have hw := h14
          have hb1 : dvB (M 11) (M (b + 1)) 0 5 20 8 0 = h := by rw [i10_1, nat_s (show h < 8 by omega), dvB_f i10_0.1 (by rw [Int.zero_add]; exact hw)]
          refine v_iast (n := 8) (f0 := U) ok (by decide) rfl (by omega) rfl dX2_unfoldBy_50 ?_
          rw [up1_up1]
          refine v_aload_n ok 0 dX2_unfoldBy_51 rfl rfl ?_
          refine v_get (T := TX2) (N := 3) (f0 := (M 54)) (v := rf g 56) ok mi_X2_unfoldBy_2 (kd_lt (show kd 54 = 2 from rfl) (by decide)) rfl rfl (cellF_2 _ (by decide)) 1 (by decide) mk_X2_unfoldBy_15 rfl rfl dX2_unfoldBy_52 ?_
          refine v_iload_n ok 3 dX2_unfoldBy_55 rfl rfl ?_
          refine v_iald (n := 8) (f0 := up U h (-1)) ok (by decide) rfl (by omega) rfl dX2_unfoldBy_56 ?_
          rw [show ((up U h (-1) h) : Int) = (-1) from (by rw [up_same])]
          refine v_if_ge (tgt := 62) ok (by decide) dX2_unfoldBy_57 (by decide) (fun c19 => absurd c19 (by decide)) (fun c19 => ?_)
          refine v_iload_n ok 3 dX2_unfoldBy_60 rfl rfl ?_
          exact v_iret ok rt dX2_unfoldBy_61 (⟨(dvL (M 11) (M (b + 1)) 0 5 h.toNat), (up U h (-1)), (congrArg (fun q : Int => some (iv q)) (show h = (unfR (M 11) (M (b + 1))) from by (rw [unfR_a i10_0.1 hb1]))), rfl, (fun q => by rw [unfR_a i10_0.1 hb1] at q; omega)⟩)
  rw [show ((up1 M 55 ((M 11))) : Mem) = (up1 M 55 (dvL (M 11) (M (b + 1)) 0 5 (0 : Int).toNat)) from rfl]
  refine v_lv (ls' := [(0, rf g 54), (1, rf g b), (2, rf g 11), (3, iv 0)]) ok [1, 2, 3, 0] rfl ?_
  rw [show ((up1 M 55 (dvL (M 11) (M (b + 1)) 0 5 (0 : Int).toNat)) : Mem) = (up1 (up1 M 55 (dvL (M 11) (M (b + 1)) 0 5 (0 : Int).toNat)) 56 (M 56)) from (by
        funext j
        by_cases hj0 : j = 55
        · subst hj0; simp [up1, up1_self]
        by_cases hj1 : j = 56
        · subst hj1; simp [up1, up1_self]
        simp [up1, hj0, hj1])]
  exact lp10 _ 0 (M 56) (by omega) rfl hT (fun j _ _ => by omega) (fun j _ _ => by omega) (Nat.lt_succ_self _)
