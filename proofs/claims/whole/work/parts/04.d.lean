theorem mk_X10_keepsRain_45 : Cond.fieldLink RX10 45 "StormRunoffModel" "rainWas" "[I" ∈ wsX10_keepsRain := by decide +kernel
theorem mi_X10_keepsRain_10 : ∀ w ∈ wsX100, w ∈ wsX10_keepsRain := by decide +kernel
theorem mk_X10_keepsRain_11 : Cond.fieldLink RX10 11 "StormRunoffModel" "w" "[I" ∈ wsX10_keepsRain := by decide +kernel
set_option maxRecDepth 100000 in
set_option maxHeartbeats 400000 in
theorem ct_X10_keepsRain (l : Launch) (g : Gl) (M : Mem)   : Ct l g yX10_keepsRain wsX10_keepsRain 0 0 [rf g 78] M (fun rv M' => rv = none ∧ M' = (up1 M 90 (M 79))) := by
  refine Ct.of (cc := cX10_keepsRain) (nL := 2) (ret := none) (by decide) rfl (Nat.le_of_ble_eq_true rfl) (fun z hz ok rt => ?_)
  have ok : Ok z g cX10_keepsRain 2 RX10 wsX10_keepsRain 0 0 := ok
  show V z g 2 M [(0, rf g 78)] [] 0
  refine v_iconst (n := 0) ok dX10_keepsRain_0 ?_
  refine v_istore_n ok [(1, iv 0), (0, rf g 78)] dX10_keepsRain_1 rfl (by decide) rfl ?_
  have lp2 : ∀ (fu : Nat) (h : Int) (F : Int → Int), (0 ≤ h ∧ h ≤ 8) → (∀ j : Int, 0 ≤ j → j < h → F j = M 79 j) → (8 - h).toNat < fu → V z g 2 (up1 M 90 F) [(0, rf g 78), (1, iv h)] [] 2 := by
    intro fu
    induction fu with
    | zero => intro h F _ _ hm; exact absurd hm (Nat.not_lt_zero _)
    | succ fu ih2 =>
      intro h F i2_0 i2_1 hm2
      refine v_iload_n ok 1 dX10_keepsRain_2 rfl rfl ?_
      refine v_bipush (n := 8) ok rfl dX10_keepsRain_3 ?_
      refine v_icmp_ge (tgt := 26) ok ⟨by omega, by omega⟩ (by decide) dX10_keepsRain_5 (by decide) (fun c1 => ?_) (fun c1 => ?_)
      · skip
        refine v_cong (n := 8) (M 79) (Or.inl (by decide)) rfl (fun j j0 j1 => i2_1 j j0 (by omega)) ?_
        exact v_vret ok rt dX10_keepsRain_26 (⟨rfl, rfl⟩)
      · skip
        refine v_aload_n ok 0 dX10_keepsRain_8 rfl rfl ?_
        refine v_get (T := TX10) (N := 22) (f0 := (M 78)) (v := rf g 90) ok mi_X10_keepsRain_10 (kd_lt (show kd 78 = 10 from rfl) (by decide)) rfl rfl (cellF_10 _ (by decide)) 17 (by decide) mk_X10_keepsRain_45 rfl rfl dX10_keepsRain_9 ?_
        refine v_iload_n ok 1 dX10_keepsRain_12 rfl rfl ?_
        refine v_aload_n ok 0 dX10_keepsRain_13 rfl rfl ?_
        refine v_get (T := TX10) (N := 22) (f0 := (M 78)) (v := rf g 79) ok mi_X10_keepsRain_10 (kd_lt (show kd 78 = 10 from rfl) (by decide)) rfl rfl (cellF_10 _ (by decide)) 0 (by decide) mk_X10_keepsRain_11 rfl rfl dX10_keepsRain_14 ?_
        refine v_iload_n ok 1 dX10_keepsRain_17 rfl rfl ?_
        refine v_iald (n := 90) (f0 := (M 79)) ok (by decide) rfl (by omega) rfl dX10_keepsRain_18 ?_
        refine v_iast (n := 8) (f0 := F) ok (by decide) rfl (by omega) rfl dX10_keepsRain_19 ?_
        rw [up1_up1]
        refine v_iinc ok 1 [(1, iv (h + 1)), (0, rf g 78)] dX10_keepsRain_20 rfl (by decide) rfl ?_
        refine v_goto (tgt := 2) ok dX10_keepsRain_23 (by decide) ?_
        refine v_lv (ls' := [(0, rf g 78), (1, iv (h + 1))]) ok [1, 0] rfl ?_
        exact ih2 (h + 1) (up F h (M 79 h)) (by omega) (up_lt i2_1 rfl) (by omega)
  refine v_lv (ls' := [(0, rf g 78), (1, iv 0)]) ok [1, 0] rfl ?_
  rw [show (M : Mem) = (up1 M 90 (M 90)) from (by
        funext j
        by_cases hj0 : j = 90
        · subst hj0; simp [up1, up1_self]
        simp [up1, hj0])]
  exact lp2 _ 0 (M 90) (by omega) (fun j j0 j1 => by omega) (Nat.lt_succ_self _)

theorem mk_X10_laysRain_11 : Cond.fieldLink RX10 11 "StormRunoffModel" "w" "[I" ∈ wsX10_laysRain := by decide +kernel
theorem mi_X10_laysRain_10 : ∀ w ∈ wsX100, w ∈ wsX10_laysRain := by decide +kernel
theorem mk_X10_laysRain_45 : Cond.fieldLink RX10 45 "StormRunoffModel" "rainWas" "[I" ∈ wsX10_laysRain := by decide +kernel
set_option maxRecDepth 100000 in
set_option maxHeartbeats 400000 in
theorem ct_X10_laysRain (l : Launch) (g : Gl) (M : Mem)   : Ct l g yX10_laysRain wsX10_laysRain 0 0 [rf g 78] M (fun rv M' => rv = none ∧ M' = (up1 M 79 (lay (M 90) (M 79)))) := by
  refine Ct.of (cc := cX10_laysRain) (nL := 2) (ret := none) (by decide) rfl (Nat.le_of_ble_eq_true rfl) (fun z hz ok rt => ?_)
  have ok : Ok z g cX10_laysRain 2 RX10 wsX10_laysRain 0 0 := ok
  show V z g 2 M [(0, rf g 78)] [] 0
  refine v_iconst (n := 0) ok dX10_laysRain_0 ?_
  refine v_istore_n ok [(1, iv 0), (0, rf g 78)] dX10_laysRain_1 rfl (by decide) rfl ?_
  have lp2 : ∀ (fu : Nat) (h : Int) (F : Int → Int), (0 ≤ h ∧ h ≤ 8) → (∀ j : Int, F j = if 0 ≤ j ∧ j < h then M 90 j else M 79 j) → (8 - h).toNat < fu → V z g 2 (up1 M 79 F) [(0, rf g 78), (1, iv h)] [] 2 := by
    intro fu
    induction fu with
    | zero => intro h F _ _ hm; exact absurd hm (Nat.not_lt_zero _)
    | succ fu ih2 =>
      intro h F i2_0 i2_1 hm2
      refine v_iload_n ok 1 dX10_laysRain_2 rfl rfl ?_
      refine v_bipush (n := 8) ok rfl dX10_laysRain_3 ?_
      refine v_icmp_ge (tgt := 26) ok ⟨by omega, by omega⟩ (by decide) dX10_laysRain_5 (by decide) (fun c1 => ?_) (fun c1 => ?_)
      · skip
        refine v_cong (n := 90) (lay (M 90) (M 79)) (Or.inl (by decide)) rfl (fun j j0 j1 => by rw [i2_1 j, show h = 8 by omega]; rfl) ?_
        exact v_vret ok rt dX10_laysRain_26 (⟨rfl, rfl⟩)
      · skip
        refine v_aload_n ok 0 dX10_laysRain_8 rfl rfl ?_
        refine v_get (T := TX10) (N := 22) (f0 := (M 78)) (v := rf g 79) ok mi_X10_laysRain_10 (kd_lt (show kd 78 = 10 from rfl) (by decide)) rfl rfl (cellF_10 _ (by decide)) 0 (by decide) mk_X10_laysRain_11 rfl rfl dX10_laysRain_9 ?_
        refine v_iload_n ok 1 dX10_laysRain_12 rfl rfl ?_
        refine v_aload_n ok 0 dX10_laysRain_13 rfl rfl ?_
        refine v_get (T := TX10) (N := 22) (f0 := (M 78)) (v := rf g 90) ok mi_X10_laysRain_10 (kd_lt (show kd 78 = 10 from rfl) (by decide)) rfl rfl (cellF_10 _ (by decide)) 17 (by decide) mk_X10_laysRain_45 rfl rfl dX10_laysRain_14 ?_
        refine v_iload_n ok 1 dX10_laysRain_17 rfl rfl ?_
        refine v_iald (n := 8) (f0 := (M 90)) ok (by decide) rfl (by omega) rfl dX10_laysRain_18 ?_
        refine v_iast (n := 90) (f0 := F) ok (by decide) rfl (by omega) rfl dX10_laysRain_19 ?_
        rw [up1_up1]
        refine v_iinc ok 1 [(1, iv (h + 1)), (0, rf g 78)] dX10_laysRain_20 rfl (by decide) rfl ?_
        refine v_goto (tgt := 2) ok dX10_laysRain_23 (by decide) ?_
        refine v_lv (ls' := [(0, rf g 78), (1, iv (h + 1))]) ok [1, 0] rfl ?_
        exact ih2 (h + 1) (up F h (M 90 h)) (by omega) (fun j => by
          by_cases e : j = h
          · rw [e, up_same, if_pos (by omega)]
          · rw [up_ne e, i2_1 j]
            by_cases c : 0 ≤ j ∧ j < h
            · rw [if_pos c, if_pos (by omega)]
            · rw [if_neg c, if_neg (by omega)]) (by omega)
  refine v_lv (ls' := [(0, rf g 78), (1, iv 0)]) ok [1, 0] rfl ?_
  rw [show (M : Mem) = (up1 M 79 (M 79)) from (by
        funext j
        by_cases hj0 : j = 79
        · subst hj0; simp [up1, up1_self]
        simp [up1, hj0])]
  exact lp2 _ 0 (M 79) (by omega) (fun j => by rw [if_neg (by omega)]) (Nat.lt_succ_self _)

theorem mk_X10_squares_27 : Cond.fieldLink RX10 27 "StormRunoffModel" "flow" "[I" ∈ wsX10_squares := by decide +kernel
theorem mi_X10_squares_10 : ∀ w ∈ wsX100, w ∈ wsX10_squares := by decide +kernel
theorem mk_X10_squares_11 : Cond.fieldLink RX10 11 "StormRunoffModel" "w" "[I" ∈ wsX10_squares := by decide +kernel
set_option maxRecDepth 100000 in
set_option maxHeartbeats 400000 in
theorem ct_X10_squares (l : Launch) (g : Gl) (M : Mem) (b : Int) (hb : 0 ≤ b ∧ b ≤ 2) (hw : WOk (M 79)) : Ct l g yX10_squares wsX10_squares 2 48 [rf g 78, iv b] M (fun rv M' => rv = some (iv (sqf (fl (M 79) (bsA (M 79) b) 8) (tdW (M 79)) 12)) ∧ M' = (up1 M 84 (fl (M 79) (bsA (M 79) b) 8))) := by
  refine Ct.of (cc := cX10_squares) (nL := 4) (ret := (some .int)) (by decide) rfl (Nat.le_of_ble_eq_true rfl) (fun z hz ok rt => ?_)
  have ok : Ok z g cX10_squares 4 RX10 wsX10_squares 2 48 := ok
  show V z g 4 M [(0, rf g 78), (1, iv b)] [] 0
  refine v_aload_n ok 0 dX10_squares_0 rfl rfl ?_
  refine v_iload_n ok 1 dX10_squares_1 rfl rfl ?_
  refine v_callV (na := 1) (i := 78) (C := RX10) (T := TX10) (N := 22) (f0 := (M 78)) ok (ct_X10_flows z.2.1 g M b (by first | omega | assumption)) gX10_squares_X10_flows (kd_lt (show kd 78 = 10 from rfl) (by decide)) rfl rfl (cellF_10 _ (by decide)) rfl (by decide +kernel) rfl (by decide) [] rfl (Nat.le_of_ble_eq_true rfl) dX10_squares_2 (fun v2 M3 hp1 => ?_)
  obtain ⟨rfl, rfl⟩ := hp1
  show V z g 4 (up1 M 84 (fl ((M 79)) (bsA ((M 79)) b) 8)) [(0, rf g 78), (1, iv b)] [] 5
  refine v_iconst (n := 0) ok dX10_squares_5 ?_
  refine v_istore_n ok [(2, iv 0), (0, rf g 78), (1, iv b)] dX10_squares_6 rfl (by decide) rfl ?_
  refine v_iconst (n := 0) ok dX10_squares_7 ?_
  refine v_istore_n ok [(3, iv 0), (2, iv 0), (0, rf g 78), (1, iv b)] dX10_squares_8 rfl (by decide) rfl ?_
  have lp9 : ∀ (fu : Nat) (h q : Int), (0 ≤ h ∧ h ≤ 12) → (q = sqf (fl (M 79) (bsA (M 79) b) 8) (tdW (M 79)) h.toNat) → (12 - h).toNat < fu → V z g 4 (up1 M 84 (fl (M 79) (bsA (M 79) b) 8)) [(0, rf g 78), (1, iv b), (2, iv q), (3, iv h)] [] 9 := by
    intro fu
    induction fu with
    | zero => intro h q _ _ hm; exact absurd hm (Nat.not_lt_zero _)
    | succ fu ih9 =>
      intro h q i9_0 i9_1 hm9
      refine v_iload_n ok 3 dX10_squares_9 rfl rfl ?_
      refine v_bipush (n := 12) ok rfl dX10_squares_10 ?_
      refine v_icmp_ge (tgt := 57) ok ⟨by omega, by omega⟩ (by decide) dX10_squares_12 (by decide) (fun c4 => ?_) (fun c4 => ?_)
      · skip
        have e12 : h.toNat = 12 := by omega
        refine v_iload_n ok 2 dX10_squares_57 rfl rfl ?_
        exact v_iret ok rt dX10_squares_58 (⟨(congrArg (fun q : Int => some (iv q)) (show q = (sqf (fl (M 79) (bsA (M 79) b) 8) (tdW (M 79)) 12) from by (rw [i9_1, e12]))), rfl⟩)
      · skip
        refine v_iload_n ok 2 dX10_squares_15 rfl rfl ?_
        refine v_aload_n ok 0 dX10_squares_16 rfl rfl ?_
        refine v_get (T := TX10) (N := 22) (f0 := (M 78)) (v := rf g 84) ok mi_X10_squares_10 (kd_lt (show kd 78 = 10 from rfl) (by decide)) rfl rfl (cellF_10 _ (by decide)) 10 (by decide) mk_X10_squares_27 rfl rfl dX10_squares_17 ?_
        refine v_iload_n ok 3 dX10_squares_20 rfl rfl ?_
        refine v_iald (n := 30) (f0 := (fl (M 79) (bsA (M 79) b) 8)) ok (by decide) rfl (by omega) rfl dX10_squares_21 ?_
        refine v_aload_n ok 0 dX10_squares_22 rfl rfl ?_
        refine v_get (T := TX10) (N := 22) (f0 := (M 78)) (v := rf g 79) ok mi_X10_squares_10 (kd_lt (show kd 78 = 10 from rfl) (by decide)) rfl rfl (cellF_10 _ (by decide)) 0 (by decide) mk_X10_squares_11 rfl rfl dX10_squares_23 ?_
        refine v_bipush (n := 8) ok rfl dX10_squares_26 ?_
        refine v_iload_n ok 3 dX10_squares_28 rfl rfl ?_
        refine v_iadd ok dX10_squares_29 ?_
        refine v_iald (n := 90) (f0 := (M 79)) ok (by decide) rfl (by omega) rfl dX10_squares_30 ?_
        refine v_isub ok dX10_squares_31 ?_
        refine v_aload_n ok 0 dX10_squares_32 rfl rfl ?_
        refine v_get (T := TX10) (N := 22) (f0 := (M 78)) (v := rf g 84) ok mi_X10_squares_10 (kd_lt (show kd 78 = 10 from rfl) (by decide)) rfl rfl (cellF_10 _ (by decide)) 10 (by decide) mk_X10_squares_27 rfl rfl dX10_squares_33 ?_
        refine v_iload_n ok 3 dX10_squares_36 rfl rfl ?_
        refine v_iald (n := 30) (f0 := (fl (M 79) (bsA (M 79) b) 8)) ok (by decide) rfl (by omega) rfl dX10_squares_37 ?_
        refine v_aload_n ok 0 dX10_squares_38 rfl rfl ?_
        refine v_get (T := TX10) (N := 22) (f0 := (M 78)) (v := rf g 79) ok mi_X10_squares_10 (kd_lt (show kd 78 = 10 from rfl) (by decide)) rfl rfl (cellF_10 _ (by decide)) 0 (by decide) mk_X10_squares_11 rfl rfl dX10_squares_39 ?_
        refine v_bipush (n := 8) ok rfl dX10_squares_42 ?_
        refine v_iload_n ok 3 dX10_squares_44 rfl rfl ?_
        refine v_iadd ok dX10_squares_45 ?_
        refine v_iald (n := 90) (f0 := (M 79)) ok (by decide) rfl (by omega) rfl dX10_squares_46 ?_
        refine v_isub ok dX10_squares_47 ?_
        refine v_imul ok dX10_squares_48 ?_
        refine v_iadd ok dX10_squares_49 ?_
        refine v_istore_n ok [(2, iv (q + ((((fl (M 79) (bsA (M 79) b) 8) h) - (M 79 (8 + h))) * (((fl (M 79) (bsA (M 79) b) 8) h) - (M 79 (8 + h)))))), (0, rf g 78), (1, iv b), (3, iv h)] dX10_squares_50 rfl (by decide) rfl ?_
        refine v_iinc ok 3 [(3, iv (h + 1)), (2, iv (q + ((((fl (M 79) (bsA (M 79) b) 8) h) - (M 79 (8 + h))) * (((fl (M 79) (bsA (M 79) b) 8) h) - (M 79 (8 + h)))))), (0, rf g 78), (1, iv b)] dX10_squares_51 rfl (by decide) rfl ?_
        refine v_goto (tgt := 9) ok dX10_squares_54 (by decide) ?_
        refine v_lv (ls' := [(0, rf g 78), (1, iv b), (2, iv (q + ((((fl (M 79) (bsA (M 79) b) 8) h) - (M 79 (8 + h))) * (((fl (M 79) (bsA (M 79) b) 8) h) - (M 79 (8 + h)))))), (3, iv (h + 1))]) ok [2, 3, 1, 0] rfl ?_
        exact ih9 (h + 1) (q + ((((fl (M 79) (bsA (M 79) b) 8) h) - (M 79 (8 + h))) * (((fl (M 79) (bsA (M 79) b) 8) h) - (M 79 (8 + h))))) (by omega) (by rw [sqf_s i9_0.1, i9_1]; rfl) (by omega)
  refine v_lv (ls' := [(0, rf g 78), (1, iv b), (2, iv 0), (3, iv 0)]) ok [2, 3, 1, 0] rfl ?_
  exact lp9 _ 0 0 (by omega) rfl (Nat.lt_succ_self _)

theorem mk_X10_changes_11 : Cond.fieldLink RX10 11 "StormRunoffModel" "w" "[I" ∈ wsX10_changes := by decide +kernel
theorem mi_X10_changes_10 : ∀ w ∈ wsX100, w ∈ wsX10_changes := by decide +kernel
set_option maxRecDepth 100000 in
set_option maxHeartbeats 400000 in
theorem ct_X10_changes (l : Launch) (g : Gl) (M : Mem) (s t : Int) (hs : 0 ≤ s ∧ s < 8) (ht : 0 ≤ t ∧ t < 8) : Ct l g yX10_changes wsX10_changes 0 0 [rf g 78, iv s, iv t] M (fun rv M' => rv = none ∧ M' = (up1 M 79 (swp (M 79) s t))) := by
  refine Ct.of (cc := cX10_changes) (nL := 4) (ret := none) (by decide) rfl (Nat.le_of_ble_eq_true rfl) (fun z hz ok rt => ?_)
  have ok : Ok z g cX10_changes 4 RX10 wsX10_changes 0 0 := ok
  show V z g 4 M [(0, rf g 78), (1, iv s), (2, iv t)] [] 0
  refine v_aload_n ok 0 dX10_changes_0 rfl rfl ?_
  refine v_get (T := TX10) (N := 22) (f0 := (M 78)) (v := rf g 79) ok mi_X10_changes_10 (kd_lt (show kd 78 = 10 from rfl) (by decide)) rfl rfl (cellF_10 _ (by decide)) 0 (by decide) mk_X10_changes_11 rfl rfl dX10_changes_1 ?_
  refine v_iload_n ok 1 dX10_changes_4 rfl rfl ?_
  refine v_iald (n := 90) (f0 := (M 79)) ok (by decide) rfl (by omega) rfl dX10_changes_5 ?_
  refine v_istore_n ok [(3, iv (M 79 s)), (0, rf g 78), (1, iv s), (2, iv t)] dX10_changes_6 rfl (by decide) rfl ?_
  refine v_aload_n ok 1 dX10_changes_7 rfl rfl ?_
  refine v_get (T := TX10) (N := 22) (f0 := (M 78)) (v := rf g 79) ok mi_X10_changes_10 (kd_lt (show kd 78 = 10 from rfl) (by decide)) rfl rfl (cellF_10 _ (by decide)) 0 (by decide) mk_X10_changes_11 rfl rfl dX10_changes_8 ?_
  refine v_iload_n ok 2 dX10_changes_11 rfl rfl ?_
  refine v_aload_n ok 1 dX10_changes_12 rfl rfl ?_
  refine v_get (T := TX10) (N := 22) (f0 := (M 78)) (v := rf g 79) ok mi_X10_changes_10 (kd_lt (show kd 78 = 10 from rfl) (by decide)) rfl rfl (cellF_10 _ (by decide)) 0 (by decide) mk_X10_changes_11 rfl rfl dX10_changes_13 ?_
  refine v_iload_n ok 3 dX10_changes_16 rfl rfl ?_
  refine v_iald (n := 90) (f0 := (M 79)) ok (by decide) rfl (by omega) rfl dX10_changes_17 ?_
  refine v_iast (n := 90) (f0 := (M 79)) ok (by decide) rfl (by omega) rfl dX10_changes_18 ?_
  refine v_aload_n ok 1 dX10_changes_19 rfl rfl ?_
  refine v_get (T := TX10) (N := 22) (f0 := (M 78)) (v := rf g 79) ok mi_X10_changes_10 (kd_lt (show kd 78 = 10 from rfl) (by decide)) rfl rfl (cellF_10 _ (by decide)) 0 (by decide) mk_X10_changes_11 rfl rfl dX10_changes_20 ?_
  refine v_iload_n ok 3 dX10_changes_23 rfl rfl ?_
  refine v_iload_n ok 0 dX10_changes_24 rfl rfl ?_
  refine v_iast (n := 90) (f0 := up (M 79) s (M 79 t)) ok (by decide) rfl (by omega) rfl dX10_changes_25 ?_
  rw [up1_up1]
  exact v_vret ok rt dX10_changes_26 (⟨rfl, rfl⟩)

theorem mk_X10_otherwise_33 : Cond.fieldLink RX10 33 "StormRunoffModel" "joined" "[I" ∈ wsX10_otherwise := by decide +kernel
theorem mi_X10_otherwise_10 : ∀ w ∈ wsX100, w ∈ wsX10_otherwise := by decide +kernel
theorem mk_X10_otherwise_11 : Cond.fieldLink RX10 11 "StormRunoffModel" "w" "[I" ∈ wsX10_otherwise := by decide +kernel
set_option maxRecDepth 100000 in
set_option maxHeartbeats 400000 in
theorem ct_X10_otherwise (l : Launch) (g : Gl) (M : Mem) (f n : Int) (hw : WOk (M 79)) (hf : 0 ≤ f ∧ f + 2 * n ≤ 90 ∧ 0 ≤ n) (hH : bdf (rwH (M 79) f) n 0 29) (hN : bdf (rwN (M 79) f) n 0 9999) : Ct l g yX10_otherwise wsX10_otherwise 4 94 [rf g 78, iv f, iv n] M (fun rv M' => ∃ (F O C : Int → Int), rv = some (iv (fot (rwH (M 79) f) (rwN (M 79) f) (jnW (M 79)) n.toNat 0)) ∧ M' = (up1 (up1 (up1 (up1 M 84 F) 85 O) 78 C) 86 (jnW (M 79))) ∧ (∀ j : Int, j ≠ 13 → C j = M 78 j)) := by
  refine Ct.of (cc := cX10_otherwise) (nL := 4) (ret := (some .int)) (by decide) rfl (Nat.le_of_ble_eq_true rfl) (fun z hz ok rt => ?_)
  have ok : Ok z g cX10_otherwise 4 RX10 wsX10_otherwise 4 94 := ok
  show V z g 4 M [(0, rf g 78), (1, iv f), (2, iv n)] [] 0
  have hJ := jnW_rng hw
  refine v_aload_n ok 0 dX10_otherwise_0 rfl rfl ?_
  refine v_callV (na := 0) (i := 78) (C := RX10) (T := TX10) (N := 22) (f0 := (M 78)) ok (ct_X10_joins z.2.1 g M  (by first | omega | assumption)) gX10_otherwise_X10_joins (kd_lt (show kd 78 = 10 from rfl) (by decide)) rfl rfl (cellF_10 _ (by decide)) rfl (by decide +kernel) rfl (by decide) [] rfl (Nat.le_of_ble_eq_true rfl) dX10_otherwise_1 (fun v2 M3 hp1 => ?_)
  obtain ⟨F4, O5, C6, rfl, rfl, h7⟩ := hp1
  have h7 : ∀ j : Int, j ≠ 13 → C6 j = (M 78) j := h7
  show V z g 4 (up1 (up1 (up1 (up1 M 84 F4) 85 O5) 78 C6) 86 (jnW ((M 79)))) [(0, rf g 78), (1, iv f), (2, iv n)] [] 4
  have hC := h7
  refine v_iconst (n := 0) ok dX10_otherwise_4 ?_
  refine v_istore_n ok [(3, iv 0), (0, rf g 78), (1, iv f), (2, iv n)] dX10_otherwise_5 rfl (by decide) rfl ?_
  have lp6 : ∀ (fu : Nat) (k : Int) (F O C : Int → Int), (0 ≤ k ∧ k ≤ n) → ((fot (rwH (M 79) f) (rwN (M 79) f) (jnW (M 79)) n.toNat 0) = fot (rwH (M 79) f) (rwN (M 79) f) (jnW (M 79)) (n - k).toNat k) → (∀ j : Int, j ≠ 13 → C j = M 78 j) → (n - k).toNat < fu → V z g 4 (up1 (up1 (up1 (up1 M 84 F) 85 O) 78 C) 86 (jnW (M 79))) [(0, rf g 78), (1, iv f), (2, iv n), (3, iv k)] [] 6 := by
    intro fu
    induction fu with
    | zero => intro k F O C _ _ _ hm; exact absurd hm (Nat.not_lt_zero _)
    | succ fu ih6 =>
      intro k F O C i6_0 i6_1 i6_2 hm6
      refine v_iload_n ok 3 dX10_otherwise_6 rfl rfl ?_
      refine v_iload_n ok 2 dX10_otherwise_7 rfl rfl ?_
      refine v_icmp_ge (tgt := 49) ok ⟨by omega, by omega⟩ ⟨by omega, by omega⟩ dX10_otherwise_8 (by decide) (fun c8 => ?_) (fun c8 => ?_)
      · skip
        refine v_bipush (n := -5) ok rfl dX10_otherwise_49 ?_
        exact v_iret ok rt dX10_otherwise_51 (⟨F, O, C, (congrArg (fun q : Int => some (iv q)) (show (-5) = (fot (rwH (M 79) f) (rwN (M 79) f) (jnW (M 79)) n.toNat 0) from by (rw [i6_1, show (n - k).toNat = 0 by omega]; rfl))), rfl, i6_2⟩)
      · skip
        refine v_aload_n ok 0 dX10_otherwise_11 rfl rfl ?_
        refine v_get (T := TX10) (N := 22) (f0 := C) (v := rf g 86) ok mi_X10_otherwise_10 (kd_lt (show kd 78 = 10 from rfl) (by decide)) rfl rfl (cellF_10 _ (by decide)) 12 (by decide) mk_X10_otherwise_33 rfl rfl dX10_otherwise_12 ?_
        refine v_aload_n ok 0 dX10_otherwise_15 rfl rfl ?_
        refine v_get (T := TX10) (N := 22) (f0 := C) (v := rf g 79) ok mi_X10_otherwise_10 (kd_lt (show kd 78 = 10 from rfl) (by decide)) rfl rfl (cellF_10 _ (by decide)) 0 (by decide) mk_X10_otherwise_11 rfl rfl dX10_otherwise_16 ?_
        refine v_iload_n ok 1 dX10_otherwise_19 rfl rfl ?_
        refine v_iconst (n := 2) ok dX10_otherwise_20 ?_
        refine v_iload_n ok 3 dX10_otherwise_21 rfl rfl ?_
        refine v_imul ok dX10_otherwise_22 ?_
        refine v_iadd ok dX10_otherwise_23 ?_
        refine v_iald (n := 90) (f0 := (M 79)) ok (by decide) rfl (by omega) rfl dX10_otherwise_24 ?_
        have hx1 : 0 ≤ M 79 (f + 2 * k) ∧ M 79 (f + 2 * k) ≤ 29 := hH k (by omega) (by omega)
        refine v_iald (n := 30) (f0 := (jnW (M 79))) ok (by decide) rfl (by omega) rfl dX10_otherwise_25 ?_
        have hx2 := hJ (M 79 (f + 2 * k)) (by omega) (by omega)
        refine v_aload_n ok 0 dX10_otherwise_26 rfl rfl ?_
        refine v_get (T := TX10) (N := 22) (f0 := C) (v := rf g 79) ok mi_X10_otherwise_10 (kd_lt (show kd 78 = 10 from rfl) (by decide)) rfl rfl (cellF_10 _ (by decide)) 0 (by decide) mk_X10_otherwise_11 rfl rfl dX10_otherwise_27 ?_
        refine v_iload_n ok 1 dX10_otherwise_30 rfl rfl ?_
        refine v_iconst (n := 2) ok dX10_otherwise_31 ?_
        refine v_iload_n ok 3 dX10_otherwise_32 rfl rfl ?_
        refine v_imul ok dX10_otherwise_33 ?_
        refine v_iadd ok dX10_otherwise_34 ?_
        refine v_iconst (n := 1) ok dX10_otherwise_35 ?_
        refine v_iadd ok dX10_otherwise_36 ?_
        refine v_iald (n := 90) (f0 := (M 79)) ok (by decide) rfl (by omega) rfl dX10_otherwise_37 ?_
        have hx3 : 0 ≤ M 79 (f + 2 * k + 1) ∧ M 79 (f + 2 * k + 1) ≤ 9999 := hN k (by omega) (by omega)
        refine v_icmp_eq (tgt := 43) ok ⟨by omega, by omega⟩ ⟨by omega, by omega⟩ dX10_otherwise_38 (by decide) (fun c9 => ?_) (fun c9 => ?_)
        · skip
          have hc1 : jnW (M 79) (rwH (M 79) f k) = rwN (M 79) f k := by show jnW (M 79) (M 79 (f + 2 * k)) = M 79 (f + 2 * k + 1); omega
          refine v_iinc ok 3 [(3, iv (k + 1)), (0, rf g 78), (1, iv f), (2, iv n)] dX10_otherwise_43 rfl (by decide) rfl ?_
          refine v_goto (tgt := 6) ok dX10_otherwise_46 (by decide) ?_
          refine v_lv (ls' := [(0, rf g 78), (1, iv f), (2, iv n), (3, iv (k + 1))]) ok [1, 2, 3, 0] rfl ?_
          exact ih6 (k + 1) F O C (by omega) (by rw [i6_1, nat_s (show k < n by omega), fot_f (by assumption)]) i6_2 (by omega)
        · skip
          have hc1 : ¬ jnW (M 79) (rwH (M 79) f k) = rwN (M 79) f k := by show ¬ jnW (M 79) (M 79 (f + 2 * k)) = M 79 (f + 2 * k + 1); omega
          refine v_iload_n ok 3 dX10_otherwise_41 rfl rfl ?_
          exact v_iret ok rt dX10_otherwise_42 (⟨F, O, C, (congrArg (fun q : Int => some (iv q)) (show k = (fot (rwH (M 79) f) (rwN (M 79) f) (jnW (M 79)) n.toNat 0) from by (rw [i6_1, nat_s (show k < n by omega), fot_t hc1]))), rfl, i6_2⟩)
  refine v_lv (ls' := [(0, rf g 78), (1, iv f), (2, iv n), (3, iv 0)]) ok [1, 2, 3, 0] rfl ?_
  exact lp6 _ 0 F4 O5 C6 (by omega) (by rw [Int.sub_zero]) hC (Nat.lt_succ_self _)

set_option maxRecDepth 100000 in
set_option maxHeartbeats 400000 in
theorem ct_X10_lowest (l : Launch) (g : Gl) (M : Mem) (a b p : Int) (ha : 0 ≤ a ∧ a ≤ 4000000) (hb : 0 < b ∧ b ≤ 30) (hp : 0 ≤ p ∧ p ≤ 1) : Ct l g yX10_lowest wsX10_lowest 0 0 [jv a, jv b, iv p] M (fun rv M' => rv = some (jv ((if p = 0 then a else b) / gcdI b a)) ∧ M' = M) := by
  refine Ct.of (cc := cX10_lowest) (nL := 11) (ret := (some .long)) (by decide) rfl (Nat.le_of_ble_eq_true rfl) (fun z hz ok rt => ?_)
  have ok : Ok z g cX10_lowest 11 RX10 wsX10_lowest 0 0 := ok
  show V z g 11 M [(0, jv a), (2, jv b), (4, iv p)] [] 0
  refine v_lload_n ok 0 dX10_lowest_0 rfl rfl ?_
  refine v_lstore ok [(5, jv a), (0, jv a), (2, jv b), (4, iv p)] dX10_lowest_1 (by decide) rfl ?_
  refine v_lload_n ok 2 dX10_lowest_3 rfl rfl ?_
  refine v_lstore ok [(7, jv b), (5, jv a), (0, jv a), (2, jv b), (4, iv p)] dX10_lowest_4 (by decide) rfl ?_
  have lp6 : ∀ (fu : Nat) (q l : Int), (0 ≤ l ∧ l ≤ 30) → (0 ≤ q ∧ q ≤ 4000000) → (0 < q ∨ 0 < l) → (gcdI q l = gcdI b a) → (l).toNat < fu → V z g 11 M [(0, jv a), (2, jv b), (4, iv p), (5, jv q), (7, jv l)] [] 6 := by
    intro fu
    induction fu with
    | zero => intro q l _ _ _ _ hm; exact absurd hm (Nat.not_lt_zero _)
    | succ fu ih6 =>
      intro q l i6_0 i6_1 i6_2 i6_3 hm6
      refine v_lload ok 4 dX10_lowest_6 rfl ?_
      refine v_lconst (n := 0) ok rfl dX10_lowest_8 ?_
      refine v_lcmp ok ⟨by omega, by omega⟩ (by decide) dX10_lowest_9 (fun r1 hc2a hc2b hc2c hc2d => ?_)
      refine v_if_eq (tgt := 31) ok ⟨by omega, by omega⟩ dX10_lowest_10 (by decide) (fun c3 => ?_) (fun c3 => ?_)
      · skip
        have hl0 : l = 0 := by omega
        have hg : q = gcdI b a := by rw [← i6_3, hl0, gcdI_0 (by omega)]
        refine v_iload ok 2 dX10_lowest_31 rfl ?_
        refine v_if_ne (tgt := 40) ok ⟨by omega, by omega⟩ dX10_lowest_33 (by decide) (fun c4 => ?_) (fun c4 => ?_)
        · skip
          refine v_lload_n ok 1 dX10_lowest_40 rfl rfl ?_
          refine v_lload ok 3 dX10_lowest_41 rfl ?_
          refine v_ldiv ok (by omega) (by omega) dX10_lowest_43 ?_
          exact v_lret ok rt dX10_lowest_44 (⟨(congrArg (fun q : Int => some (jv q)) (show (b / q) = ((if p = 0 then a else b) / gcdI b a) from by (rw [hg]; first | rw [if_pos (by omega)] | rw [if_neg (by omega)]))), rfl⟩)
        · skip
          refine v_lload_n ok 0 dX10_lowest_36 rfl rfl ?_
          refine v_goto (tgt := 41) ok dX10_lowest_37 (by decide) ?_
          refine v_lload ok 3 dX10_lowest_41 rfl ?_
          refine v_ldiv ok (by omega) (by omega) dX10_lowest_43 ?_
          exact v_lret ok rt dX10_lowest_44 (⟨(congrArg (fun q : Int => some (jv q)) (show (a / q) = ((if p = 0 then a else b) / gcdI b a) from by (rw [hg]; first | rw [if_pos (by omega)] | rw [if_neg (by omega)]))), rfl⟩)
      · skip
        have hm1 : 0 ≤ q % l := Int.emod_nonneg q (by omega)
        have hm2 : q % l < l := Int.emod_lt_of_pos q (by omega)
        refine v_lload ok 3 dX10_lowest_13 rfl ?_
        refine v_lload ok 4 dX10_lowest_15 rfl ?_
        refine v_lrem ok (by omega) (by omega) dX10_lowest_17 ?_
        refine v_lstore ok [(9, jv (q % l)), (0, jv a), (2, jv b), (4, iv p), (5, jv q), (7, jv l)] dX10_lowest_18 (by decide) rfl ?_
        refine v_lload ok 5 dX10_lowest_20 rfl ?_
        refine v_lstore ok [(5, jv l), (9, jv (q % l)), (0, jv a), (2, jv b), (4, iv p), (7, jv l)] dX10_lowest_22 (by decide) rfl ?_
        refine v_lload ok 1 dX10_lowest_24 rfl ?_
        refine v_lstore ok [(7, jv (q % l)), (5, jv l), (9, jv (q % l)), (0, jv a), (2, jv b), (4, iv p)] dX10_lowest_26 (by decide) rfl ?_
        refine v_goto (tgt := 6) ok dX10_lowest_28 (by decide) ?_
        refine v_lv (ls' := [(0, jv a), (2, jv b), (4, iv p), (5, jv l), (7, jv (q % l))]) ok [3, 4, 5, 1, 0] rfl ?_
        exact ih6 l (q % l) ⟨hm1, by omega⟩ (by omega) (Or.inl (by omega)) (by rw [gcdI_s (by omega) (by omega)]; exact i6_3) (by omega)
  refine v_lv (ls' := [(0, jv a), (2, jv b), (4, iv p), (5, jv a), (7, jv b)]) ok [2, 3, 4, 1, 0] rfl ?_
  exact lp6 _ a b (by omega) (by omega) (by omega) (gcdI_c _ _) (Nat.lt_succ_self _)

theorem mk_X10_happens_11 : Cond.fieldLink RX10 11 "StormRunoffModel" "w" "[I" ∈ wsX10_happens := by decide +kernel
theorem mi_X10_happens_10 : ∀ w ∈ wsX100, w ∈ wsX10_happens := by decide +kernel
theorem mk_X10_happens_159 : Cond.methodLink RX10 159 Lib.Math.min.name ∈ wsX10_happens := by decide +kernel
theorem mmins_X10_happens : Cond.static Lib.Math.min.name ∈ wsX10_happens := by decide +kernel
theorem mmi_X10_happens : Cond.initialized "java/lang/Math" ∈ wsX10_happens := by decide +kernel
theorem mminc_X10_happens : Cond.code Lib.Math.min.name Lib.Math.min.code 2 (some .int) ∈ wsX10_happens := by decide +kernel
set_option maxRecDepth 100000 in
set_option maxHeartbeats 400000 in
theorem ct_X10_happens (l : Launch) (g : Gl) (M : Mem) (w n : Int) (hw : 0 ≤ w ∧ w ≤ 3) (hn : 0 ≤ n ∧ n ≤ 7) (hn2 : w = 2 → n ≤ 2) (hR : bdf (M 79) 8 0 20) : Ct l g yX10_happens wsX10_happens 1 21 [rf g 78, iv w, iv n] M (fun rv M' => rv = none ∧ M' = (up1 M 79 (hapW w n (M 79)))) := by
  refine Ct.of (cc := cX10_happens) (nL := 4) (ret := none) (by decide) rfl (Nat.le_of_ble_eq_true rfl) (fun z hz ok rt => ?_)
  have ok : Ok z g cX10_happens 4 RX10 wsX10_happens 1 21 := ok
  show V z g 4 M [(0, rf g 78), (1, iv w), (2, iv n)] [] 0
  refine v_iload_n ok 1 dX10_happens_0 rfl rfl ?_
  refine v_if_ne (tgt := 26) ok ⟨by omega, by omega⟩ dX10_happens_1 (by decide) (fun c1 => ?_) (fun c1 => ?_)
  · skip
    refine v_iload_n ok 1 dX10_happens_26 rfl rfl ?_
    refine v_iconst (n := 1) ok dX10_happens_27 ?_
    refine v_icmp_ne (tgt := 41) ok ⟨by omega, by omega⟩ (by decide) dX10_happens_28 (by decide) (fun c2 => ?_) (fun c2 => ?_)
    · skip
      refine v_iload_n ok 1 dX10_happens_41 rfl rfl ?_
      refine v_iconst (n := 2) ok dX10_happens_42 ?_
      refine v_icmp_ne (tgt := 65) ok ⟨by omega, by omega⟩ (by decide) dX10_happens_43 (by decide) (fun c3 => ?_) (fun c3 => ?_)
      · skip
        refine v_bipush (n := 7) ok rfl dX10_happens_65 ?_
        refine v_istore_n ok [(3, iv 7), (0, rf g 78), (1, iv w), (2, iv n)] dX10_happens_67 rfl (by decide) rfl ?_
        have lp68 : ∀ (fu : Nat) (h : Int) (G : Int → Int), (-1 ≤ h ∧ h ≤ 7) → (∀ j : Int, G j = if h < j ∧ j < 8 then sft n (M 79) j else M 79 j) → (h + 1).toNat < fu → V z g 4 (up1 M 79 G) [(0, rf g 78), (1, iv w), (2, iv n), (3, iv h)] [] 68 := by
          intro fu
          induction fu with
          | zero => intro h G _ _ hm; exact absurd hm (Nat.not_lt_zero _)
          | succ fu ih68 =>
            intro h G i68_0 i68_1 hm68
            refine v_iload_n ok 3 dX10_happens_68 rfl rfl ?_
            refine v_if_lt (tgt := 101) ok ⟨by omega, by omega⟩ dX10_happens_69 (by decide) (fun c4 => ?_) (fun c4 => ?_)
            · skip
              refine v_cong (n := 90) (hapW w n (M 79)) (Or.inl (by decide)) rfl (fun j j0 j1 => by
                  have q : hapW w n (M 79) j = if 0 ≤ j ∧ j < 8 then sft n (M 79) j else M 79 j := by
                    unfold hapW; rw [if_neg (by omega), if_neg (by omega), if_neg (by omega)]
                  rw [i68_1 j, q]
                  by_cases c : j < 8
                  · rw [if_pos (by omega), if_pos (by omega)]
                  · rw [if_neg (by omega), if_neg (by omega)]) ?_
              exact v_vret ok rt dX10_happens_101 (⟨rfl, rfl⟩)
            · skip
              refine v_aload_n ok 0 dX10_happens_72 rfl rfl ?_
              refine v_get (T := TX10) (N := 22) (f0 := (M 78)) (v := rf g 79) ok mi_X10_happens_10 (kd_lt (show kd 78 = 10 from rfl) (by decide)) rfl rfl (cellF_10 _ (by decide)) 0 (by decide) mk_X10_happens_11 rfl rfl dX10_happens_73 ?_
              refine v_iload_n ok 3 dX10_happens_76 rfl rfl ?_
              refine v_iload_n ok 3 dX10_happens_77 rfl rfl ?_
              refine v_iload_n ok 2 dX10_happens_78 rfl rfl ?_
              refine v_icmp_ge (tgt := 86) ok ⟨by omega, by omega⟩ ⟨by omega, by omega⟩ dX10_happens_79 (by decide) (fun c5 => ?_) (fun c5 => ?_)
              · skip
                refine v_aload_n ok 0 dX10_happens_86 rfl rfl ?_
                refine v_get (T := TX10) (N := 22) (f0 := (M 78)) (v := rf g 79) ok mi_X10_happens_10 (kd_lt (show kd 78 = 10 from rfl) (by decide)) rfl rfl (cellF_10 _ (by decide)) 0 (by decide) mk_X10_happens_11 rfl rfl dX10_happens_87 ?_
                refine v_iload_n ok 3 dX10_happens_90 rfl rfl ?_
                refine v_iload_n ok 2 dX10_happens_91 rfl rfl ?_
                refine v_isub ok dX10_happens_92 ?_
                refine v_iald (n := 90) (f0 := G) ok (by decide) rfl (by omega) rfl dX10_happens_93 ?_
                refine v_iast (n := 90) (f0 := G) ok (by decide) rfl (by omega) rfl dX10_happens_94 ?_
                rw [up1_up1]
                have hb1 : ∀ j : Int, (up G h (G (h - n))) j = if (h + (-1)) < j ∧ j < 8 then sft n (M 79) j else M 79 j := by
                  intro j
                  by_cases e : j = h
                  · rw [e, up_same, if_pos (by omega)]
                    unfold sft; rw [if_neg (by omega), i68_1 (h - n), if_neg (by omega)]
                  · rw [up_ne e, i68_1 j]
                    by_cases c : h < j ∧ j < 8
                    · rw [if_pos c, if_pos (by omega)]
                    · rw [if_neg c, if_neg (by omega)]
                refine v_iinc ok 3 [(3, iv (h + (-1))), (0, rf g 78), (1, iv w), (2, iv n)] dX10_happens_95 rfl (by decide) rfl ?_
                refine v_goto (tgt := 68) ok dX10_happens_98 (by decide) ?_
                refine v_lv (ls' := [(0, rf g 78), (1, iv w), (2, iv n), (3, iv (h + (-1)))]) ok [1, 2, 3, 0] rfl ?_
                exact ih68 (h + (-1)) (up G h (G (h - n))) (by omega) hb1 (by omega)
              · skip
                refine v_iconst (n := 0) ok dX10_happens_82 ?_
                refine v_goto (tgt := 94) ok dX10_happens_83 (by decide) ?_
                refine v_iast (n := 90) (f0 := G) ok (by decide) rfl (by omega) rfl dX10_happens_94 ?_
                rw [up1_up1]
                have hb1 : ∀ j : Int, (up G h 0) j = if (h + (-1)) < j ∧ j < 8 then sft n (M 79) j else M 79 j := by
                  intro j
                  by_cases e : j = h
                  · rw [e, up_same, if_pos (by omega)]
                    unfold sft; rw [if_pos (by omega)]
                  · rw [up_ne e, i68_1 j]
                    by_cases c : h < j ∧ j < 8
                    · rw [if_pos c, if_pos (by omega)]
                    · rw [if_neg c, if_neg (by omega)]
                refine v_iinc ok 3 [(3, iv (h + (-1))), (0, rf g 78), (1, iv w), (2, iv n)] dX10_happens_95 rfl (by decide) rfl ?_
                refine v_goto (tgt := 68) ok dX10_happens_98 (by decide) ?_
                refine v_lv (ls' := [(0, rf g 78), (1, iv w), (2, iv n), (3, iv (h + (-1)))]) ok [1, 2, 3, 0] rfl ?_
                exact ih68 (h + (-1)) (up G h 0) (by omega) hb1 (by omega)
        refine v_lv (ls' := [(0, rf g 78), (1, iv w), (2, iv n), (3, iv 7)]) ok [1, 2, 3, 0] rfl ?_
        rw [show (M : Mem) = (up1 M 79 (M 79)) from (by
              funext j
              by_cases hj0 : j = 79
              · subst hj0; simp [up1, up1_self]
              simp [up1, hj0])]
        exact lp68 _ 7 (M 79) (by omega) (fun j => by rw [if_neg (by omega)]) (Nat.lt_succ_self _)
      · skip
        refine v_aload_n ok 0 dX10_happens_46 rfl rfl ?_
        refine v_get (T := TX10) (N := 22) (f0 := (M 78)) (v := rf g 79) ok mi_X10_happens_10 (kd_lt (show kd 78 = 10 from rfl) (by decide)) rfl rfl (cellF_10 _ (by decide)) 0 (by decide) mk_X10_happens_11 rfl rfl dX10_happens_47 ?_
        refine v_bipush (n := 21) ok rfl dX10_happens_50 ?_
        refine v_bipush (n := 8) ok rfl dX10_happens_52 ?_
        refine v_iload_n ok 2 dX10_happens_54 rfl rfl ?_
        refine v_imul ok dX10_happens_55 ?_
        refine v_iadd ok dX10_happens_56 ?_
        refine v_bipush (n := 6) ok rfl dX10_happens_57 ?_
        refine v_iadd ok dX10_happens_59 ?_
        refine v_iconst (n := 0) ok dX10_happens_60 ?_
        refine v_iast (n := 90) (f0 := (M 79)) ok (by decide) rfl (by omega) rfl dX10_happens_61 ?_
        refine v_cong (n := 90) (hapW w n (M 79)) (Or.inl (by decide)) rfl (fun j j0 j1 => by unfold hapW; rw [if_neg (by omega), if_neg (by omega), if_pos (by omega)]) ?_
        refine v_goto (tgt := 101) ok dX10_happens_62 (by decide) ?_
        exact v_vret ok rt dX10_happens_101 (⟨rfl, rfl⟩)
    · skip
      refine v_aload_n ok 0 dX10_happens_31 rfl rfl ?_
      refine v_get (T := TX10) (N := 22) (f0 := (M 78)) (v := rf g 79) ok mi_X10_happens_10 (kd_lt (show kd 78 = 10 from rfl) (by decide)) rfl rfl (cellF_10 _ (by decide)) 0 (by decide) mk_X10_happens_11 rfl rfl dX10_happens_32 ?_
      refine v_iload_n ok 2 dX10_happens_35 rfl rfl ?_
      refine v_iconst (n := 0) ok dX10_happens_36 ?_
      refine v_iast (n := 90) (f0 := (M 79)) ok (by decide) rfl (by omega) rfl dX10_happens_37 ?_
      refine v_cong (n := 90) (hapW w n (M 79)) (Or.inl (by decide)) rfl (fun j j0 j1 => by unfold hapW; rw [if_neg (by omega), if_pos (by omega)]) ?_
      refine v_goto (tgt := 101) ok dX10_happens_38 (by decide) ?_
      exact v_vret ok rt dX10_happens_101 (⟨rfl, rfl⟩)
  · skip
    refine v_aload_n ok 0 dX10_happens_4 rfl rfl ?_
    refine v_get (T := TX10) (N := 22) (f0 := (M 78)) (v := rf g 79) ok mi_X10_happens_10 (kd_lt (show kd 78 = 10 from rfl) (by decide)) rfl rfl (cellF_10 _ (by decide)) 0 (by decide) mk_X10_happens_11 rfl rfl dX10_happens_5 ?_
    refine v_iload_n ok 2 dX10_happens_8 rfl rfl ?_
    refine v_bipush (n := 20) ok rfl dX10_happens_9 ?_
    refine v_iconst (n := 2) ok dX10_happens_11 ?_
    refine v_aload_n ok 0 dX10_happens_12 rfl rfl ?_
    refine v_get (T := TX10) (N := 22) (f0 := (M 78)) (v := rf g 79) ok mi_X10_happens_10 (kd_lt (show kd 78 = 10 from rfl) (by decide)) rfl rfl (cellF_10 _ (by decide)) 0 (by decide) mk_X10_happens_11 rfl rfl dX10_happens_13 ?_
    refine v_iload_n ok 2 dX10_happens_16 rfl rfl ?_
    refine v_iald (n := 90) (f0 := (M 79)) ok (by decide) rfl (by omega) rfl dX10_happens_17 ?_
    have b6 := hR n (by omega) (by omega)
    refine v_imul ok dX10_happens_18 ?_
    refine v_mmin ok (by decide) ⟨by omega, by omega⟩ mk_X10_happens_159 mmins_X10_happens mmi_X10_happens mminc_X10_happens ⟨by decide, Nat.le_of_ble_eq_true rfl⟩ dX10_happens_19 ?_
    refine v_iast (n := 90) (f0 := (M 79)) ok (by decide) rfl (by omega) rfl dX10_happens_22 ?_
    refine v_cong (n := 90) (hapW w n (M 79)) (Or.inl (by decide)) rfl (fun j j0 j1 => by unfold hapW; rw [if_pos (by omega), Int.min_comm]) ?_
    refine v_goto (tgt := 101) ok dX10_happens_23 (by decide) ?_
    exact v_vret ok rt dX10_happens_101 (⟨rfl, rfl⟩)

set_option maxRecDepth 100000 in
set_option maxHeartbeats 400000 in
theorem ct_X10_copies_79_80 (l : Launch) (g : Gl) (M : Mem)   : Ct l g yX10_copies wsX10_copies 0 0 [rf g 79, rf g 80] M (fun rv M' => rv = none ∧ M' = (up1 M 80 (M 79))) := by
  refine Ct.of (cc := cX10_copies) (nL := 3) (ret := none) (by decide) rfl (Nat.le_of_ble_eq_true rfl) (fun z hz ok rt => ?_)
  have ok : Ok z g cX10_copies 3 RX10 wsX10_copies 0 0 := ok
  show V z g 3 M [(0, rf g 79), (1, rf g 80)] [] 0
  refine v_iconst (n := 0) ok dX10_copies_0 ?_
  refine v_istore_n ok [(2, iv 0), (0, rf g 79), (1, rf g 80)] dX10_copies_1 rfl (by decide) rfl ?_
  have lp2 : ∀ (fu : Nat) (h : Int) (F : Int → Int), (0 ≤ h ∧ h ≤ 90) → (∀ j : Int, 0 ≤ j → j < h → F j = M 79 j) → (90 - h).toNat < fu → V z g 3 (up1 M 80 F) [(0, rf g 79), (1, rf g 80), (2, iv h)] [] 2 := by
    intro fu
    induction fu with
    | zero => intro h F _ _ hm; exact absurd hm (Nat.not_lt_zero _)
    | succ fu ih2 =>
      intro h F i2_0 i2_1 hm2
      refine v_iload_n ok 2 dX10_copies_2 rfl rfl ?_
      refine v_bipush (n := 90) ok rfl dX10_copies_3 ?_
      refine v_icmp_ge (tgt := 20) ok ⟨by omega, by omega⟩ (by decide) dX10_copies_5 (by decide) (fun c1 => ?_) (fun c1 => ?_)
      · skip
        refine v_cong (n := 90) (M 79) (Or.inl (by decide)) rfl (fun j j0 j1 => i2_1 j j0 (by omega)) ?_
        exact v_vret ok rt dX10_copies_20 (⟨rfl, rfl⟩)
      · skip
        refine v_aload_n ok 1 dX10_copies_8 rfl rfl ?_
        refine v_iload_n ok 2 dX10_copies_9 rfl rfl ?_
        refine v_aload_n ok 0 dX10_copies_10 rfl rfl ?_
        refine v_iload_n ok 2 dX10_copies_11 rfl rfl ?_
        refine v_iald (n := 90) (f0 := (M 79)) ok (by decide) rfl (by omega) rfl dX10_copies_12 ?_
        refine v_iast (n := 90) (f0 := F) ok (by decide) rfl (by omega) rfl dX10_copies_13 ?_
        rw [up1_up1]
        refine v_iinc ok 2 [(2, iv (h + 1)), (0, rf g 79), (1, rf g 80)] dX10_copies_14 rfl (by decide) rfl ?_
        refine v_goto (tgt := 2) ok dX10_copies_17 (by decide) ?_
        refine v_lv (ls' := [(0, rf g 79), (1, rf g 80), (2, iv (h + 1))]) ok [1, 2, 0] rfl ?_
        exact ih2 (h + 1) (up F h (M 79 h)) (by omega) (up_lt i2_1 rfl) (by omega)
  refine v_lv (ls' := [(0, rf g 79), (1, rf g 80), (2, iv 0)]) ok [1, 2, 0] rfl ?_
  rw [show (M : Mem) = (up1 M 80 (M 80)) from (by
        funext j
        by_cases hj0 : j = 80
        · subst hj0; simp [up1, up1_self]
        simp [up1, hj0])]
  exact lp2 _ 0 (M 80) (by omega) (fun j j0 j1 => by omega) (Nat.lt_succ_self _)

set_option maxRecDepth 100000 in
set_option maxHeartbeats 400000 in
theorem ct_X10_copies_80_79 (l : Launch) (g : Gl) (M : Mem)   : Ct l g yX10_copies wsX10_copies 0 0 [rf g 80, rf g 79] M (fun rv M' => rv = none ∧ M' = (up1 M 79 (M 80))) := by
  refine Ct.of (cc := cX10_copies) (nL := 3) (ret := none) (by decide) rfl (Nat.le_of_ble_eq_true rfl) (fun z hz ok rt => ?_)
  have ok : Ok z g cX10_copies 3 RX10 wsX10_copies 0 0 := ok
  show V z g 3 M [(0, rf g 80), (1, rf g 79)] [] 0
  refine v_iconst (n := 0) ok dX10_copies_0 ?_
  refine v_istore_n ok [(2, iv 0), (0, rf g 80), (1, rf g 79)] dX10_copies_1 rfl (by decide) rfl ?_
  have lp2 : ∀ (fu : Nat) (h : Int) (F : Int → Int), (0 ≤ h ∧ h ≤ 90) → (∀ j : Int, 0 ≤ j → j < h → F j = M 80 j) → (90 - h).toNat < fu → V z g 3 (up1 M 79 F) [(0, rf g 80), (1, rf g 79), (2, iv h)] [] 2 := by
    intro fu
    induction fu with
    | zero => intro h F _ _ hm; exact absurd hm (Nat.not_lt_zero _)
    | succ fu ih2 =>
      intro h F i2_0 i2_1 hm2
      refine v_iload_n ok 2 dX10_copies_2 rfl rfl ?_
      refine v_bipush (n := 90) ok rfl dX10_copies_3 ?_
      refine v_icmp_ge (tgt := 20) ok ⟨by omega, by omega⟩ (by decide) dX10_copies_5 (by decide) (fun c1 => ?_) (fun c1 => ?_)
      · skip
        refine v_cong (n := 90) (M 80) (Or.inl (by decide)) rfl (fun j j0 j1 => i2_1 j j0 (by omega)) ?_
        exact v_vret ok rt dX10_copies_20 (⟨rfl, rfl⟩)
      · skip
        refine v_aload_n ok 1 dX10_copies_8 rfl rfl ?_
        refine v_iload_n ok 2 dX10_copies_9 rfl rfl ?_
        refine v_aload_n ok 0 dX10_copies_10 rfl rfl ?_
        refine v_iload_n ok 2 dX10_copies_11 rfl rfl ?_
        refine v_iald (n := 90) (f0 := (M 80)) ok (by decide) rfl (by omega) rfl dX10_copies_12 ?_
        refine v_iast (n := 90) (f0 := F) ok (by decide) rfl (by omega) rfl dX10_copies_13 ?_
        rw [up1_up1]
        refine v_iinc ok 2 [(2, iv (h + 1)), (0, rf g 80), (1, rf g 79)] dX10_copies_14 rfl (by decide) rfl ?_
        refine v_goto (tgt := 2) ok dX10_copies_17 (by decide) ?_
        refine v_lv (ls' := [(0, rf g 80), (1, rf g 79), (2, iv (h + 1))]) ok [1, 2, 0] rfl ?_
        exact ih2 (h + 1) (up F h (M 80 h)) (by omega) (up_lt i2_1 rfl) (by omega)
  refine v_lv (ls' := [(0, rf g 80), (1, rf g 79), (2, iv 0)]) ok [1, 2, 0] rfl ?_
  rw [show (M : Mem) = (up1 M 79 (M 79)) from (by
        funext j
        by_cases hj0 : j = 79
        · subst hj0; simp [up1, up1_self]
        simp [up1, hj0])]
  exact lp2 _ 0 (M 79) (by omega) (fun j j0 j1 => by omega) (Nat.lt_succ_self _)

set_option maxRecDepth 100000 in
set_option maxHeartbeats 400000 in
theorem ct_X10_copies_79_91 (l : Launch) (g : Gl) (M : Mem)   : Ct l g yX10_copies wsX10_copies 0 0 [rf g 79, rf g 91] M (fun rv M' => rv = none ∧ M' = (up1 M 91 (M 79))) := by
  refine Ct.of (cc := cX10_copies) (nL := 3) (ret := none) (by decide) rfl (Nat.le_of_ble_eq_true rfl) (fun z hz ok rt => ?_)
  have ok : Ok z g cX10_copies 3 RX10 wsX10_copies 0 0 := ok
  show V z g 3 M [(0, rf g 79), (1, rf g 91)] [] 0
  refine v_iconst (n := 0) ok dX10_copies_0 ?_
  refine v_istore_n ok [(2, iv 0), (0, rf g 79), (1, rf g 91)] dX10_copies_1 rfl (by decide) rfl ?_
  have lp2 : ∀ (fu : Nat) (h : Int) (F : Int → Int), (0 ≤ h ∧ h ≤ 90) → (∀ j : Int, 0 ≤ j → j < h → F j = M 79 j) → (90 - h).toNat < fu → V z g 3 (up1 M 91 F) [(0, rf g 79), (1, rf g 91), (2, iv h)] [] 2 := by
    intro fu
    induction fu with
    | zero => intro h F _ _ hm; exact absurd hm (Nat.not_lt_zero _)
    | succ fu ih2 =>
      intro h F i2_0 i2_1 hm2
      refine v_iload_n ok 2 dX10_copies_2 rfl rfl ?_
      refine v_bipush (n := 90) ok rfl dX10_copies_3 ?_
      refine v_icmp_ge (tgt := 20) ok ⟨by omega, by omega⟩ (by decide) dX10_copies_5 (by decide) (fun c1 => ?_) (fun c1 => ?_)
      · skip
        refine v_cong (n := 90) (M 79) (Or.inl (by decide)) rfl (fun j j0 j1 => i2_1 j j0 (by omega)) ?_
        exact v_vret ok rt dX10_copies_20 (⟨rfl, rfl⟩)
      · skip
        refine v_aload_n ok 1 dX10_copies_8 rfl rfl ?_
        refine v_iload_n ok 2 dX10_copies_9 rfl rfl ?_
        refine v_aload_n ok 0 dX10_copies_10 rfl rfl ?_
        refine v_iload_n ok 2 dX10_copies_11 rfl rfl ?_
        refine v_iald (n := 90) (f0 := (M 79)) ok (by decide) rfl (by omega) rfl dX10_copies_12 ?_
        refine v_iast (n := 90) (f0 := F) ok (by decide) rfl (by omega) rfl dX10_copies_13 ?_
        rw [up1_up1]
        refine v_iinc ok 2 [(2, iv (h + 1)), (0, rf g 79), (1, rf g 91)] dX10_copies_14 rfl (by decide) rfl ?_
        refine v_goto (tgt := 2) ok dX10_copies_17 (by decide) ?_
        refine v_lv (ls' := [(0, rf g 79), (1, rf g 91), (2, iv (h + 1))]) ok [1, 2, 0] rfl ?_
        exact ih2 (h + 1) (up F h (M 79 h)) (by omega) (up_lt i2_1 rfl) (by omega)
  refine v_lv (ls' := [(0, rf g 79), (1, rf g 91), (2, iv 0)]) ok [1, 2, 0] rfl ?_
  rw [show (M : Mem) = (up1 M 91 (M 91)) from (by
        funext j
        by_cases hj0 : j = 91
        · subst hj0; simp [up1, up1_self]
        simp [up1, hj0])]
  exact lp2 _ 0 (M 91) (by omega) (fun j j0 j1 => by omega) (Nat.lt_succ_self _)

set_option maxRecDepth 100000 in
set_option maxHeartbeats 400000 in
theorem ct_X10_copies_91_79 (l : Launch) (g : Gl) (M : Mem)   : Ct l g yX10_copies wsX10_copies 0 0 [rf g 91, rf g 79] M (fun rv M' => rv = none ∧ M' = (up1 M 79 (M 91))) := by
  refine Ct.of (cc := cX10_copies) (nL := 3) (ret := none) (by decide) rfl (Nat.le_of_ble_eq_true rfl) (fun z hz ok rt => ?_)
  have ok : Ok z g cX10_copies 3 RX10 wsX10_copies 0 0 := ok
  show V z g 3 M [(0, rf g 91), (1, rf g 79)] [] 0
  refine v_iconst (n := 0) ok dX10_copies_0 ?_
  refine v_istore_n ok [(2, iv 0), (0, rf g 91), (1, rf g 79)] dX10_copies_1 rfl (by decide) rfl ?_
  have lp2 : ∀ (fu : Nat) (h : Int) (F : Int → Int), (0 ≤ h ∧ h ≤ 90) → (∀ j : Int, 0 ≤ j → j < h → F j = M 91 j) → (90 - h).toNat < fu → V z g 3 (up1 M 79 F) [(0, rf g 91), (1, rf g 79), (2, iv h)] [] 2 := by
    intro fu
    induction fu with
    | zero => intro h F _ _ hm; exact absurd hm (Nat.not_lt_zero _)
    | succ fu ih2 =>
      intro h F i2_0 i2_1 hm2
      refine v_iload_n ok 2 dX10_copies_2 rfl rfl ?_
      refine v_bipush (n := 90) ok rfl dX10_copies_3 ?_
      refine v_icmp_ge (tgt := 20) ok ⟨by omega, by omega⟩ (by decide) dX10_copies_5 (by decide) (fun c1 => ?_) (fun c1 => ?_)
      · skip
        refine v_cong (n := 90) (M 91) (Or.inl (by decide)) rfl (fun j j0 j1 => i2_1 j j0 (by omega)) ?_
        exact v_vret ok rt dX10_copies_20 (⟨rfl, rfl⟩)
      · skip
        refine v_aload_n ok 1 dX10_copies_8 rfl rfl ?_
        refine v_iload_n ok 2 dX10_copies_9 rfl rfl ?_
        refine v_aload_n ok 0 dX10_copies_10 rfl rfl ?_
        refine v_iload_n ok 2 dX10_copies_11 rfl rfl ?_
        refine v_iald (n := 90) (f0 := (M 91)) ok (by decide) rfl (by omega) rfl dX10_copies_12 ?_
        refine v_iast (n := 90) (f0 := F) ok (by decide) rfl (by omega) rfl dX10_copies_13 ?_
        rw [up1_up1]
        refine v_iinc ok 2 [(2, iv (h + 1)), (0, rf g 91), (1, rf g 79)] dX10_copies_14 rfl (by decide) rfl ?_
        refine v_goto (tgt := 2) ok dX10_copies_17 (by decide) ?_
        refine v_lv (ls' := [(0, rf g 91), (1, rf g 79), (2, iv (h + 1))]) ok [1, 2, 0] rfl ?_
        exact ih2 (h + 1) (up F h (M 91 h)) (by omega) (up_lt i2_1 rfl) (by omega)
  refine v_lv (ls' := [(0, rf g 91), (1, rf g 79), (2, iv 0)]) ok [1, 2, 0] rfl ?_
  rw [show (M : Mem) = (up1 M 79 (M 79)) from (by
        funext j
        by_cases hj0 : j = 79
        · subst hj0; simp [up1, up1_self]
        simp [up1, hj0])]
  exact lp2 _ 0 (M 79) (by omega) (fun j j0 j1 => by omega) (Nat.lt_succ_self _)

set_option maxRecDepth 100000 in
set_option maxHeartbeats 400000 in
theorem ct_X10_narrowed (l : Launch) (g : Gl) (M : Mem) (s v : Int) (hs : 0 ≤ s ∧ s ≤ 4) (hv : i64 v) : Ct l g yX10_narrowed wsX10_narrowed 0 0 [iv s, jv v] M (fun rv M' => rv = some (jv (nrw s v)) ∧ M' = M) := by
  refine Ct.of (cc := cX10_narrowed) (nL := 3) (ret := (some .long)) (by decide) rfl (Nat.le_of_ble_eq_true rfl) (fun z hz ok rt => ?_)
  have ok : Ok z g cX10_narrowed 3 RX10 wsX10_narrowed 0 0 := ok
  show V z g 3 M [(0, iv s), (1, jv v)] [] 0
  refine v_iload_n ok 0 dX10_narrowed_0 rfl rfl ?_
  refine v_if_ne (tgt := 11) ok ⟨by omega, by omega⟩ dX10_narrowed_1 (by decide) (fun c1 => ?_) (fun c1 => ?_)
  · skip
    refine v_iload_n ok 0 dX10_narrowed_11 rfl rfl ?_
    refine v_iconst (n := 1) ok dX10_narrowed_12 ?_
    refine v_icmp_ne (tgt := 23) ok ⟨by omega, by omega⟩ (by decide) dX10_narrowed_13 (by decide) (fun c2 => ?_) (fun c2 => ?_)
    · skip
      refine v_iload_n ok 0 dX10_narrowed_23 rfl rfl ?_
      refine v_iconst (n := 2) ok dX10_narrowed_24 ?_
      refine v_icmp_ne (tgt := 34) ok ⟨by omega, by omega⟩ (by decide) dX10_narrowed_25 (by decide) (fun c3 => ?_) (fun c3 => ?_)
      · skip
        refine v_iload_n ok 0 dX10_narrowed_34 rfl rfl ?_
        refine v_iconst (n := 3) ok dX10_narrowed_35 ?_
        refine v_icmp_ne (tgt := 43) ok ⟨by omega, by omega⟩ (by decide) dX10_narrowed_36 (by decide) (fun c4 => ?_) (fun c4 => ?_)
        · skip
          refine v_lload_n ok 1 dX10_narrowed_43 rfl rfl ?_
          refine v_lconst (n := 0) ok rfl dX10_narrowed_44 ?_
          refine v_lcmp ok ⟨by omega, by omega⟩ (by decide) dX10_narrowed_45 (fun r5 hc6a hc6b hc6c hc6d => ?_)
          refine v_if_eq (tgt := 53) ok ⟨by omega, by omega⟩ dX10_narrowed_46 (by decide) (fun c7 => ?_) (fun c7 => ?_)
          · skip
            refine v_lconst (n := 0) ok rfl dX10_narrowed_53 ?_
            exact v_lret ok rt dX10_narrowed_54 (⟨(congrArg (fun q : Int => some (jv q)) (show 0 = (nrw s v) from by (unfold nrw; (repeat' split) <;> first | rfl | omega))), rfl⟩)
          · skip
            refine v_lconst (n := 1) ok rfl dX10_narrowed_49 ?_
            refine v_goto (tgt := 54) ok dX10_narrowed_50 (by decide) ?_
            exact v_lret ok rt dX10_narrowed_54 (⟨(congrArg (fun q : Int => some (jv q)) (show 1 = (nrw s v) from by (unfold nrw; (repeat' split) <;> first | rfl | omega))), rfl⟩)
        · skip
          refine v_lload_n ok 1 dX10_narrowed_39 rfl rfl ?_
          refine v_goto (tgt := 54) ok dX10_narrowed_40 (by decide) ?_
          exact v_lret ok rt dX10_narrowed_54 (⟨(congrArg (fun q : Int => some (jv q)) (show v = (nrw s v) from by (unfold nrw; (repeat' split) <;> first | rfl | omega))), rfl⟩)
      · skip
        refine v_lload_n ok 1 dX10_narrowed_28 rfl rfl ?_
        refine v_l2iw ok dX10_narrowed_29 ?_
        have h1 := Int.le_bmod (x := v) (m := 4294967296) (by decide)
        have h2 := Int.bmod_lt (x := v) (m := 4294967296) (by decide)
        refine v_i2l ok ⟨by omega, by omega⟩ dX10_narrowed_30 ?_
        refine v_goto (tgt := 54) ok dX10_narrowed_31 (by decide) ?_
        exact v_lret ok rt dX10_narrowed_54 (⟨(congrArg (fun q : Int => some (jv q)) (show (Int.bmod v 4294967296) = (nrw s v) from by (unfold nrw; (repeat' split) <;> first | rfl | omega))), rfl⟩)
    · skip
      refine v_lload_n ok 1 dX10_narrowed_16 rfl rfl ?_
      refine v_l2i ok dX10_narrowed_17 ?_
      refine v_i2s ok dX10_narrowed_18 ?_
      have h1 := Int.le_bmod (x := v) (m := 65536) (by decide)
      have h2 := Int.bmod_lt (x := v) (m := 65536) (by decide)
      refine v_i2l ok ⟨by omega, by omega⟩ dX10_narrowed_19 ?_
      refine v_goto (tgt := 54) ok dX10_narrowed_20 (by decide) ?_
      exact v_lret ok rt dX10_narrowed_54 (⟨(congrArg (fun q : Int => some (jv q)) (show (Int.bmod v 65536) = (nrw s v) from by (unfold nrw; (repeat' split) <;> first | rfl | omega))), rfl⟩)
  · skip
    refine v_lload_n ok 1 dX10_narrowed_4 rfl rfl ?_
    refine v_l2i ok dX10_narrowed_5 ?_
    refine v_i2b ok dX10_narrowed_6 ?_
    have h1 := Int.le_bmod (x := v) (m := 256) (by decide)
    have h2 := Int.bmod_lt (x := v) (m := 256) (by decide)
    refine v_i2l ok ⟨by omega, by omega⟩ dX10_narrowed_7 ?_
    refine v_goto (tgt := 54) ok dX10_narrowed_8 (by decide) ?_
    exact v_lret ok rt dX10_narrowed_54 (⟨(congrArg (fun q : Int => some (jv q)) (show (Int.bmod v 256) = (nrw s v) from by (unfold nrw; (repeat' split) <;> first | rfl | omega))), rfl⟩)
