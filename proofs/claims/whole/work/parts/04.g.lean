theorem mk_X10_rain_73 : Cond.constantLong RX10 73 (20) ∈ wsX10_rain := by decide +kernel
theorem mk_X10_rain_11 : Cond.fieldLink RX10 11 "StormRunoffModel" "w" "[I" ∈ wsX10_rain := by decide +kernel
theorem mi_X10_rain_10 : ∀ w ∈ wsX100, w ∈ wsX10_rain := by decide +kernel
set_option maxRecDepth 100000 in
set_option maxHeartbeats 400000 in
theorem ct_X10_rain (l : Launch) (g : Gl) (M : Mem) (h v : Int) (hh : i32 h) (hv : i32 v) : Ct l g yX10_rain wsX10_rain 2 45 [rf g 78, iv h, iv v] M (fun rv M' => (rv = some (iv (-1)) ∧ M' = M ∧ (¬ (0 ≤ h ∧ h < 8))) ∨ (rv = some (iv (-2)) ∧ M' = M ∧ (0 ≤ h ∧ h < 8) ∧ (¬ (0 ≤ v ∧ v ≤ 20))) ∨ (rv = some (iv (M 79 h)) ∧ M' = (up1 M 79 (up (M 79) h v)) ∧ (0 ≤ h ∧ h < 8) ∧ (0 ≤ v ∧ v ≤ 20))) := by
  refine Ct.of (cc := cX10_rain) (nL := 4) (ret := (some .int)) (by decide) rfl (Nat.le_of_ble_eq_true rfl) (fun z hz ok rt => ?_)
  have ok : Ok z g cX10_rain 4 RX10 wsX10_rain 2 45 := ok
  show V z g 4 M [(0, rf g 78), (1, iv h), (2, iv v)] [] 0
  refine v_iload_n ok 1 dX10_rain_0 rfl rfl ?_
  refine v_callS (na := 1) ok (ct_X10_isRain z.2.1 g M h ⟨by omega, by omega⟩) gX10_rain_X10_isRain rfl (by decide +kernel) rfl (by decide) [] rfl (Nat.le_of_ble_eq_true rfl) dX10_rain_1 (fun v2 M3 hp1 => ?_)
  rcases hp1 with ⟨rfl, eM3, h4⟩ | ⟨rfl, eM3, h5⟩
  · skip
    subst M3
    show V z g 4 M [(0, rf g 78), (1, iv h), (2, iv v)] [iv 1] 4
    refine v_if_ne (tgt := 9) ok (by decide) dX10_rain_4 (by decide) (fun c6 => ?_) (fun c6 => absurd c6 (by decide))
    refine v_iload_n ok 2 dX10_rain_9 rfl rfl ?_
    refine v_i2l ok ⟨by omega, by omega⟩ dX10_rain_10 ?_
    refine v_lconst (n := 0) ok rfl dX10_rain_11 ?_
    refine v_ldc2 (n := 20) ok mk_X10_rain_73 rfl dX10_rain_12 ?_
    refine v_callS (na := 3) ok (ct_X10_in z.2.1 g M v 0 20 ⟨by omega, by omega⟩ (by decide) (by decide)) gX10_rain_X10_in rfl (by decide +kernel) rfl (by decide) [] rfl (Nat.le_of_ble_eq_true rfl) dX10_rain_15 (fun v8 M9 hp7 => ?_)
    rcases hp7 with ⟨rfl, eM9, h10⟩ | ⟨rfl, eM9, h11⟩
    · skip
      subst M9
      show V z g 4 M [(0, rf g 78), (1, iv h), (2, iv v)] [iv 1] 18
      refine v_if_ne (tgt := 24) ok (by decide) dX10_rain_18 (by decide) (fun c12 => ?_) (fun c12 => absurd c12 (by decide))
      refine v_aload_n ok 0 dX10_rain_24 rfl rfl ?_
      refine v_get (T := TX10) (N := 22) (f0 := (M 78)) (v := rf g 79) ok mi_X10_rain_10 (kd_lt (show kd 78 = 10 from rfl) (by decide)) rfl rfl (cellF_10 _ (by decide)) 0 (by decide) mk_X10_rain_11 rfl rfl dX10_rain_25 ?_
      refine v_iload_n ok 1 dX10_rain_28 rfl rfl ?_
      refine v_iald (n := 90) (f0 := (M 79)) ok (by decide) rfl (by omega) rfl dX10_rain_29 ?_
      refine v_istore_n ok [(3, iv (M 79 h)), (0, rf g 78), (1, iv h), (2, iv v)] dX10_rain_30 rfl (by decide) rfl ?_
      refine v_aload_n ok 1 dX10_rain_31 rfl rfl ?_
      refine v_get (T := TX10) (N := 22) (f0 := (M 78)) (v := rf g 79) ok mi_X10_rain_10 (kd_lt (show kd 78 = 10 from rfl) (by decide)) rfl rfl (cellF_10 _ (by decide)) 0 (by decide) mk_X10_rain_11 rfl rfl dX10_rain_32 ?_
      refine v_iload_n ok 2 dX10_rain_35 rfl rfl ?_
      refine v_iload_n ok 3 dX10_rain_36 rfl rfl ?_
      refine v_iast (n := 90) (f0 := (M 79)) ok (by decide) rfl (by omega) rfl dX10_rain_37 ?_
      refine v_iload_n ok 0 dX10_rain_38 rfl rfl ?_
      first | (exact v_iret ok rt dX10_rain_39 (Or.inl (⟨rfl, (by
            funext j
            by_cases hj0 : j = 79
            · subst hj0; simp [up1, up1_self]
            simp [up1, hj0]), (by omega)⟩))) | (exact v_iret ok rt dX10_rain_39 (Or.inr (Or.inl (⟨rfl, (by
            funext j
            by_cases hj0 : j = 79
            · subst hj0; simp [up1, up1_self]
            simp [up1, hj0]), (by omega), (by omega)⟩)))) | (exact v_iret ok rt dX10_rain_39 (Or.inr (Or.inr (⟨rfl, rfl, (by omega), (by omega)⟩))))
    · skip
      subst M9
      show V z g 4 M [(0, rf g 78), (1, iv h), (2, iv v)] [iv 0] 18
      refine v_if_ne (tgt := 24) ok (by decide) dX10_rain_18 (by decide) (fun c13 => absurd c13 (by decide)) (fun c13 => ?_)
      refine v_bipush (n := -2) ok rfl dX10_rain_21 ?_
      first | (exact v_iret ok rt dX10_rain_23 (Or.inr (Or.inl (⟨rfl, rfl, (by omega), (by omega)⟩)))) | (exact v_iret ok rt dX10_rain_23 (Or.inr (Or.inr (⟨(congrArg (fun q : Int => some (iv q)) (show (-2) = (M 79 h) from by omega)), (by
            funext j
            by_cases hj0 : j = 79
            · subst hj0; simp [up1, up1_self]
            simp [up1, hj0]), (by omega), (by omega)⟩))))
  · skip
    subst M3
    show V z g 4 M [(0, rf g 78), (1, iv h), (2, iv v)] [iv 0] 4
    refine v_if_ne (tgt := 9) ok (by decide) dX10_rain_4 (by decide) (fun c14 => absurd c14 (by decide)) (fun c14 => ?_)
    refine v_iconst (n := -1) ok dX10_rain_7 ?_
    first | (exact v_iret ok rt dX10_rain_8 (Or.inl (⟨rfl, rfl, (by omega)⟩))) | (exact v_iret ok rt dX10_rain_8 (Or.inr (Or.inr (⟨(congrArg (fun q : Int => some (iv q)) (show (-1) = (M 79 h) from by omega)), (by
          funext j
          by_cases hj0 : j = 79
          · subst hj0; simp [up1, up1_self]
          simp [up1, hj0]), (by omega), (by omega)⟩))))

theorem mk_X10_tell_88 : Cond.constantLong RX10 88 (11) ∈ wsX10_tell := by decide +kernel
theorem mk_X10_tell_90 : Cond.constantLong RX10 90 (999) ∈ wsX10_tell := by decide +kernel
theorem mk_X10_tell_11 : Cond.fieldLink RX10 11 "StormRunoffModel" "w" "[I" ∈ wsX10_tell := by decide +kernel
theorem mi_X10_tell_10 : ∀ w ∈ wsX100, w ∈ wsX10_tell := by decide +kernel
set_option maxRecDepth 100000 in
set_option maxHeartbeats 400000 in
theorem ct_X10_tell (l : Launch) (g : Gl) (M : Mem) (h v : Int) (hh : i32 h) (hv : i32 v) : Ct l g yX10_tell wsX10_tell 1 25 [rf g 78, iv h, iv v] M (fun rv M' => (rv = some (iv (-1)) ∧ M' = M ∧ (¬ (0 ≤ h ∧ h < 12))) ∨ (rv = some (iv (-2)) ∧ M' = M ∧ (0 ≤ h ∧ h < 12) ∧ (¬ (0 ≤ v ∧ v ≤ 999))) ∨ (rv = some (iv (M 79 (8 + h))) ∧ M' = (up1 M 79 (up (M 79) (8 + h) v)) ∧ (0 ≤ h ∧ h < 12) ∧ (0 ≤ v ∧ v ≤ 999))) := by
  refine Ct.of (cc := cX10_tell) (nL := 4) (ret := (some .int)) (by decide) rfl (Nat.le_of_ble_eq_true rfl) (fun z hz ok rt => ?_)
  have ok : Ok z g cX10_tell 4 RX10 wsX10_tell 1 25 := ok
  show V z g 4 M [(0, rf g 78), (1, iv h), (2, iv v)] [] 0
  refine v_iload_n ok 1 dX10_tell_0 rfl rfl ?_
  refine v_i2l ok ⟨by omega, by omega⟩ dX10_tell_1 ?_
  refine v_lconst (n := 0) ok rfl dX10_tell_2 ?_
  refine v_ldc2 (n := 11) ok mk_X10_tell_88 rfl dX10_tell_3 ?_
  refine v_callS (na := 3) ok (ct_X10_in z.2.1 g M h 0 11 ⟨by omega, by omega⟩ (by decide) (by decide)) gX10_tell_X10_in rfl (by decide +kernel) rfl (by decide) [] rfl (Nat.le_of_ble_eq_true rfl) dX10_tell_6 (fun v2 M3 hp1 => ?_)
  rcases hp1 with ⟨rfl, eM3, h4⟩ | ⟨rfl, eM3, h5⟩
  · skip
    subst M3
    show V z g 4 M [(0, rf g 78), (1, iv h), (2, iv v)] [iv 1] 9
    refine v_if_ne (tgt := 14) ok (by decide) dX10_tell_9 (by decide) (fun c6 => ?_) (fun c6 => absurd c6 (by decide))
    refine v_iload_n ok 2 dX10_tell_14 rfl rfl ?_
    refine v_i2l ok ⟨by omega, by omega⟩ dX10_tell_15 ?_
    refine v_lconst (n := 0) ok rfl dX10_tell_16 ?_
    refine v_ldc2 (n := 999) ok mk_X10_tell_90 rfl dX10_tell_17 ?_
    refine v_callS (na := 3) ok (ct_X10_in z.2.1 g M v 0 999 ⟨by omega, by omega⟩ (by decide) (by decide)) gX10_tell_X10_in rfl (by decide +kernel) rfl (by decide) [] rfl (Nat.le_of_ble_eq_true rfl) dX10_tell_20 (fun v8 M9 hp7 => ?_)
    rcases hp7 with ⟨rfl, eM9, h10⟩ | ⟨rfl, eM9, h11⟩
    · skip
      subst M9
      show V z g 4 M [(0, rf g 78), (1, iv h), (2, iv v)] [iv 1] 23
      refine v_if_ne (tgt := 29) ok (by decide) dX10_tell_23 (by decide) (fun c12 => ?_) (fun c12 => absurd c12 (by decide))
      refine v_aload_n ok 0 dX10_tell_29 rfl rfl ?_
      refine v_get (T := TX10) (N := 22) (f0 := (M 78)) (v := rf g 79) ok mi_X10_tell_10 (kd_lt (show kd 78 = 10 from rfl) (by decide)) rfl rfl (cellF_10 _ (by decide)) 0 (by decide) mk_X10_tell_11 rfl rfl dX10_tell_30 ?_
      refine v_bipush (n := 8) ok rfl dX10_tell_33 ?_
      refine v_iload_n ok 1 dX10_tell_35 rfl rfl ?_
      refine v_iadd ok dX10_tell_36 ?_
      refine v_iald (n := 90) (f0 := (M 79)) ok (by decide) rfl (by omega) rfl dX10_tell_37 ?_
      refine v_istore_n ok [(3, iv (M 79 (8 + h))), (0, rf g 78), (1, iv h), (2, iv v)] dX10_tell_38 rfl (by decide) rfl ?_
      refine v_aload_n ok 1 dX10_tell_39 rfl rfl ?_
      refine v_get (T := TX10) (N := 22) (f0 := (M 78)) (v := rf g 79) ok mi_X10_tell_10 (kd_lt (show kd 78 = 10 from rfl) (by decide)) rfl rfl (cellF_10 _ (by decide)) 0 (by decide) mk_X10_tell_11 rfl rfl dX10_tell_40 ?_
      refine v_bipush (n := 8) ok rfl dX10_tell_43 ?_
      refine v_iload_n ok 2 dX10_tell_45 rfl rfl ?_
      refine v_iadd ok dX10_tell_46 ?_
      refine v_iload_n ok 3 dX10_tell_47 rfl rfl ?_
      refine v_iast (n := 90) (f0 := (M 79)) ok (by decide) rfl (by omega) rfl dX10_tell_48 ?_
      refine v_iload_n ok 0 dX10_tell_49 rfl rfl ?_
      first | (exact v_iret ok rt dX10_tell_50 (Or.inl (⟨rfl, (by
            funext j
            by_cases hj0 : j = 79
            · subst hj0; simp [up1, up1_self]
            simp [up1, hj0]), (by omega)⟩))) | (exact v_iret ok rt dX10_tell_50 (Or.inr (Or.inl (⟨rfl, (by
            funext j
            by_cases hj0 : j = 79
            · subst hj0; simp [up1, up1_self]
            simp [up1, hj0]), (by omega), (by omega)⟩)))) | (exact v_iret ok rt dX10_tell_50 (Or.inr (Or.inr (⟨rfl, rfl, (by omega), (by omega)⟩))))
    · skip
      subst M9
      show V z g 4 M [(0, rf g 78), (1, iv h), (2, iv v)] [iv 0] 23
      refine v_if_ne (tgt := 29) ok (by decide) dX10_tell_23 (by decide) (fun c13 => absurd c13 (by decide)) (fun c13 => ?_)
      refine v_bipush (n := -2) ok rfl dX10_tell_26 ?_
      first | (exact v_iret ok rt dX10_tell_28 (Or.inr (Or.inl (⟨rfl, rfl, (by omega), (by omega)⟩)))) | (exact v_iret ok rt dX10_tell_28 (Or.inr (Or.inr (⟨(congrArg (fun q : Int => some (iv q)) (show (-2) = (M 79 (8 + h)) from by omega)), (by
            funext j
            by_cases hj0 : j = 79
            · subst hj0; simp [up1, up1_self]
            simp [up1, hj0]), (by omega), (by omega)⟩))))
  · skip
    subst M3
    show V z g 4 M [(0, rf g 78), (1, iv h), (2, iv v)] [iv 0] 9
    refine v_if_ne (tgt := 14) ok (by decide) dX10_tell_9 (by decide) (fun c14 => absurd c14 (by decide)) (fun c14 => ?_)
    refine v_iconst (n := -1) ok dX10_tell_12 ?_
    first | (exact v_iret ok rt dX10_tell_13 (Or.inl (⟨rfl, rfl, (by omega)⟩))) | (exact v_iret ok rt dX10_tell_13 (Or.inr (Or.inr (⟨(congrArg (fun q : Int => some (iv q)) (show (-1) = (M 79 (8 + h)) from by omega)), (by
          funext j
          by_cases hj0 : j = 79
          · subst hj0; simp [up1, up1_self]
          simp [up1, hj0]), (by omega), (by omega)⟩))))

theorem mk_X10_comes_11 : Cond.fieldLink RX10 11 "StormRunoffModel" "w" "[I" ∈ wsX10_comes := by decide +kernel
theorem mi_X10_comes_10 : ∀ w ∈ wsX100, w ∈ wsX10_comes := by decide +kernel
theorem mk_X10_comes_18 : Cond.fieldLink RX10 18 "StormRunoffModel" "digits" "[I" ∈ wsX10_comes := by decide +kernel
set_option maxRecDepth 100000 in
set_option maxHeartbeats 400000 in
theorem ct_X10_comes (l : Launch) (g : Gl) (M : Mem) (c : Int) (hm : 0 ≤ M 79 20 ∧ M 79 20 ≤ 3) (hc : 0 ≤ c ∧ c ≤ 5) (hD : bdf (M 81) c 0 9) : Ct l g yX10_comes wsX10_comes 0 0 [rf g 78, iv c] M (fun rv M' => (rv = some (iv (-4)) ∧ M' = M ∧ (M 79 20 = 3)) ∨ (rv = some (iv (M 79 20)) ∧ M' = (up1 M 79 (comW (M 79) c (M 81))) ∧ (M 79 20 < 3))) := by
  refine Ct.of (cc := cX10_comes) (nL := 4) (ret := (some .int)) (by decide) rfl (Nat.le_of_ble_eq_true rfl) (fun z hz ok rt => ?_)
  have ok : Ok z g cX10_comes 4 RX10 wsX10_comes 0 0 := ok
  show V z g 4 M [(0, rf g 78), (1, iv c)] [] 0
  refine v_aload_n ok 0 dX10_comes_0 rfl rfl ?_
  refine v_get (T := TX10) (N := 22) (f0 := (M 78)) (v := rf g 79) ok mi_X10_comes_10 (kd_lt (show kd 78 = 10 from rfl) (by decide)) rfl rfl (cellF_10 _ (by decide)) 0 (by decide) mk_X10_comes_11 rfl rfl dX10_comes_1 ?_
  refine v_bipush (n := 20) ok rfl dX10_comes_4 ?_
  refine v_iald (n := 90) (f0 := (M 79)) ok (by decide) rfl (by omega) rfl dX10_comes_6 ?_
  refine v_iconst (n := 3) ok dX10_comes_7 ?_
  refine v_icmp_ne (tgt := 14) ok ⟨by omega, by omega⟩ (by decide) dX10_comes_8 (by decide) (fun c1 => ?_) (fun c1 => ?_)
  · skip
    refine v_bipush (n := 21) ok rfl dX10_comes_14 ?_
    refine v_bipush (n := 8) ok rfl dX10_comes_16 ?_
    refine v_aload_n ok 0 dX10_comes_18 rfl rfl ?_
    refine v_get (T := TX10) (N := 22) (f0 := (M 78)) (v := rf g 79) ok mi_X10_comes_10 (kd_lt (show kd 78 = 10 from rfl) (by decide)) rfl rfl (cellF_10 _ (by decide)) 0 (by decide) mk_X10_comes_11 rfl rfl dX10_comes_19 ?_
    refine v_bipush (n := 20) ok rfl dX10_comes_22 ?_
    refine v_iald (n := 90) (f0 := (M 79)) ok (by decide) rfl (by omega) rfl dX10_comes_24 ?_
    refine v_imul ok dX10_comes_25 ?_
    refine v_iadd ok dX10_comes_26 ?_
    refine v_istore_n ok [(2, iv (21 + (8 * (M 79 20)))), (0, rf g 78), (1, iv c)] dX10_comes_27 rfl (by decide) rfl ?_
    refine v_aload_n ok 1 dX10_comes_28 rfl rfl ?_
    refine v_get (T := TX10) (N := 22) (f0 := (M 78)) (v := rf g 79) ok mi_X10_comes_10 (kd_lt (show kd 78 = 10 from rfl) (by decide)) rfl rfl (cellF_10 _ (by decide)) 0 (by decide) mk_X10_comes_11 rfl rfl dX10_comes_29 ?_
    refine v_iload_n ok 0 dX10_comes_32 rfl rfl ?_
    refine v_iload_n ok 2 dX10_comes_33 rfl rfl ?_
    refine v_iast (n := 90) (f0 := (M 79)) ok (by decide) rfl (by omega) rfl dX10_comes_34 ?_
    refine v_iconst (n := 0) ok dX10_comes_35 ?_
    refine v_istore_n ok [(3, iv 0), (2, iv (21 + (8 * (M 79 20)))), (0, rf g 78), (1, iv c)] dX10_comes_36 rfl (by decide) rfl ?_
    have lp37 : ∀ (fu : Nat) (k : Int) (G : Int → Int), (0 ≤ k ∧ k ≤ 5) → (∀ j : Int, G j = if (21 + 8 * M 79 20) + 1 ≤ j ∧ j < (21 + 8 * M 79 20) + 1 + k then cpN (M 81) c (j - (21 + 8 * M 79 20) - 1) else up (M 79) (21 + 8 * M 79 20) c j) → (5 - k).toNat < fu → V z g 4 (up1 M 79 G) [(0, rf g 78), (1, iv c), (2, iv (21 + 8 * M 79 20)), (3, iv k)] [] 37 := by
      intro fu
      induction fu with
      | zero => intro k G _ _ hm; exact absurd hm (Nat.not_lt_zero _)
      | succ fu ih37 =>
        intro k G i37_0 i37_1 hm37
        refine v_iload_n ok 3 dX10_comes_37 rfl rfl ?_
        refine v_iconst (n := 5) ok dX10_comes_38 ?_
        refine v_icmp_ge (tgt := 73) ok ⟨by omega, by omega⟩ (by decide) dX10_comes_39 (by decide) (fun c2 => ?_) (fun c2 => ?_)
        · skip
          have ek : k = 5 := by omega
          have h20 : G 20 = M 79 20 := by rw [i37_1, if_neg (by omega), up_ne (by omega)]
          refine v_aload_n ok 0 dX10_comes_73 rfl rfl ?_
          refine v_get (T := TX10) (N := 22) (f0 := (M 78)) (v := rf g 79) ok mi_X10_comes_10 (kd_lt (show kd 78 = 10 from rfl) (by decide)) rfl rfl (cellF_10 _ (by decide)) 0 (by decide) mk_X10_comes_11 rfl rfl dX10_comes_74 ?_
          refine v_iload_n ok 2 dX10_comes_77 rfl rfl ?_
          refine v_bipush (n := 6) ok rfl dX10_comes_78 ?_
          refine v_iadd ok dX10_comes_80 ?_
          refine v_iconst (n := 0) ok dX10_comes_81 ?_
          refine v_iast (n := 90) (f0 := G) ok (by decide) rfl (by omega) rfl dX10_comes_82 ?_
          rw [up1_up1]
          refine v_aload_n ok 0 dX10_comes_83 rfl rfl ?_
          refine v_get (T := TX10) (N := 22) (f0 := (M 78)) (v := rf g 79) ok mi_X10_comes_10 (kd_lt (show kd 78 = 10 from rfl) (by decide)) rfl rfl (cellF_10 _ (by decide)) 0 (by decide) mk_X10_comes_11 rfl rfl dX10_comes_84 ?_
          refine v_iload_n ok 2 dX10_comes_87 rfl rfl ?_
          refine v_bipush (n := 7) ok rfl dX10_comes_88 ?_
          refine v_iadd ok dX10_comes_90 ?_
          refine v_iconst (n := 0) ok dX10_comes_91 ?_
          refine v_iast (n := 90) (f0 := up G ((21 + 8 * M 79 20) + 6) 0) ok (by decide) rfl (by omega) rfl dX10_comes_92 ?_
          rw [up1_up1]
          refine v_aload_n ok 0 dX10_comes_93 rfl rfl ?_
          refine v_get (T := TX10) (N := 22) (f0 := (M 78)) (v := rf g 79) ok mi_X10_comes_10 (kd_lt (show kd 78 = 10 from rfl) (by decide)) rfl rfl (cellF_10 _ (by decide)) 0 (by decide) mk_X10_comes_11 rfl rfl dX10_comes_94 ?_
          refine v_bipush (n := 20) ok rfl dX10_comes_97 ?_
          refine v_dup2 ok rfl rfl dX10_comes_99 ?_
          refine v_iald (n := 90) (f0 := up (up G ((21 + 8 * M 79 20) + 6) 0) ((21 + 8 * M 79 20) + 7) 0) ok (by decide) rfl (by omega) rfl dX10_comes_100 ?_
          rw [show ((up (up G ((21 + 8 * M 79 20) + 6) 0) ((21 + 8 * M 79 20) + 7) 0 20) : Int) = (M 79 20) from (by rw [up_ne (by omega), up_ne (by omega), h20])]
          refine v_iconst (n := 1) ok dX10_comes_101 ?_
          refine v_iadd ok dX10_comes_102 ?_
          refine v_iast (n := 90) (f0 := up (up G ((21 + 8 * M 79 20) + 6) 0) ((21 + 8 * M 79 20) + 7) 0) ok (by decide) rfl (by omega) rfl dX10_comes_103 ?_
          rw [up1_up1]
          refine v_cong (n := 90) (comW (M 79) c (M 81)) (Or.inl (by decide)) rfl (fun j j0 j1 => by
              unfold comW
              by_cases h1 : j = 20
              · rw [h1, up_same, if_pos rfl]
              · rw [up_ne h1, if_neg h1]
                by_cases h2 : j = (21 + 8 * M 79 20) + 7
                · rw [h2, up_same, if_neg (by omega), if_neg (by omega), if_pos (by omega)]
                · rw [up_ne h2]
                  by_cases h3 : j = (21 + 8 * M 79 20) + 6
                  · rw [h3, up_same, if_neg (by omega), if_neg (by omega), if_pos (by omega)]
                  · rw [up_ne h3, i37_1 j]
                    by_cases h4 : (21 + 8 * M 79 20) + 1 ≤ j ∧ j < (21 + 8 * M 79 20) + 1 + k
                    · rw [if_pos h4, if_neg (by omega), if_pos (by omega)]
                    · rw [if_neg h4]
                      by_cases h5 : j = (21 + 8 * M 79 20)
                      · rw [h5, up_same, if_pos rfl]
                      · rw [up_ne h5, if_neg h5, if_neg (by omega), if_neg (by omega)]) ?_
          refine v_aload_n ok 0 dX10_comes_104 rfl rfl ?_
          refine v_get (T := TX10) (N := 22) (f0 := (M 78)) (v := rf g 79) ok mi_X10_comes_10 (kd_lt (show kd 78 = 10 from rfl) (by decide)) rfl rfl (cellF_10 _ (by decide)) 0 (by decide) mk_X10_comes_11 rfl rfl dX10_comes_105 ?_
          refine v_bipush (n := 20) ok rfl dX10_comes_108 ?_
          refine v_iald (n := 90) (f0 := (comW (M 79) c (M 81))) ok (by decide) rfl (by omega) rfl dX10_comes_110 ?_
          refine v_iconst (n := 1) ok dX10_comes_111 ?_
          refine v_isub ok dX10_comes_112 ?_
          exact v_iret ok rt dX10_comes_113 (Or.inr (⟨(congrArg (fun q : Int => some (iv q)) (show (((comW (M 79) c (M 81)) 20) - 1) = (M 79 20) from by (unfold comW; rw [if_pos rfl]; omega))), rfl, (by omega)⟩))
        · skip
          refine v_aload_n ok 0 dX10_comes_42 rfl rfl ?_
          refine v_get (T := TX10) (N := 22) (f0 := (M 78)) (v := rf g 79) ok mi_X10_comes_10 (kd_lt (show kd 78 = 10 from rfl) (by decide)) rfl rfl (cellF_10 _ (by decide)) 0 (by decide) mk_X10_comes_11 rfl rfl dX10_comes_43 ?_
          refine v_iload_n ok 2 dX10_comes_46 rfl rfl ?_
          refine v_iconst (n := 1) ok dX10_comes_47 ?_
          refine v_iadd ok dX10_comes_48 ?_
          refine v_iload_n ok 3 dX10_comes_49 rfl rfl ?_
          refine v_iadd ok dX10_comes_50 ?_
          refine v_iload_n ok 3 dX10_comes_51 rfl rfl ?_
          refine v_iload_n ok 1 dX10_comes_52 rfl rfl ?_
          refine v_icmp_ge (tgt := 65) ok ⟨by omega, by omega⟩ ⟨by omega, by omega⟩ dX10_comes_53 (by decide) (fun c3 => ?_) (fun c3 => ?_)
          · skip
            refine v_iconst (n := 0) ok dX10_comes_65 ?_
            refine v_iast (n := 90) (f0 := G) ok (by decide) rfl (by omega) rfl dX10_comes_66 ?_
            rw [up1_up1]
            refine v_iinc ok 3 [(3, iv (k + 1)), (0, rf g 78), (1, iv c), (2, iv (21 + 8 * M 79 20))] dX10_comes_67 rfl (by decide) rfl ?_
            refine v_goto (tgt := 37) ok dX10_comes_70 (by decide) ?_
            refine v_lv (ls' := [(0, rf g 78), (1, iv c), (2, iv (21 + 8 * M 79 20)), (3, iv (k + 1))]) ok [1, 2, 3, 0] rfl ?_
            exact ih37 (k + 1) (up G (((21 + 8 * M 79 20) + 1) + k) 0) (by omega) (fun j => by
                by_cases e : j = (21 + 8 * M 79 20) + 1 + k
                · rw [e, up_same, if_pos (by omega), show (21 + 8 * M 79 20) + 1 + k - (21 + 8 * M 79 20) - 1 = k by omega]; unfold cpN; first | rw [if_pos (by omega)] | rw [if_neg (by omega)]
                · rw [up_ne e, i37_1 j]
                  by_cases q : (21 + 8 * M 79 20) + 1 ≤ j ∧ j < (21 + 8 * M 79 20) + 1 + k
                  · rw [if_pos q, if_pos (by omega)]
                  · rw [if_neg q, if_neg (by omega)]) (by omega)
          · skip
            refine v_aload_n ok 0 dX10_comes_56 rfl rfl ?_
            refine v_get (T := TX10) (N := 22) (f0 := (M 78)) (v := rf g 81) ok mi_X10_comes_10 (kd_lt (show kd 78 = 10 from rfl) (by decide)) rfl rfl (cellF_10 _ (by decide)) 3 (by decide) mk_X10_comes_18 rfl rfl dX10_comes_57 ?_
            refine v_iload_n ok 3 dX10_comes_60 rfl rfl ?_
            refine v_iald (n := 5) (f0 := (M 81)) ok (by decide) rfl (by omega) rfl dX10_comes_61 ?_
            refine v_goto (tgt := 66) ok dX10_comes_62 (by decide) ?_
            refine v_iast (n := 90) (f0 := G) ok (by decide) rfl (by omega) rfl dX10_comes_66 ?_
            rw [up1_up1]
            refine v_iinc ok 3 [(3, iv (k + 1)), (0, rf g 78), (1, iv c), (2, iv (21 + 8 * M 79 20))] dX10_comes_67 rfl (by decide) rfl ?_
            refine v_goto (tgt := 37) ok dX10_comes_70 (by decide) ?_
            refine v_lv (ls' := [(0, rf g 78), (1, iv c), (2, iv (21 + 8 * M 79 20)), (3, iv (k + 1))]) ok [1, 2, 3, 0] rfl ?_
            exact ih37 (k + 1) (up G (((21 + 8 * M 79 20) + 1) + k) (M 81 k)) (by omega) (fun j => by
                by_cases e : j = (21 + 8 * M 79 20) + 1 + k
                · rw [e, up_same, if_pos (by omega), show (21 + 8 * M 79 20) + 1 + k - (21 + 8 * M 79 20) - 1 = k by omega]; unfold cpN; first | rw [if_pos (by omega)] | rw [if_neg (by omega)]
                · rw [up_ne e, i37_1 j]
                  by_cases q : (21 + 8 * M 79 20) + 1 ≤ j ∧ j < (21 + 8 * M 79 20) + 1 + k
                  · rw [if_pos q, if_pos (by omega)]
                  · rw [if_neg q, if_neg (by omega)]) (by omega)
    refine v_lv (ls' := [(0, rf g 78), (1, iv c), (2, iv (21 + (8 * (M 79 20)))), (3, iv 0)]) ok [2, 3, 1, 0] rfl ?_
    exact lp37 _ 0 (up (M 79) (21 + (8 * (M 79 20))) c) (by omega) (fun j => by rw [if_neg (by omega)]) (Nat.lt_succ_self _)
  · skip
    refine v_bipush (n := -4) ok rfl dX10_comes_11 ?_
    exact v_iret ok rt dX10_comes_13 (Or.inl (⟨rfl, rfl, (by omega)⟩))

theorem mk_X10_basin_75 : Cond.constantLong RX10 75 (99999) ∈ wsX10_basin := by decide +kernel
theorem mk_X10_basin_18 : Cond.fieldLink RX10 18 "StormRunoffModel" "digits" "[I" ∈ wsX10_basin := by decide +kernel
theorem mi_X10_basin_10 : ∀ w ∈ wsX100, w ∈ wsX10_basin := by decide +kernel
set_option maxRecDepth 100000 in
set_option maxHeartbeats 400000 in
theorem ct_X10_basin (l : Launch) (g : Gl) (M : Mem) (v : Int) (hv : i32 v) (hm : 0 ≤ M 79 20 ∧ M 79 20 ≤ 3) : Ct l g yX10_basin wsX10_basin 1 25 [rf g 78, iv v] M (fun rv M' => (rv = some (iv (-2)) ∧ M' = M ∧ (¬ (1 ≤ v ∧ v ≤ 99999))) ∨ (∃ (D : Int → Int), rv = some (iv (-4)) ∧ M' = (up1 M 81 D) ∧ (1 ≤ v ∧ v ≤ 99999) ∧ (M 79 20 = 3)) ∨ (∃ (D : Int → Int), rv = some (iv (M 79 20)) ∧ M' = (up1 (up1 M 81 D) 79 (comW (M 79) (dgn v) (dgt v (dgn v)))) ∧ (1 ≤ v ∧ v ≤ 99999) ∧ (M 79 20 < 3))) := by
  refine Ct.of (cc := cX10_basin) (nL := 5) (ret := (some .int)) (by decide) rfl (Nat.le_of_ble_eq_true rfl) (fun z hz ok rt => ?_)
  have ok : Ok z g cX10_basin 5 RX10 wsX10_basin 1 25 := ok
  show V z g 5 M [(0, rf g 78), (1, iv v)] [] 0
  refine v_iload_n ok 1 dX10_basin_0 rfl rfl ?_
  refine v_i2l ok ⟨by omega, by omega⟩ dX10_basin_1 ?_
  refine v_lconst (n := 1) ok rfl dX10_basin_2 ?_
  refine v_ldc2 (n := 99999) ok mk_X10_basin_75 rfl dX10_basin_3 ?_
  refine v_callS (na := 3) ok (ct_X10_in z.2.1 g M v 1 99999 ⟨by omega, by omega⟩ (by decide) (by decide)) gX10_basin_X10_in rfl (by decide +kernel) rfl (by decide) [] rfl (Nat.le_of_ble_eq_true rfl) dX10_basin_6 (fun v2 M3 hp1 => ?_)
  rcases hp1 with ⟨rfl, eM3, h4⟩ | ⟨rfl, eM3, h5⟩
  · skip
    subst M3
    show V z g 5 M [(0, rf g 78), (1, iv v)] [iv 1] 9
    refine v_if_ne (tgt := 15) ok (by decide) dX10_basin_9 (by decide) (fun c6 => ?_) (fun c6 => absurd c6 (by decide))
    refine v_iconst (n := 0) ok dX10_basin_15 ?_
    refine v_istore_n ok [(2, iv 0), (0, rf g 78), (1, iv v)] dX10_basin_16 rfl (by decide) rfl ?_
    refine v_iload_n ok 2 dX10_basin_17 rfl rfl ?_
    refine v_istore_n ok [(3, iv v), (2, iv 0), (0, rf g 78), (1, iv v)] dX10_basin_18 rfl (by decide) rfl ?_
    refine v_iload_n ok 0 dX10_basin_19 rfl rfl ?_
    refine v_if_le (tgt := 34) ok ⟨by omega, by omega⟩ dX10_basin_20 (by decide) (fun c7 => absurd c7 (by omega)) (fun c7 => ?_)
    refine v_iinc ok 1 [(2, iv 1), (3, iv v), (0, rf g 78), (1, iv v)] dX10_basin_23 rfl (by decide) rfl ?_
    refine v_iload_n ok 1 dX10_basin_26 rfl rfl ?_
    refine v_bipush (n := 10) ok rfl dX10_basin_27 ?_
    refine v_idiv ok (by omega) (by omega) dX10_basin_29 ?_
    refine v_istore_n ok [(3, iv (v / 10)), (2, iv 1), (0, rf g 78), (1, iv v)] dX10_basin_30 rfl (by decide) rfl ?_
    refine v_goto (tgt := 19) ok dX10_basin_31 (by decide) ?_
    refine v_iload_n ok 0 dX10_basin_19 rfl rfl ?_
    refine v_if_le (tgt := 34) ok ⟨by omega, by omega⟩ dX10_basin_20 (by decide) (fun c8 => ?_) (fun c8 => ?_)
    · skip
      refine v_iload_n ok 3 dX10_basin_34 rfl rfl ?_
      refine v_istore_n ok [(3, iv v), (2, iv 1), (0, rf g 78), (1, iv v)] dX10_basin_35 rfl (by decide) rfl ?_
      refine v_iload_n ok 1 dX10_basin_36 rfl rfl ?_
      refine v_iconst (n := 1) ok dX10_basin_37 ?_
      refine v_isub ok dX10_basin_38 ?_
      show V z g 5 M [(3, iv v), (2, iv 1), (0, rf g 78), (1, iv v)] [iv 0] 39
      refine v_istore ok [(4, iv 0), (3, iv v), (2, iv 1), (0, rf g 78), (1, iv v)] dX10_basin_39 (by decide) rfl ?_
      refine v_iload ok 0 dX10_basin_41 rfl ?_
      refine v_if_lt (tgt := 68) ok (by decide) dX10_basin_43 (by decide) (fun c9 => absurd c9 (by decide)) (fun c9 => ?_)
      refine v_aload_n ok 3 dX10_basin_46 rfl rfl ?_
      refine v_get (T := TX10) (N := 22) (f0 := (M 78)) (v := rf g 81) ok mi_X10_basin_10 (kd_lt (show kd 78 = 10 from rfl) (by decide)) rfl rfl (cellF_10 _ (by decide)) 3 (by decide) mk_X10_basin_18 rfl rfl dX10_basin_47 ?_
      refine v_iload ok 0 dX10_basin_50 rfl ?_
      refine v_iload_n ok 1 dX10_basin_52 rfl rfl ?_
      refine v_bipush (n := 10) ok rfl dX10_basin_53 ?_
      refine v_irem ok (by omega) (by omega) dX10_basin_55 ?_
      refine v_iast (n := 5) (f0 := (M 81)) ok (by decide) rfl (by omega) rfl dX10_basin_56 ?_
      refine v_iload_n ok 1 dX10_basin_57 rfl rfl ?_
      refine v_bipush (n := 10) ok rfl dX10_basin_58 ?_
      refine v_idiv ok (by omega) (by omega) dX10_basin_60 ?_
      refine v_istore_n ok [(3, iv (v / 10)), (4, iv 0), (2, iv 1), (0, rf g 78), (1, iv v)] dX10_basin_61 rfl (by decide) rfl ?_
      refine v_iinc ok 1 [(4, iv (-1)), (3, iv (v / 10)), (2, iv 1), (0, rf g 78), (1, iv v)] dX10_basin_62 rfl (by decide) rfl ?_
      refine v_goto (tgt := 41) ok dX10_basin_65 (by decide) ?_
      refine v_iload ok 0 dX10_basin_41 rfl ?_
      refine v_if_lt (tgt := 68) ok (by decide) dX10_basin_43 (by decide) (fun c10 => ?_) (fun c10 => absurd c10 (by decide))
      have hd : dgn v = 1 := by unfold dgn; (repeat' split) <;> omega
      have hcm : ∀ k : Int, 0 ≤ k → k < 1 → (up (M 81) 0 (v % 10)) k = dgt v (dgn v) k := fun k k0 k1 => by
          rw [hd]
          have e : k = 0 := by omega
          rcases e with rfl <;> simp [up, dgt, p10] <;> omega
      have hdg : bdf (up (M 81) 0 (v % 10)) 1 0 9 := fun k k0 k1 => by rw [hcm k k0 k1]; unfold dgt; split <;> omega
      refine v_aload_n ok 3 dX10_basin_68 rfl rfl ?_
      refine v_iload_n ok 2 dX10_basin_69 rfl rfl ?_
      refine v_callV (na := 1) (i := 78) (C := RX10) (T := TX10) (N := 22) (f0 := (M 78)) ok (ct_X10_comes z.2.1 g (up1 M 81 (up (M 81) 0 (v % 10))) 1 (by show 0 ≤ (M 79) 20 ∧ (M 79) 20 ≤ 3; first | omega | assumption) (by first | omega | assumption) hdg) gX10_basin_X10_comes (kd_lt (show kd 78 = 10 from rfl) (by decide)) rfl rfl (cellF_10 _ (by decide)) rfl (by decide +kernel) rfl (by decide) [] rfl (Nat.le_of_ble_eq_true rfl) dX10_basin_70 (fun v12 M13 hp11 => ?_)
      rcases hp11 with ⟨rfl, rfl, h14⟩ | ⟨rfl, rfl, h15⟩
      · skip
        have h14 : (M 79) 20 = 3 := h14
        show V z g 5 (up1 M 81 (up (M 81) 0 (v % 10))) [(4, iv (-1)), (3, iv (v / 10)), (2, iv 1), (0, rf g 78), (1, iv v)] [iv (-4)] 73
        exact v_iret ok rt dX10_basin_73 (Or.inr (Or.inl (⟨(up (M 81) 0 (v % 10)), rfl, rfl, (by omega), (by omega)⟩)))
      · skip
        have h15 : (M 79) 20 < 3 := h15
        show V z g 5 (up1 (up1 M 81 (up (M 81) 0 (v % 10))) 79 (comW ((M 79)) 1 (up (M 81) 0 (v % 10)))) [(4, iv (-1)), (3, iv (v / 10)), (2, iv 1), (0, rf g 78), (1, iv v)] [iv ((M 79) 20)] 73
        exact v_iret ok rt dX10_basin_73 (Or.inr (Or.inr (⟨(up (M 81) 0 (v % 10)), (congrArg (fun q : Int => some (iv q)) (show ((M 79) 20) = (M 79 20) from by rfl)), (by first | rfl | rw [comW_cg hcm, hd]), (by omega), (by omega)⟩)))
    · skip
      refine v_iinc ok 1 [(2, iv 2), (3, iv (v / 10)), (0, rf g 78), (1, iv v)] dX10_basin_23 rfl (by decide) rfl ?_
      refine v_iload_n ok 1 dX10_basin_26 rfl rfl ?_
      refine v_bipush (n := 10) ok rfl dX10_basin_27 ?_
      refine v_idiv ok (by omega) (by omega) dX10_basin_29 ?_
      refine v_istore_n ok [(3, iv ((v / 10) / 10)), (2, iv 2), (0, rf g 78), (1, iv v)] dX10_basin_30 rfl (by decide) rfl ?_
      refine v_goto (tgt := 19) ok dX10_basin_31 (by decide) ?_
      refine v_iload_n ok 0 dX10_basin_19 rfl rfl ?_
      refine v_if_le (tgt := 34) ok ⟨by omega, by omega⟩ dX10_basin_20 (by decide) (fun c16 => ?_) (fun c16 => ?_)
      · skip
        refine v_iload_n ok 3 dX10_basin_34 rfl rfl ?_
        refine v_istore_n ok [(3, iv v), (2, iv 2), (0, rf g 78), (1, iv v)] dX10_basin_35 rfl (by decide) rfl ?_
        refine v_iload_n ok 1 dX10_basin_36 rfl rfl ?_
        refine v_iconst (n := 1) ok dX10_basin_37 ?_
        refine v_isub ok dX10_basin_38 ?_
        show V z g 5 M [(3, iv v), (2, iv 2), (0, rf g 78), (1, iv v)] [iv 1] 39
        refine v_istore ok [(4, iv 1), (3, iv v), (2, iv 2), (0, rf g 78), (1, iv v)] dX10_basin_39 (by decide) rfl ?_
        refine v_iload ok 0 dX10_basin_41 rfl ?_
        refine v_if_lt (tgt := 68) ok (by decide) dX10_basin_43 (by decide) (fun c17 => absurd c17 (by decide)) (fun c17 => ?_)
        refine v_aload_n ok 3 dX10_basin_46 rfl rfl ?_
        refine v_get (T := TX10) (N := 22) (f0 := (M 78)) (v := rf g 81) ok mi_X10_basin_10 (kd_lt (show kd 78 = 10 from rfl) (by decide)) rfl rfl (cellF_10 _ (by decide)) 3 (by decide) mk_X10_basin_18 rfl rfl dX10_basin_47 ?_
        refine v_iload ok 0 dX10_basin_50 rfl ?_
        refine v_iload_n ok 1 dX10_basin_52 rfl rfl ?_
        refine v_bipush (n := 10) ok rfl dX10_basin_53 ?_
        refine v_irem ok (by omega) (by omega) dX10_basin_55 ?_
        refine v_iast (n := 5) (f0 := (M 81)) ok (by decide) rfl (by omega) rfl dX10_basin_56 ?_
        refine v_iload_n ok 1 dX10_basin_57 rfl rfl ?_
        refine v_bipush (n := 10) ok rfl dX10_basin_58 ?_
        refine v_idiv ok (by omega) (by omega) dX10_basin_60 ?_
        refine v_istore_n ok [(3, iv (v / 10)), (4, iv 1), (2, iv 2), (0, rf g 78), (1, iv v)] dX10_basin_61 rfl (by decide) rfl ?_
        refine v_iinc ok 1 [(4, iv 0), (3, iv (v / 10)), (2, iv 2), (0, rf g 78), (1, iv v)] dX10_basin_62 rfl (by decide) rfl ?_
        refine v_goto (tgt := 41) ok dX10_basin_65 (by decide) ?_
        refine v_iload ok 0 dX10_basin_41 rfl ?_
        refine v_if_lt (tgt := 68) ok (by decide) dX10_basin_43 (by decide) (fun c18 => absurd c18 (by decide)) (fun c18 => ?_)
        refine v_aload_n ok 3 dX10_basin_46 rfl rfl ?_
        refine v_get (T := TX10) (N := 22) (f0 := (M 78)) (v := rf g 81) ok mi_X10_basin_10 (kd_lt (show kd 78 = 10 from rfl) (by decide)) rfl rfl (cellF_10 _ (by decide)) 3 (by decide) mk_X10_basin_18 rfl rfl dX10_basin_47 ?_
        refine v_iload ok 0 dX10_basin_50 rfl ?_
        refine v_iload_n ok 1 dX10_basin_52 rfl rfl ?_
        refine v_bipush (n := 10) ok rfl dX10_basin_53 ?_
        refine v_irem ok (by omega) (by omega) dX10_basin_55 ?_
        refine v_iast (n := 5) (f0 := up (M 81) 1 (v % 10)) ok (by decide) rfl (by omega) rfl dX10_basin_56 ?_
        rw [up1_up1]
        refine v_iload_n ok 1 dX10_basin_57 rfl rfl ?_
        refine v_bipush (n := 10) ok rfl dX10_basin_58 ?_
        refine v_idiv ok (by omega) (by omega) dX10_basin_60 ?_
        refine v_istore_n ok [(3, iv ((v / 10) / 10)), (4, iv 0), (2, iv 2), (0, rf g 78), (1, iv v)] dX10_basin_61 rfl (by decide) rfl ?_
        refine v_iinc ok 1 [(4, iv (-1)), (3, iv ((v / 10) / 10)), (2, iv 2), (0, rf g 78), (1, iv v)] dX10_basin_62 rfl (by decide) rfl ?_
        refine v_goto (tgt := 41) ok dX10_basin_65 (by decide) ?_
        refine v_iload ok 0 dX10_basin_41 rfl ?_
        refine v_if_lt (tgt := 68) ok (by decide) dX10_basin_43 (by decide) (fun c19 => ?_) (fun c19 => absurd c19 (by decide))
        have hd : dgn v = 2 := by unfold dgn; (repeat' split) <;> omega
        have hcm : ∀ k : Int, 0 ≤ k → k < 2 → (up (up (M 81) 1 (v % 10)) 0 ((v / 10) % 10)) k = dgt v (dgn v) k := fun k k0 k1 => by
            rw [hd]
            have e : k = 0 ∨ k = 1 := by omega
            rcases e with rfl | rfl <;> simp [up, dgt, p10] <;> omega
        have hdg : bdf (up (up (M 81) 1 (v % 10)) 0 ((v / 10) % 10)) 2 0 9 := fun k k0 k1 => by rw [hcm k k0 k1]; unfold dgt; split <;> omega
        refine v_aload_n ok 3 dX10_basin_68 rfl rfl ?_
        refine v_iload_n ok 2 dX10_basin_69 rfl rfl ?_
        refine v_callV (na := 1) (i := 78) (C := RX10) (T := TX10) (N := 22) (f0 := (M 78)) ok (ct_X10_comes z.2.1 g (up1 M 81 (up (up (M 81) 1 (v % 10)) 0 ((v / 10) % 10))) 2 (by show 0 ≤ (M 79) 20 ∧ (M 79) 20 ≤ 3; first | omega | assumption) (by first | omega | assumption) hdg) gX10_basin_X10_comes (kd_lt (show kd 78 = 10 from rfl) (by decide)) rfl rfl (cellF_10 _ (by decide)) rfl (by decide +kernel) rfl (by decide) [] rfl (Nat.le_of_ble_eq_true rfl) dX10_basin_70 (fun v21 M22 hp20 => ?_)
        rcases hp20 with ⟨rfl, rfl, h23⟩ | ⟨rfl, rfl, h24⟩
        · skip
          have h23 : (M 79) 20 = 3 := h23
          show V z g 5 (up1 M 81 (up (up (M 81) 1 (v % 10)) 0 ((v / 10) % 10))) [(4, iv (-1)), (3, iv ((v / 10) / 10)), (2, iv 2), (0, rf g 78), (1, iv v)] [iv (-4)] 73
          exact v_iret ok rt dX10_basin_73 (Or.inr (Or.inl (⟨(up (up (M 81) 1 (v % 10)) 0 ((v / 10) % 10)), rfl, rfl, (by omega), (by omega)⟩)))
        · skip
          have h24 : (M 79) 20 < 3 := h24
          show V z g 5 (up1 (up1 M 81 (up (up (M 81) 1 (v % 10)) 0 ((v / 10) % 10))) 79 (comW ((M 79)) 2 (up (up (M 81) 1 (v % 10)) 0 ((v / 10) % 10)))) [(4, iv (-1)), (3, iv ((v / 10) / 10)), (2, iv 2), (0, rf g 78), (1, iv v)] [iv ((M 79) 20)] 73
          exact v_iret ok rt dX10_basin_73 (Or.inr (Or.inr (⟨(up (up (M 81) 1 (v % 10)) 0 ((v / 10) % 10)), (congrArg (fun q : Int => some (iv q)) (show ((M 79) 20) = (M 79 20) from by rfl)), (by first | rfl | rw [comW_cg hcm, hd]), (by omega), (by omega)⟩)))
      · skip
        refine v_iinc ok 1 [(2, iv 3), (3, iv ((v / 10) / 10)), (0, rf g 78), (1, iv v)] dX10_basin_23 rfl (by decide) rfl ?_
        refine v_iload_n ok 1 dX10_basin_26 rfl rfl ?_
        refine v_bipush (n := 10) ok rfl dX10_basin_27 ?_
        refine v_idiv ok (by omega) (by omega) dX10_basin_29 ?_
        refine v_istore_n ok [(3, iv (((v / 10) / 10) / 10)), (2, iv 3), (0, rf g 78), (1, iv v)] dX10_basin_30 rfl (by decide) rfl ?_
        refine v_goto (tgt := 19) ok dX10_basin_31 (by decide) ?_
        refine v_iload_n ok 0 dX10_basin_19 rfl rfl ?_
        refine v_if_le (tgt := 34) ok ⟨by omega, by omega⟩ dX10_basin_20 (by decide) (fun c25 => ?_) (fun c25 => ?_)
        · skip
          refine v_iload_n ok 3 dX10_basin_34 rfl rfl ?_
          refine v_istore_n ok [(3, iv v), (2, iv 3), (0, rf g 78), (1, iv v)] dX10_basin_35 rfl (by decide) rfl ?_
          refine v_iload_n ok 1 dX10_basin_36 rfl rfl ?_
          refine v_iconst (n := 1) ok dX10_basin_37 ?_
          refine v_isub ok dX10_basin_38 ?_
          show V z g 5 M [(3, iv v), (2, iv 3), (0, rf g 78), (1, iv v)] [iv 2] 39
          refine v_istore ok [(4, iv 2), (3, iv v), (2, iv 3), (0, rf g 78), (1, iv v)] dX10_basin_39 (by decide) rfl ?_
          refine v_iload ok 0 dX10_basin_41 rfl ?_
          refine v_if_lt (tgt := 68) ok (by decide) dX10_basin_43 (by decide) (fun c26 => absurd c26 (by decide)) (fun c26 => ?_)
          refine v_aload_n ok 3 dX10_basin_46 rfl rfl ?_
          refine v_get (T := TX10) (N := 22) (f0 := (M 78)) (v := rf g 81) ok mi_X10_basin_10 (kd_lt (show kd 78 = 10 from rfl) (by decide)) rfl rfl (cellF_10 _ (by decide)) 3 (by decide) mk_X10_basin_18 rfl rfl dX10_basin_47 ?_
          refine v_iload ok 0 dX10_basin_50 rfl ?_
          refine v_iload_n ok 1 dX10_basin_52 rfl rfl ?_
          refine v_bipush (n := 10) ok rfl dX10_basin_53 ?_
          refine v_irem ok (by omega) (by omega) dX10_basin_55 ?_
          refine v_iast (n := 5) (f0 := (M 81)) ok (by decide) rfl (by omega) rfl dX10_basin_56 ?_
          refine v_iload_n ok 1 dX10_basin_57 rfl rfl ?_
          refine v_bipush (n := 10) ok rfl dX10_basin_58 ?_
          refine v_idiv ok (by omega) (by omega) dX10_basin_60 ?_
          refine v_istore_n ok [(3, iv (v / 10)), (4, iv 2), (2, iv 3), (0, rf g 78), (1, iv v)] dX10_basin_61 rfl (by decide) rfl ?_
          refine v_iinc ok 1 [(4, iv 1), (3, iv (v / 10)), (2, iv 3), (0, rf g 78), (1, iv v)] dX10_basin_62 rfl (by decide) rfl ?_
          refine v_goto (tgt := 41) ok dX10_basin_65 (by decide) ?_
          refine v_iload ok 0 dX10_basin_41 rfl ?_
          refine v_if_lt (tgt := 68) ok (by decide) dX10_basin_43 (by decide) (fun c27 => absurd c27 (by decide)) (fun c27 => ?_)
          refine v_aload_n ok 3 dX10_basin_46 rfl rfl ?_
          refine v_get (T := TX10) (N := 22) (f0 := (M 78)) (v := rf g 81) ok mi_X10_basin_10 (kd_lt (show kd 78 = 10 from rfl) (by decide)) rfl rfl (cellF_10 _ (by decide)) 3 (by decide) mk_X10_basin_18 rfl rfl dX10_basin_47 ?_
          refine v_iload ok 0 dX10_basin_50 rfl ?_
          refine v_iload_n ok 1 dX10_basin_52 rfl rfl ?_
          refine v_bipush (n := 10) ok rfl dX10_basin_53 ?_
          refine v_irem ok (by omega) (by omega) dX10_basin_55 ?_
          refine v_iast (n := 5) (f0 := up (M 81) 2 (v % 10)) ok (by decide) rfl (by omega) rfl dX10_basin_56 ?_
          rw [up1_up1]
          refine v_iload_n ok 1 dX10_basin_57 rfl rfl ?_
          refine v_bipush (n := 10) ok rfl dX10_basin_58 ?_
          refine v_idiv ok (by omega) (by omega) dX10_basin_60 ?_
          refine v_istore_n ok [(3, iv ((v / 10) / 10)), (4, iv 1), (2, iv 3), (0, rf g 78), (1, iv v)] dX10_basin_61 rfl (by decide) rfl ?_
          refine v_iinc ok 1 [(4, iv 0), (3, iv ((v / 10) / 10)), (2, iv 3), (0, rf g 78), (1, iv v)] dX10_basin_62 rfl (by decide) rfl ?_
          refine v_goto (tgt := 41) ok dX10_basin_65 (by decide) ?_
          refine v_iload ok 0 dX10_basin_41 rfl ?_
          refine v_if_lt (tgt := 68) ok (by decide) dX10_basin_43 (by decide) (fun c28 => absurd c28 (by decide)) (fun c28 => ?_)
          refine v_aload_n ok 3 dX10_basin_46 rfl rfl ?_
          refine v_get (T := TX10) (N := 22) (f0 := (M 78)) (v := rf g 81) ok mi_X10_basin_10 (kd_lt (show kd 78 = 10 from rfl) (by decide)) rfl rfl (cellF_10 _ (by decide)) 3 (by decide) mk_X10_basin_18 rfl rfl dX10_basin_47 ?_
          refine v_iload ok 0 dX10_basin_50 rfl ?_
          refine v_iload_n ok 1 dX10_basin_52 rfl rfl ?_
          refine v_bipush (n := 10) ok rfl dX10_basin_53 ?_
          refine v_irem ok (by omega) (by omega) dX10_basin_55 ?_
          refine v_iast (n := 5) (f0 := up (up (M 81) 2 (v % 10)) 1 ((v / 10) % 10)) ok (by decide) rfl (by omega) rfl dX10_basin_56 ?_
          rw [up1_up1]
          refine v_iload_n ok 1 dX10_basin_57 rfl rfl ?_
          refine v_bipush (n := 10) ok rfl dX10_basin_58 ?_
          refine v_idiv ok (by omega) (by omega) dX10_basin_60 ?_
          refine v_istore_n ok [(3, iv (((v / 10) / 10) / 10)), (4, iv 0), (2, iv 3), (0, rf g 78), (1, iv v)] dX10_basin_61 rfl (by decide) rfl ?_
          refine v_iinc ok 1 [(4, iv (-1)), (3, iv (((v / 10) / 10) / 10)), (2, iv 3), (0, rf g 78), (1, iv v)] dX10_basin_62 rfl (by decide) rfl ?_
          refine v_goto (tgt := 41) ok dX10_basin_65 (by decide) ?_
          refine v_iload ok 0 dX10_basin_41 rfl ?_
          refine v_if_lt (tgt := 68) ok (by decide) dX10_basin_43 (by decide) (fun c29 => ?_) (fun c29 => absurd c29 (by decide))
          have hd : dgn v = 3 := by unfold dgn; (repeat' split) <;> omega
          have hcm : ∀ k : Int, 0 ≤ k → k < 3 → (up (up (up (M 81) 2 (v % 10)) 1 ((v / 10) % 10)) 0 (((v / 10) / 10) % 10)) k = dgt v (dgn v) k := fun k k0 k1 => by
              rw [hd]
              have e : k = 0 ∨ k = 1 ∨ k = 2 := by omega
              rcases e with rfl | rfl | rfl <;> simp [up, dgt, p10] <;> omega
          have hdg : bdf (up (up (up (M 81) 2 (v % 10)) 1 ((v / 10) % 10)) 0 (((v / 10) / 10) % 10)) 3 0 9 := fun k k0 k1 => by rw [hcm k k0 k1]; unfold dgt; split <;> omega
          refine v_aload_n ok 3 dX10_basin_68 rfl rfl ?_
          refine v_iload_n ok 2 dX10_basin_69 rfl rfl ?_
          refine v_callV (na := 1) (i := 78) (C := RX10) (T := TX10) (N := 22) (f0 := (M 78)) ok (ct_X10_comes z.2.1 g (up1 M 81 (up (up (up (M 81) 2 (v % 10)) 1 ((v / 10) % 10)) 0 (((v / 10) / 10) % 10))) 3 (by show 0 ≤ (M 79) 20 ∧ (M 79) 20 ≤ 3; first | omega | assumption) (by first | omega | assumption) hdg) gX10_basin_X10_comes (kd_lt (show kd 78 = 10 from rfl) (by decide)) rfl rfl (cellF_10 _ (by decide)) rfl (by decide +kernel) rfl (by decide) [] rfl (Nat.le_of_ble_eq_true rfl) dX10_basin_70 (fun v31 M32 hp30 => ?_)
          rcases hp30 with ⟨rfl, rfl, h33⟩ | ⟨rfl, rfl, h34⟩
          · skip
            have h33 : (M 79) 20 = 3 := h33
            show V z g 5 (up1 M 81 (up (up (up (M 81) 2 (v % 10)) 1 ((v / 10) % 10)) 0 (((v / 10) / 10) % 10))) [(4, iv (-1)), (3, iv (((v / 10) / 10) / 10)), (2, iv 3), (0, rf g 78), (1, iv v)] [iv (-4)] 73
            exact v_iret ok rt dX10_basin_73 (Or.inr (Or.inl (⟨(up (up (up (M 81) 2 (v % 10)) 1 ((v / 10) % 10)) 0 (((v / 10) / 10) % 10)), rfl, rfl, (by omega), (by omega)⟩)))
          · skip
            have h34 : (M 79) 20 < 3 := h34
            show V z g 5 (up1 (up1 M 81 (up (up (up (M 81) 2 (v % 10)) 1 ((v / 10) % 10)) 0 (((v / 10) / 10) % 10))) 79 (comW ((M 79)) 3 (up (up (up (M 81) 2 (v % 10)) 1 ((v / 10) % 10)) 0 (((v / 10) / 10) % 10)))) [(4, iv (-1)), (3, iv (((v / 10) / 10) / 10)), (2, iv 3), (0, rf g 78), (1, iv v)] [iv ((M 79) 20)] 73
            exact v_iret ok rt dX10_basin_73 (Or.inr (Or.inr (⟨(up (up (up (M 81) 2 (v % 10)) 1 ((v / 10) % 10)) 0 (((v / 10) / 10) % 10)), (congrArg (fun q : Int => some (iv q)) (show ((M 79) 20) = (M 79 20) from by rfl)), (by first | rfl | rw [comW_cg hcm, hd]), (by omega), (by omega)⟩)))
        · skip
          refine v_iinc ok 1 [(2, iv 4), (3, iv (((v / 10) / 10) / 10)), (0, rf g 78), (1, iv v)] dX10_basin_23 rfl (by decide) rfl ?_
          refine v_iload_n ok 1 dX10_basin_26 rfl rfl ?_
          refine v_bipush (n := 10) ok rfl dX10_basin_27 ?_
          refine v_idiv ok (by omega) (by omega) dX10_basin_29 ?_
          refine v_istore_n ok [(3, iv ((((v / 10) / 10) / 10) / 10)), (2, iv 4), (0, rf g 78), (1, iv v)] dX10_basin_30 rfl (by decide) rfl ?_
          refine v_goto (tgt := 19) ok dX10_basin_31 (by decide) ?_
          refine v_iload_n ok 0 dX10_basin_19 rfl rfl ?_
          refine v_if_le (tgt := 34) ok ⟨by omega, by omega⟩ dX10_basin_20 (by decide) (fun c35 => ?_) (fun c35 => ?_)
          · skip
            refine v_iload_n ok 3 dX10_basin_34 rfl rfl ?_
            refine v_istore_n ok [(3, iv v), (2, iv 4), (0, rf g 78), (1, iv v)] dX10_basin_35 rfl (by decide) rfl ?_
            refine v_iload_n ok 1 dX10_basin_36 rfl rfl ?_
            refine v_iconst (n := 1) ok dX10_basin_37 ?_
            refine v_isub ok dX10_basin_38 ?_
            show V z g 5 M [(3, iv v), (2, iv 4), (0, rf g 78), (1, iv v)] [iv 3] 39
            refine v_istore ok [(4, iv 3), (3, iv v), (2, iv 4), (0, rf g 78), (1, iv v)] dX10_basin_39 (by decide) rfl ?_
            refine v_iload ok 0 dX10_basin_41 rfl ?_
            refine v_if_lt (tgt := 68) ok (by decide) dX10_basin_43 (by decide) (fun c36 => absurd c36 (by decide)) (fun c36 => ?_)
            refine v_aload_n ok 3 dX10_basin_46 rfl rfl ?_
            refine v_get (T := TX10) (N := 22) (f0 := (M 78)) (v := rf g 81) ok mi_X10_basin_10 (kd_lt (show kd 78 = 10 from rfl) (by decide)) rfl rfl (cellF_10 _ (by decide)) 3 (by decide) mk_X10_basin_18 rfl rfl dX10_basin_47 ?_
            refine v_iload ok 0 dX10_basin_50 rfl ?_
            refine v_iload_n ok 1 dX10_basin_52 rfl rfl ?_
            refine v_bipush (n := 10) ok rfl dX10_basin_53 ?_
            refine v_irem ok (by omega) (by omega) dX10_basin_55 ?_
            refine v_iast (n := 5) (f0 := (M 81)) ok (by decide) rfl (by omega) rfl dX10_basin_56 ?_
            refine v_iload_n ok 1 dX10_basin_57 rfl rfl ?_
            refine v_bipush (n := 10) ok rfl dX10_basin_58 ?_
            refine v_idiv ok (by omega) (by omega) dX10_basin_60 ?_
            refine v_istore_n ok [(3, iv (v / 10)), (4, iv 3), (2, iv 4), (0, rf g 78), (1, iv v)] dX10_basin_61 rfl (by decide) rfl ?_
            refine v_iinc ok 1 [(4, iv 2), (3, iv (v / 10)), (2, iv 4), (0, rf g 78), (1, iv v)] dX10_basin_62 rfl (by decide) rfl ?_
            refine v_goto (tgt := 41) ok dX10_basin_65 (by decide) ?_
            refine v_iload ok 0 dX10_basin_41 rfl ?_
            refine v_if_lt (tgt := 68) ok (by decide) dX10_basin_43 (by decide) (fun c37 => absurd c37 (by decide)) (fun c37 => ?_)
            refine v_aload_n ok 3 dX10_basin_46 rfl rfl ?_
            refine v_get (T := TX10) (N := 22) (f0 := (M 78)) (v := rf g 81) ok mi_X10_basin_10 (kd_lt (show kd 78 = 10 from rfl) (by decide)) rfl rfl (cellF_10 _ (by decide)) 3 (by decide) mk_X10_basin_18 rfl rfl dX10_basin_47 ?_
            refine v_iload ok 0 dX10_basin_50 rfl ?_
            refine v_iload_n ok 1 dX10_basin_52 rfl rfl ?_
            refine v_bipush (n := 10) ok rfl dX10_basin_53 ?_
            refine v_irem ok (by omega) (by omega) dX10_basin_55 ?_
            refine v_iast (n := 5) (f0 := up (M 81) 3 (v % 10)) ok (by decide) rfl (by omega) rfl dX10_basin_56 ?_
            rw [up1_up1]
            refine v_iload_n ok 1 dX10_basin_57 rfl rfl ?_
            refine v_bipush (n := 10) ok rfl dX10_basin_58 ?_
            refine v_idiv ok (by omega) (by omega) dX10_basin_60 ?_
            refine v_istore_n ok [(3, iv ((v / 10) / 10)), (4, iv 2), (2, iv 4), (0, rf g 78), (1, iv v)] dX10_basin_61 rfl (by decide) rfl ?_
            refine v_iinc ok 1 [(4, iv 1), (3, iv ((v / 10) / 10)), (2, iv 4), (0, rf g 78), (1, iv v)] dX10_basin_62 rfl (by decide) rfl ?_
            refine v_goto (tgt := 41) ok dX10_basin_65 (by decide) ?_
            refine v_iload ok 0 dX10_basin_41 rfl ?_
            refine v_if_lt (tgt := 68) ok (by decide) dX10_basin_43 (by decide) (fun c38 => absurd c38 (by decide)) (fun c38 => ?_)
            refine v_aload_n ok 3 dX10_basin_46 rfl rfl ?_
            refine v_get (T := TX10) (N := 22) (f0 := (M 78)) (v := rf g 81) ok mi_X10_basin_10 (kd_lt (show kd 78 = 10 from rfl) (by decide)) rfl rfl (cellF_10 _ (by decide)) 3 (by decide) mk_X10_basin_18 rfl rfl dX10_basin_47 ?_
            refine v_iload ok 0 dX10_basin_50 rfl ?_
            refine v_iload_n ok 1 dX10_basin_52 rfl rfl ?_
            refine v_bipush (n := 10) ok rfl dX10_basin_53 ?_
            refine v_irem ok (by omega) (by omega) dX10_basin_55 ?_
            refine v_iast (n := 5) (f0 := up (up (M 81) 3 (v % 10)) 2 ((v / 10) % 10)) ok (by decide) rfl (by omega) rfl dX10_basin_56 ?_
            rw [up1_up1]
            refine v_iload_n ok 1 dX10_basin_57 rfl rfl ?_
            refine v_bipush (n := 10) ok rfl dX10_basin_58 ?_
            refine v_idiv ok (by omega) (by omega) dX10_basin_60 ?_
            refine v_istore_n ok [(3, iv (((v / 10) / 10) / 10)), (4, iv 1), (2, iv 4), (0, rf g 78), (1, iv v)] dX10_basin_61 rfl (by decide) rfl ?_
            refine v_iinc ok 1 [(4, iv 0), (3, iv (((v / 10) / 10) / 10)), (2, iv 4), (0, rf g 78), (1, iv v)] dX10_basin_62 rfl (by decide) rfl ?_
            refine v_goto (tgt := 41) ok dX10_basin_65 (by decide) ?_
            refine v_iload ok 0 dX10_basin_41 rfl ?_
            refine v_if_lt (tgt := 68) ok (by decide) dX10_basin_43 (by decide) (fun c39 => absurd c39 (by decide)) (fun c39 => ?_)
            refine v_aload_n ok 3 dX10_basin_46 rfl rfl ?_
            refine v_get (T := TX10) (N := 22) (f0 := (M 78)) (v := rf g 81) ok mi_X10_basin_10 (kd_lt (show kd 78 = 10 from rfl) (by decide)) rfl rfl (cellF_10 _ (by decide)) 3 (by decide) mk_X10_basin_18 rfl rfl dX10_basin_47 ?_
            refine v_iload ok 0 dX10_basin_50 rfl ?_
            refine v_iload_n ok 1 dX10_basin_52 rfl rfl ?_
            refine v_bipush (n := 10) ok rfl dX10_basin_53 ?_
            refine v_irem ok (by omega) (by omega) dX10_basin_55 ?_
            refine v_iast (n := 5) (f0 := up (up (up (M 81) 3 (v % 10)) 2 ((v / 10) % 10)) 1 (((v / 10) / 10) % 10)) ok (by decide) rfl (by omega) rfl dX10_basin_56 ?_
            rw [up1_up1]
            refine v_iload_n ok 1 dX10_basin_57 rfl rfl ?_
            refine v_bipush (n := 10) ok rfl dX10_basin_58 ?_
            refine v_idiv ok (by omega) (by omega) dX10_basin_60 ?_
            refine v_istore_n ok [(3, iv ((((v / 10) / 10) / 10) / 10)), (4, iv 0), (2, iv 4), (0, rf g 78), (1, iv v)] dX10_basin_61 rfl (by decide) rfl ?_
            refine v_iinc ok 1 [(4, iv (-1)), (3, iv ((((v / 10) / 10) / 10) / 10)), (2, iv 4), (0, rf g 78), (1, iv v)] dX10_basin_62 rfl (by decide) rfl ?_
            refine v_goto (tgt := 41) ok dX10_basin_65 (by decide) ?_
            refine v_iload ok 0 dX10_basin_41 rfl ?_
            refine v_if_lt (tgt := 68) ok (by decide) dX10_basin_43 (by decide) (fun c40 => ?_) (fun c40 => absurd c40 (by decide))
            have hd : dgn v = 4 := by unfold dgn; (repeat' split) <;> omega
            have hcm : ∀ k : Int, 0 ≤ k → k < 4 → (up (up (up (up (M 81) 3 (v % 10)) 2 ((v / 10) % 10)) 1 (((v / 10) / 10) % 10)) 0 ((((v / 10) / 10) / 10) % 10)) k = dgt v (dgn v) k := fun k k0 k1 => by
                rw [hd]
                have e : k = 0 ∨ k = 1 ∨ k = 2 ∨ k = 3 := by omega
                rcases e with rfl | rfl | rfl | rfl <;> simp [up, dgt, p10] <;> omega
            have hdg : bdf (up (up (up (up (M 81) 3 (v % 10)) 2 ((v / 10) % 10)) 1 (((v / 10) / 10) % 10)) 0 ((((v / 10) / 10) / 10) % 10)) 4 0 9 := fun k k0 k1 => by rw [hcm k k0 k1]; unfold dgt; split <;> omega
            refine v_aload_n ok 3 dX10_basin_68 rfl rfl ?_
            refine v_iload_n ok 2 dX10_basin_69 rfl rfl ?_
            refine v_callV (na := 1) (i := 78) (C := RX10) (T := TX10) (N := 22) (f0 := (M 78)) ok (ct_X10_comes z.2.1 g (up1 M 81 (up (up (up (up (M 81) 3 (v % 10)) 2 ((v / 10) % 10)) 1 (((v / 10) / 10) % 10)) 0 ((((v / 10) / 10) / 10) % 10))) 4 (by show 0 ≤ (M 79) 20 ∧ (M 79) 20 ≤ 3; first | omega | assumption) (by first | omega | assumption) hdg) gX10_basin_X10_comes (kd_lt (show kd 78 = 10 from rfl) (by decide)) rfl rfl (cellF_10 _ (by decide)) rfl (by decide +kernel) rfl (by decide) [] rfl (Nat.le_of_ble_eq_true rfl) dX10_basin_70 (fun v42 M43 hp41 => ?_)
            rcases hp41 with ⟨rfl, rfl, h44⟩ | ⟨rfl, rfl, h45⟩
            · skip
              have h44 : (M 79) 20 = 3 := h44
              show V z g 5 (up1 M 81 (up (up (up (up (M 81) 3 (v % 10)) 2 ((v / 10) % 10)) 1 (((v / 10) / 10) % 10)) 0 ((((v / 10) / 10) / 10) % 10))) [(4, iv (-1)), (3, iv ((((v / 10) / 10) / 10) / 10)), (2, iv 4), (0, rf g 78), (1, iv v)] [iv (-4)] 73
              exact v_iret ok rt dX10_basin_73 (Or.inr (Or.inl (⟨(up (up (up (up (M 81) 3 (v % 10)) 2 ((v / 10) % 10)) 1 (((v / 10) / 10) % 10)) 0 ((((v / 10) / 10) / 10) % 10)), rfl, rfl, (by omega), (by omega)⟩)))
            · skip
              have h45 : (M 79) 20 < 3 := h45
              show V z g 5 (up1 (up1 M 81 (up (up (up (up (M 81) 3 (v % 10)) 2 ((v / 10) % 10)) 1 (((v / 10) / 10) % 10)) 0 ((((v / 10) / 10) / 10) % 10))) 79 (comW ((M 79)) 4 (up (up (up (up (M 81) 3 (v % 10)) 2 ((v / 10) % 10)) 1 (((v / 10) / 10) % 10)) 0 ((((v / 10) / 10) / 10) % 10)))) [(4, iv (-1)), (3, iv ((((v / 10) / 10) / 10) / 10)), (2, iv 4), (0, rf g 78), (1, iv v)] [iv ((M 79) 20)] 73
              exact v_iret ok rt dX10_basin_73 (Or.inr (Or.inr (⟨(up (up (up (up (M 81) 3 (v % 10)) 2 ((v / 10) % 10)) 1 (((v / 10) / 10) % 10)) 0 ((((v / 10) / 10) / 10) % 10)), (congrArg (fun q : Int => some (iv q)) (show ((M 79) 20) = (M 79 20) from by rfl)), (by first | rfl | rw [comW_cg hcm, hd]), (by omega), (by omega)⟩)))
          · skip
            refine v_iinc ok 1 [(2, iv 5), (3, iv ((((v / 10) / 10) / 10) / 10)), (0, rf g 78), (1, iv v)] dX10_basin_23 rfl (by decide) rfl ?_
            refine v_iload_n ok 1 dX10_basin_26 rfl rfl ?_
            refine v_bipush (n := 10) ok rfl dX10_basin_27 ?_
            refine v_idiv ok (by omega) (by omega) dX10_basin_29 ?_
            refine v_istore_n ok [(3, iv (((((v / 10) / 10) / 10) / 10) / 10)), (2, iv 5), (0, rf g 78), (1, iv v)] dX10_basin_30 rfl (by decide) rfl ?_
            refine v_goto (tgt := 19) ok dX10_basin_31 (by decide) ?_
            refine v_iload_n ok 0 dX10_basin_19 rfl rfl ?_
            refine v_if_le (tgt := 34) ok ⟨by omega, by omega⟩ dX10_basin_20 (by decide) (fun c46 => ?_) (fun c46 => absurd c46 (by omega))
            refine v_iload_n ok 3 dX10_basin_34 rfl rfl ?_
            refine v_istore_n ok [(3, iv v), (2, iv 5), (0, rf g 78), (1, iv v)] dX10_basin_35 rfl (by decide) rfl ?_
            refine v_iload_n ok 1 dX10_basin_36 rfl rfl ?_
            refine v_iconst (n := 1) ok dX10_basin_37 ?_
            refine v_isub ok dX10_basin_38 ?_
            show V z g 5 M [(3, iv v), (2, iv 5), (0, rf g 78), (1, iv v)] [iv 4] 39
            refine v_istore ok [(4, iv 4), (3, iv v), (2, iv 5), (0, rf g 78), (1, iv v)] dX10_basin_39 (by decide) rfl ?_
            refine v_iload ok 0 dX10_basin_41 rfl ?_
            refine v_if_lt (tgt := 68) ok (by decide) dX10_basin_43 (by decide) (fun c47 => absurd c47 (by decide)) (fun c47 => ?_)
            refine v_aload_n ok 3 dX10_basin_46 rfl rfl ?_
            refine v_get (T := TX10) (N := 22) (f0 := (M 78)) (v := rf g 81) ok mi_X10_basin_10 (kd_lt (show kd 78 = 10 from rfl) (by decide)) rfl rfl (cellF_10 _ (by decide)) 3 (by decide) mk_X10_basin_18 rfl rfl dX10_basin_47 ?_
            refine v_iload ok 0 dX10_basin_50 rfl ?_
            refine v_iload_n ok 1 dX10_basin_52 rfl rfl ?_
            refine v_bipush (n := 10) ok rfl dX10_basin_53 ?_
            refine v_irem ok (by omega) (by omega) dX10_basin_55 ?_
            refine v_iast (n := 5) (f0 := (M 81)) ok (by decide) rfl (by omega) rfl dX10_basin_56 ?_
            refine v_iload_n ok 1 dX10_basin_57 rfl rfl ?_
            refine v_bipush (n := 10) ok rfl dX10_basin_58 ?_
            refine v_idiv ok (by omega) (by omega) dX10_basin_60 ?_
            refine v_istore_n ok [(3, iv (v / 10)), (4, iv 4), (2, iv 5), (0, rf g 78), (1, iv v)] dX10_basin_61 rfl (by decide) rfl ?_
            refine v_iinc ok 1 [(4, iv 3), (3, iv (v / 10)), (2, iv 5), (0, rf g 78), (1, iv v)] dX10_basin_62 rfl (by decide) rfl ?_
            refine v_goto (tgt := 41) ok dX10_basin_65 (by decide) ?_
            refine v_iload ok 0 dX10_basin_41 rfl ?_
            refine v_if_lt (tgt := 68) ok (by decide) dX10_basin_43 (by decide) (fun c48 => absurd c48 (by decide)) (fun c48 => ?_)
            refine v_aload_n ok 3 dX10_basin_46 rfl rfl ?_
            refine v_get (T := TX10) (N := 22) (f0 := (M 78)) (v := rf g 81) ok mi_X10_basin_10 (kd_lt (show kd 78 = 10 from rfl) (by decide)) rfl rfl (cellF_10 _ (by decide)) 3 (by decide) mk_X10_basin_18 rfl rfl dX10_basin_47 ?_
            refine v_iload ok 0 dX10_basin_50 rfl ?_
            refine v_iload_n ok 1 dX10_basin_52 rfl rfl ?_
            refine v_bipush (n := 10) ok rfl dX10_basin_53 ?_
            refine v_irem ok (by omega) (by omega) dX10_basin_55 ?_
            refine v_iast (n := 5) (f0 := up (M 81) 4 (v % 10)) ok (by decide) rfl (by omega) rfl dX10_basin_56 ?_
            rw [up1_up1]
            refine v_iload_n ok 1 dX10_basin_57 rfl rfl ?_
            refine v_bipush (n := 10) ok rfl dX10_basin_58 ?_
            refine v_idiv ok (by omega) (by omega) dX10_basin_60 ?_
            refine v_istore_n ok [(3, iv ((v / 10) / 10)), (4, iv 3), (2, iv 5), (0, rf g 78), (1, iv v)] dX10_basin_61 rfl (by decide) rfl ?_
            refine v_iinc ok 1 [(4, iv 2), (3, iv ((v / 10) / 10)), (2, iv 5), (0, rf g 78), (1, iv v)] dX10_basin_62 rfl (by decide) rfl ?_
            refine v_goto (tgt := 41) ok dX10_basin_65 (by decide) ?_
            refine v_iload ok 0 dX10_basin_41 rfl ?_
            refine v_if_lt (tgt := 68) ok (by decide) dX10_basin_43 (by decide) (fun c49 => absurd c49 (by decide)) (fun c49 => ?_)
            refine v_aload_n ok 3 dX10_basin_46 rfl rfl ?_
            refine v_get (T := TX10) (N := 22) (f0 := (M 78)) (v := rf g 81) ok mi_X10_basin_10 (kd_lt (show kd 78 = 10 from rfl) (by decide)) rfl rfl (cellF_10 _ (by decide)) 3 (by decide) mk_X10_basin_18 rfl rfl dX10_basin_47 ?_
            refine v_iload ok 0 dX10_basin_50 rfl ?_
            refine v_iload_n ok 1 dX10_basin_52 rfl rfl ?_
            refine v_bipush (n := 10) ok rfl dX10_basin_53 ?_
            refine v_irem ok (by omega) (by omega) dX10_basin_55 ?_
            refine v_iast (n := 5) (f0 := up (up (M 81) 4 (v % 10)) 3 ((v / 10) % 10)) ok (by decide) rfl (by omega) rfl dX10_basin_56 ?_
            rw [up1_up1]
            refine v_iload_n ok 1 dX10_basin_57 rfl rfl ?_
            refine v_bipush (n := 10) ok rfl dX10_basin_58 ?_
            refine v_idiv ok (by omega) (by omega) dX10_basin_60 ?_
            refine v_istore_n ok [(3, iv (((v / 10) / 10) / 10)), (4, iv 2), (2, iv 5), (0, rf g 78), (1, iv v)] dX10_basin_61 rfl (by decide) rfl ?_
            refine v_iinc ok 1 [(4, iv 1), (3, iv (((v / 10) / 10) / 10)), (2, iv 5), (0, rf g 78), (1, iv v)] dX10_basin_62 rfl (by decide) rfl ?_
            refine v_goto (tgt := 41) ok dX10_basin_65 (by decide) ?_
            refine v_iload ok 0 dX10_basin_41 rfl ?_
            refine v_if_lt (tgt := 68) ok (by decide) dX10_basin_43 (by decide) (fun c50 => absurd c50 (by decide)) (fun c50 => ?_)
            refine v_aload_n ok 3 dX10_basin_46 rfl rfl ?_
            refine v_get (T := TX10) (N := 22) (f0 := (M 78)) (v := rf g 81) ok mi_X10_basin_10 (kd_lt (show kd 78 = 10 from rfl) (by decide)) rfl rfl (cellF_10 _ (by decide)) 3 (by decide) mk_X10_basin_18 rfl rfl dX10_basin_47 ?_
            refine v_iload ok 0 dX10_basin_50 rfl ?_
            refine v_iload_n ok 1 dX10_basin_52 rfl rfl ?_
            refine v_bipush (n := 10) ok rfl dX10_basin_53 ?_
            refine v_irem ok (by omega) (by omega) dX10_basin_55 ?_
            refine v_iast (n := 5) (f0 := up (up (up (M 81) 4 (v % 10)) 3 ((v / 10) % 10)) 2 (((v / 10) / 10) % 10)) ok (by decide) rfl (by omega) rfl dX10_basin_56 ?_
            rw [up1_up1]
            refine v_iload_n ok 1 dX10_basin_57 rfl rfl ?_
            refine v_bipush (n := 10) ok rfl dX10_basin_58 ?_
            refine v_idiv ok (by omega) (by omega) dX10_basin_60 ?_
            refine v_istore_n ok [(3, iv ((((v / 10) / 10) / 10) / 10)), (4, iv 1), (2, iv 5), (0, rf g 78), (1, iv v)] dX10_basin_61 rfl (by decide) rfl ?_
            refine v_iinc ok 1 [(4, iv 0), (3, iv ((((v / 10) / 10) / 10) / 10)), (2, iv 5), (0, rf g 78), (1, iv v)] dX10_basin_62 rfl (by decide) rfl ?_
            refine v_goto (tgt := 41) ok dX10_basin_65 (by decide) ?_
            refine v_iload ok 0 dX10_basin_41 rfl ?_
            refine v_if_lt (tgt := 68) ok (by decide) dX10_basin_43 (by decide) (fun c51 => absurd c51 (by decide)) (fun c51 => ?_)
            refine v_aload_n ok 3 dX10_basin_46 rfl rfl ?_
            refine v_get (T := TX10) (N := 22) (f0 := (M 78)) (v := rf g 81) ok mi_X10_basin_10 (kd_lt (show kd 78 = 10 from rfl) (by decide)) rfl rfl (cellF_10 _ (by decide)) 3 (by decide) mk_X10_basin_18 rfl rfl dX10_basin_47 ?_
            refine v_iload ok 0 dX10_basin_50 rfl ?_
            refine v_iload_n ok 1 dX10_basin_52 rfl rfl ?_
            refine v_bipush (n := 10) ok rfl dX10_basin_53 ?_
            refine v_irem ok (by omega) (by omega) dX10_basin_55 ?_
            refine v_iast (n := 5) (f0 := up (up (up (up (M 81) 4 (v % 10)) 3 ((v / 10) % 10)) 2 (((v / 10) / 10) % 10)) 1 ((((v / 10) / 10) / 10) % 10)) ok (by decide) rfl (by omega) rfl dX10_basin_56 ?_
            rw [up1_up1]
            refine v_iload_n ok 1 dX10_basin_57 rfl rfl ?_
            refine v_bipush (n := 10) ok rfl dX10_basin_58 ?_
            refine v_idiv ok (by omega) (by omega) dX10_basin_60 ?_
            refine v_istore_n ok [(3, iv (((((v / 10) / 10) / 10) / 10) / 10)), (4, iv 0), (2, iv 5), (0, rf g 78), (1, iv v)] dX10_basin_61 rfl (by decide) rfl ?_
            refine v_iinc ok 1 [(4, iv (-1)), (3, iv (((((v / 10) / 10) / 10) / 10) / 10)), (2, iv 5), (0, rf g 78), (1, iv v)] dX10_basin_62 rfl (by decide) rfl ?_
            refine v_goto (tgt := 41) ok dX10_basin_65 (by decide) ?_
            refine v_iload ok 0 dX10_basin_41 rfl ?_
            refine v_if_lt (tgt := 68) ok (by decide) dX10_basin_43 (by decide) (fun c52 => ?_) (fun c52 => absurd c52 (by decide))
            have hd : dgn v = 5 := by unfold dgn; (repeat' split) <;> omega
            have hcm : ∀ k : Int, 0 ≤ k → k < 5 → (up (up (up (up (up (M 81) 4 (v % 10)) 3 ((v / 10) % 10)) 2 (((v / 10) / 10) % 10)) 1 ((((v / 10) / 10) / 10) % 10)) 0 (((((v / 10) / 10) / 10) / 10) % 10)) k = dgt v (dgn v) k := fun k k0 k1 => by
                rw [hd]
                have e : k = 0 ∨ k = 1 ∨ k = 2 ∨ k = 3 ∨ k = 4 := by omega
                rcases e with rfl | rfl | rfl | rfl | rfl <;> simp [up, dgt, p10] <;> omega
            have hdg : bdf (up (up (up (up (up (M 81) 4 (v % 10)) 3 ((v / 10) % 10)) 2 (((v / 10) / 10) % 10)) 1 ((((v / 10) / 10) / 10) % 10)) 0 (((((v / 10) / 10) / 10) / 10) % 10)) 5 0 9 := fun k k0 k1 => by rw [hcm k k0 k1]; unfold dgt; split <;> omega
            refine v_aload_n ok 3 dX10_basin_68 rfl rfl ?_
            refine v_iload_n ok 2 dX10_basin_69 rfl rfl ?_
            refine v_callV (na := 1) (i := 78) (C := RX10) (T := TX10) (N := 22) (f0 := (M 78)) ok (ct_X10_comes z.2.1 g (up1 M 81 (up (up (up (up (up (M 81) 4 (v % 10)) 3 ((v / 10) % 10)) 2 (((v / 10) / 10) % 10)) 1 ((((v / 10) / 10) / 10) % 10)) 0 (((((v / 10) / 10) / 10) / 10) % 10))) 5 (by show 0 ≤ (M 79) 20 ∧ (M 79) 20 ≤ 3; first | omega | assumption) (by first | omega | assumption) hdg) gX10_basin_X10_comes (kd_lt (show kd 78 = 10 from rfl) (by decide)) rfl rfl (cellF_10 _ (by decide)) rfl (by decide +kernel) rfl (by decide) [] rfl (Nat.le_of_ble_eq_true rfl) dX10_basin_70 (fun v54 M55 hp53 => ?_)
            rcases hp53 with ⟨rfl, rfl, h56⟩ | ⟨rfl, rfl, h57⟩
            · skip
              have h56 : (M 79) 20 = 3 := h56
              show V z g 5 (up1 M 81 (up (up (up (up (up (M 81) 4 (v % 10)) 3 ((v / 10) % 10)) 2 (((v / 10) / 10) % 10)) 1 ((((v / 10) / 10) / 10) % 10)) 0 (((((v / 10) / 10) / 10) / 10) % 10))) [(4, iv (-1)), (3, iv (((((v / 10) / 10) / 10) / 10) / 10)), (2, iv 5), (0, rf g 78), (1, iv v)] [iv (-4)] 73
              exact v_iret ok rt dX10_basin_73 (Or.inr (Or.inl (⟨(up (up (up (up (up (M 81) 4 (v % 10)) 3 ((v / 10) % 10)) 2 (((v / 10) / 10) % 10)) 1 ((((v / 10) / 10) / 10) % 10)) 0 (((((v / 10) / 10) / 10) / 10) % 10)), rfl, rfl, (by omega), (by omega)⟩)))
            · skip
              have h57 : (M 79) 20 < 3 := h57
              show V z g 5 (up1 (up1 M 81 (up (up (up (up (up (M 81) 4 (v % 10)) 3 ((v / 10) % 10)) 2 (((v / 10) / 10) % 10)) 1 ((((v / 10) / 10) / 10) % 10)) 0 (((((v / 10) / 10) / 10) / 10) % 10))) 79 (comW ((M 79)) 5 (up (up (up (up (up (M 81) 4 (v % 10)) 3 ((v / 10) % 10)) 2 (((v / 10) / 10) % 10)) 1 ((((v / 10) / 10) / 10) % 10)) 0 (((((v / 10) / 10) / 10) / 10) % 10)))) [(4, iv (-1)), (3, iv (((((v / 10) / 10) / 10) / 10) / 10)), (2, iv 5), (0, rf g 78), (1, iv v)] [iv ((M 79) 20)] 73
              exact v_iret ok rt dX10_basin_73 (Or.inr (Or.inr (⟨(up (up (up (up (up (M 81) 4 (v % 10)) 3 ((v / 10) % 10)) 2 (((v / 10) / 10) % 10)) 1 ((((v / 10) / 10) / 10) % 10)) 0 (((((v / 10) / 10) / 10) / 10) % 10)), (congrArg (fun q : Int => some (iv q)) (show ((M 79) 20) = (M 79 20) from by rfl)), (by first | rfl | rw [comW_cg hcm, hd]), (by omega), (by omega)⟩)))
  · skip
    subst M3
    show V z g 5 M [(0, rf g 78), (1, iv v)] [iv 0] 9
    refine v_if_ne (tgt := 15) ok (by decide) dX10_basin_9 (by decide) (fun c58 => absurd c58 (by decide)) (fun c58 => ?_)
    refine v_bipush (n := -2) ok rfl dX10_basin_12 ?_
    exact v_iret ok rt dX10_basin_14 (Or.inl (⟨rfl, rfl, (by omega)⟩))

theorem mk_X10_hold_84 : Cond.constantLong RX10 84 (4) ∈ wsX10_hold := by decide +kernel
theorem mk_X10_hold_86 : Cond.constantLong RX10 86 (9) ∈ wsX10_hold := by decide +kernel
theorem mk_X10_hold_11 : Cond.fieldLink RX10 11 "StormRunoffModel" "w" "[I" ∈ wsX10_hold := by decide +kernel
theorem mi_X10_hold_10 : ∀ w ∈ wsX100, w ∈ wsX10_hold := by decide +kernel
set_option maxRecDepth 100000 in
set_option maxHeartbeats 400000 in
theorem ct_X10_hold (l : Launch) (g : Gl) (M : Mem) (b k n : Int) (hb : i32 b) (hk : i32 k) (hn : i32 n) (hw : WOk (M 79)) : Ct l g yX10_hold wsX10_hold 2 46 [rf g 78, iv b, iv k, iv n] M (fun rv M' => (rv = some (iv (-1)) ∧ M' = M ∧ (¬ (0 ≤ b ∧ b < M 79 20))) ∨ (rv = some (iv (-2)) ∧ M' = M ∧ (0 ≤ b ∧ b < M 79 20) ∧ (¬ (0 ≤ k ∧ k ≤ 4) ∨ ¬ (0 ≤ n ∧ n ≤ 9) ∨ (k = 2 ∧ n = 0))) ∨ (rv = some (iv (10 * bsK (M 79) b + bsN (M 79) b)) ∧ M' = (up1 M 79 (up (up (M 79) (21 + 8 * b + 6) k) (21 + 8 * b + 7) n)) ∧ (0 ≤ b ∧ b < M 79 20) ∧ ((0 ≤ k ∧ k ≤ 4) ∧ (0 ≤ n ∧ n ≤ 9) ∧ ¬ (k = 2 ∧ n = 0)))) := by
  refine Ct.of (cc := cX10_hold) (nL := 6) (ret := (some .int)) (by decide) rfl (Nat.le_of_ble_eq_true rfl) (fun z hz ok rt => ?_)
  have ok : Ok z g cX10_hold 6 RX10 wsX10_hold 2 46 := ok
  show V z g 6 M [(0, rf g 78), (1, iv b), (2, iv k), (3, iv n)] [] 0
  have hm := hw.2.2.1
  refine v_aload_n ok 0 dX10_hold_0 rfl rfl ?_
  refine v_iload_n ok 1 dX10_hold_1 rfl rfl ?_
  refine v_callV (na := 1) (i := 78) (C := RX10) (T := TX10) (N := 22) (f0 := (M 78)) ok (ct_X10_isBasin z.2.1 g M b ⟨by omega, by omega⟩ (by first | omega | assumption)) gX10_hold_X10_isBasin (kd_lt (show kd 78 = 10 from rfl) (by decide)) rfl rfl (cellF_10 _ (by decide)) rfl (by decide +kernel) rfl (by decide) [] rfl (Nat.le_of_ble_eq_true rfl) dX10_hold_2 (fun v2 M3 hp1 => ?_)
  rcases hp1 with ⟨rfl, eM3, h4⟩ | ⟨rfl, eM3, h5⟩
  · skip
    subst M3
    have h4 : 0 ≤ b ∧ b < (M 79) 20 := h4
    show V z g 6 M [(0, rf g 78), (1, iv b), (2, iv k), (3, iv n)] [iv 1] 5
    refine v_if_ne (tgt := 10) ok (by decide) dX10_hold_5 (by decide) (fun c6 => ?_) (fun c6 => absurd c6 (by decide))
    refine v_iload_n ok 2 dX10_hold_10 rfl rfl ?_
    refine v_i2l ok ⟨by omega, by omega⟩ dX10_hold_11 ?_
    refine v_lconst (n := 0) ok rfl dX10_hold_12 ?_
    refine v_ldc2 (n := 4) ok mk_X10_hold_84 rfl dX10_hold_13 ?_
    refine v_callS (na := 3) ok (ct_X10_in z.2.1 g M k 0 4 ⟨by omega, by omega⟩ (by decide) (by decide)) gX10_hold_X10_in rfl (by decide +kernel) rfl (by decide) [] rfl (Nat.le_of_ble_eq_true rfl) dX10_hold_16 (fun v8 M9 hp7 => ?_)
    rcases hp7 with ⟨rfl, eM9, h10⟩ | ⟨rfl, eM9, h11⟩
    · skip
      subst M9
      show V z g 6 M [(0, rf g 78), (1, iv b), (2, iv k), (3, iv n)] [iv 1] 19
      refine v_if_eq (tgt := 43) ok (by decide) dX10_hold_19 (by decide) (fun c12 => absurd c12 (by decide)) (fun c12 => ?_)
      refine v_iload_n ok 3 dX10_hold_22 rfl rfl ?_
      refine v_i2l ok ⟨by omega, by omega⟩ dX10_hold_23 ?_
      refine v_iload_n ok 2 dX10_hold_24 rfl rfl ?_
      refine v_iconst (n := 2) ok dX10_hold_25 ?_
      refine v_icmp_ne (tgt := 33) ok ⟨by omega, by omega⟩ (by decide) dX10_hold_26 (by decide) (fun c13 => ?_) (fun c13 => ?_)
      · skip
        refine v_lconst (n := 0) ok rfl dX10_hold_33 ?_
        refine v_ldc2 (n := 9) ok mk_X10_hold_86 rfl dX10_hold_34 ?_
        refine v_callS (na := 3) ok (ct_X10_in z.2.1 g M n 0 9 ⟨by omega, by omega⟩ (by decide) (by decide)) gX10_hold_X10_in rfl (by decide +kernel) rfl (by decide) [] rfl (Nat.le_of_ble_eq_true rfl) dX10_hold_37 (fun v15 M16 hp14 => ?_)
        rcases hp14 with ⟨rfl, eM16, h17⟩ | ⟨rfl, eM16, h18⟩
        · skip
          subst M16
          show V z g 6 M [(0, rf g 78), (1, iv b), (2, iv k), (3, iv n)] [iv 1] 40
          refine v_if_ne (tgt := 46) ok (by decide) dX10_hold_40 (by decide) (fun c19 => ?_) (fun c19 => absurd c19 (by decide))
          refine v_bipush (n := 21) ok rfl dX10_hold_46 ?_
          refine v_bipush (n := 8) ok rfl dX10_hold_48 ?_
          refine v_iload_n ok 1 dX10_hold_50 rfl rfl ?_
          refine v_imul ok dX10_hold_51 ?_
          refine v_iadd ok dX10_hold_52 ?_
          refine v_istore ok [(4, iv (21 + (8 * b))), (0, rf g 78), (1, iv b), (2, iv k), (3, iv n)] dX10_hold_53 (by decide) rfl ?_
          refine v_bipush (n := 10) ok rfl dX10_hold_55 ?_
          refine v_aload_n ok 1 dX10_hold_57 rfl rfl ?_
          refine v_get (T := TX10) (N := 22) (f0 := (M 78)) (v := rf g 79) ok mi_X10_hold_10 (kd_lt (show kd 78 = 10 from rfl) (by decide)) rfl rfl (cellF_10 _ (by decide)) 0 (by decide) mk_X10_hold_11 rfl rfl dX10_hold_58 ?_
          refine v_iload ok 0 dX10_hold_61 rfl ?_
          refine v_bipush (n := 6) ok rfl dX10_hold_63 ?_
          refine v_iadd ok dX10_hold_65 ?_
          refine v_iald (n := 90) (f0 := (M 79)) ok (by decide) rfl (by omega) rfl dX10_hold_66 ?_
          refine v_imul ok dX10_hold_67 ?_
          refine v_aload_n ok 1 dX10_hold_68 rfl rfl ?_
          refine v_get (T := TX10) (N := 22) (f0 := (M 78)) (v := rf g 79) ok mi_X10_hold_10 (kd_lt (show kd 78 = 10 from rfl) (by decide)) rfl rfl (cellF_10 _ (by decide)) 0 (by decide) mk_X10_hold_11 rfl rfl dX10_hold_69 ?_
          refine v_iload ok 0 dX10_hold_72 rfl ?_
          refine v_bipush (n := 7) ok rfl dX10_hold_74 ?_
          refine v_iadd ok dX10_hold_76 ?_
          refine v_iald (n := 90) (f0 := (M 79)) ok (by decide) rfl (by omega) rfl dX10_hold_77 ?_
          refine v_iadd ok dX10_hold_78 ?_
          refine v_istore ok [(5, iv ((10 * (M 79 ((21 + (8 * b)) + 6))) + (M 79 ((21 + (8 * b)) + 7)))), (4, iv (21 + (8 * b))), (0, rf g 78), (1, iv b), (2, iv k), (3, iv n)] dX10_hold_79 (by decide) rfl ?_
          refine v_aload_n ok 2 dX10_hold_81 rfl rfl ?_
          refine v_get (T := TX10) (N := 22) (f0 := (M 78)) (v := rf g 79) ok mi_X10_hold_10 (kd_lt (show kd 78 = 10 from rfl) (by decide)) rfl rfl (cellF_10 _ (by decide)) 0 (by decide) mk_X10_hold_11 rfl rfl dX10_hold_82 ?_
          refine v_iload ok 1 dX10_hold_85 rfl ?_
          refine v_bipush (n := 6) ok rfl dX10_hold_87 ?_
          refine v_iadd ok dX10_hold_89 ?_
          refine v_iload_n ok 4 dX10_hold_90 rfl rfl ?_
          refine v_iast (n := 90) (f0 := (M 79)) ok (by decide) rfl (by omega) rfl dX10_hold_91 ?_
          refine v_aload_n ok 2 dX10_hold_92 rfl rfl ?_
          refine v_get (T := TX10) (N := 22) (f0 := (M 78)) (v := rf g 79) ok mi_X10_hold_10 (kd_lt (show kd 78 = 10 from rfl) (by decide)) rfl rfl (cellF_10 _ (by decide)) 0 (by decide) mk_X10_hold_11 rfl rfl dX10_hold_93 ?_
          refine v_iload ok 1 dX10_hold_96 rfl ?_
          refine v_bipush (n := 7) ok rfl dX10_hold_98 ?_
          refine v_iadd ok dX10_hold_100 ?_
          refine v_iload_n ok 5 dX10_hold_101 rfl rfl ?_
          refine v_iast (n := 90) (f0 := up (M 79) ((21 + (8 * b)) + 6) k) ok (by decide) rfl (by omega) rfl dX10_hold_102 ?_
          rw [up1_up1]
          refine v_iload ok 0 dX10_hold_103 rfl ?_
          exact v_iret ok rt dX10_hold_105 (Or.inr (Or.inr (⟨(congrArg (fun q : Int => some (iv q)) (show ((10 * (M 79 ((21 + (8 * b)) + 6))) + (M 79 ((21 + (8 * b)) + 7))) = (10 * bsK (M 79) b + bsN (M 79) b) from by rfl)), rfl, (by omega), (by omega)⟩)))
        · skip
          subst M16
          show V z g 6 M [(0, rf g 78), (1, iv b), (2, iv k), (3, iv n)] [iv 0] 40
          refine v_if_ne (tgt := 46) ok (by decide) dX10_hold_40 (by decide) (fun c20 => absurd c20 (by decide)) (fun c20 => ?_)
          refine v_bipush (n := -2) ok rfl dX10_hold_43 ?_
          exact v_iret ok rt dX10_hold_45 (Or.inr (Or.inl (⟨rfl, rfl, (by omega), (by omega)⟩)))
      · skip
        refine v_lconst (n := 1) ok rfl dX10_hold_29 ?_
        refine v_goto (tgt := 34) ok dX10_hold_30 (by decide) ?_
        refine v_ldc2 (n := 9) ok mk_X10_hold_86 rfl dX10_hold_34 ?_
        refine v_callS (na := 3) ok (ct_X10_in z.2.1 g M n 1 9 ⟨by omega, by omega⟩ (by decide) (by decide)) gX10_hold_X10_in rfl (by decide +kernel) rfl (by decide) [] rfl (Nat.le_of_ble_eq_true rfl) dX10_hold_37 (fun v22 M23 hp21 => ?_)
        rcases hp21 with ⟨rfl, eM23, h24⟩ | ⟨rfl, eM23, h25⟩
        · skip
          subst M23
          show V z g 6 M [(0, rf g 78), (1, iv b), (2, iv k), (3, iv n)] [iv 1] 40
          refine v_if_ne (tgt := 46) ok (by decide) dX10_hold_40 (by decide) (fun c26 => ?_) (fun c26 => absurd c26 (by decide))
          refine v_bipush (n := 21) ok rfl dX10_hold_46 ?_
          refine v_bipush (n := 8) ok rfl dX10_hold_48 ?_
          refine v_iload_n ok 1 dX10_hold_50 rfl rfl ?_
          refine v_imul ok dX10_hold_51 ?_
          refine v_iadd ok dX10_hold_52 ?_
          refine v_istore ok [(4, iv (21 + (8 * b))), (0, rf g 78), (1, iv b), (2, iv k), (3, iv n)] dX10_hold_53 (by decide) rfl ?_
          refine v_bipush (n := 10) ok rfl dX10_hold_55 ?_
          refine v_aload_n ok 1 dX10_hold_57 rfl rfl ?_
          refine v_get (T := TX10) (N := 22) (f0 := (M 78)) (v := rf g 79) ok mi_X10_hold_10 (kd_lt (show kd 78 = 10 from rfl) (by decide)) rfl rfl (cellF_10 _ (by decide)) 0 (by decide) mk_X10_hold_11 rfl rfl dX10_hold_58 ?_
          refine v_iload ok 0 dX10_hold_61 rfl ?_
          refine v_bipush (n := 6) ok rfl dX10_hold_63 ?_
          refine v_iadd ok dX10_hold_65 ?_
          refine v_iald (n := 90) (f0 := (M 79)) ok (by decide) rfl (by omega) rfl dX10_hold_66 ?_
          refine v_imul ok dX10_hold_67 ?_
          refine v_aload_n ok 1 dX10_hold_68 rfl rfl ?_
          refine v_get (T := TX10) (N := 22) (f0 := (M 78)) (v := rf g 79) ok mi_X10_hold_10 (kd_lt (show kd 78 = 10 from rfl) (by decide)) rfl rfl (cellF_10 _ (by decide)) 0 (by decide) mk_X10_hold_11 rfl rfl dX10_hold_69 ?_
          refine v_iload ok 0 dX10_hold_72 rfl ?_
          refine v_bipush (n := 7) ok rfl dX10_hold_74 ?_
          refine v_iadd ok dX10_hold_76 ?_
          refine v_iald (n := 90) (f0 := (M 79)) ok (by decide) rfl (by omega) rfl dX10_hold_77 ?_
          refine v_iadd ok dX10_hold_78 ?_
          refine v_istore ok [(5, iv ((10 * (M 79 ((21 + (8 * b)) + 6))) + (M 79 ((21 + (8 * b)) + 7)))), (4, iv (21 + (8 * b))), (0, rf g 78), (1, iv b), (2, iv k), (3, iv n)] dX10_hold_79 (by decide) rfl ?_
          refine v_aload_n ok 2 dX10_hold_81 rfl rfl ?_
          refine v_get (T := TX10) (N := 22) (f0 := (M 78)) (v := rf g 79) ok mi_X10_hold_10 (kd_lt (show kd 78 = 10 from rfl) (by decide)) rfl rfl (cellF_10 _ (by decide)) 0 (by decide) mk_X10_hold_11 rfl rfl dX10_hold_82 ?_
          refine v_iload ok 1 dX10_hold_85 rfl ?_
          refine v_bipush (n := 6) ok rfl dX10_hold_87 ?_
          refine v_iadd ok dX10_hold_89 ?_
          refine v_iload_n ok 4 dX10_hold_90 rfl rfl ?_
          refine v_iast (n := 90) (f0 := (M 79)) ok (by decide) rfl (by omega) rfl dX10_hold_91 ?_
          refine v_aload_n ok 2 dX10_hold_92 rfl rfl ?_
          refine v_get (T := TX10) (N := 22) (f0 := (M 78)) (v := rf g 79) ok mi_X10_hold_10 (kd_lt (show kd 78 = 10 from rfl) (by decide)) rfl rfl (cellF_10 _ (by decide)) 0 (by decide) mk_X10_hold_11 rfl rfl dX10_hold_93 ?_
          refine v_iload ok 1 dX10_hold_96 rfl ?_
          refine v_bipush (n := 7) ok rfl dX10_hold_98 ?_
          refine v_iadd ok dX10_hold_100 ?_
          refine v_iload_n ok 5 dX10_hold_101 rfl rfl ?_
          refine v_iast (n := 90) (f0 := up (M 79) ((21 + (8 * b)) + 6) k) ok (by decide) rfl (by omega) rfl dX10_hold_102 ?_
          rw [up1_up1]
          refine v_iload ok 0 dX10_hold_103 rfl ?_
          exact v_iret ok rt dX10_hold_105 (Or.inr (Or.inr (⟨(congrArg (fun q : Int => some (iv q)) (show ((10 * (M 79 ((21 + (8 * b)) + 6))) + (M 79 ((21 + (8 * b)) + 7))) = (10 * bsK (M 79) b + bsN (M 79) b) from by rfl)), rfl, (by omega), (by omega)⟩)))
        · skip
          subst M23
          show V z g 6 M [(0, rf g 78), (1, iv b), (2, iv k), (3, iv n)] [iv 0] 40
          refine v_if_ne (tgt := 46) ok (by decide) dX10_hold_40 (by decide) (fun c27 => absurd c27 (by decide)) (fun c27 => ?_)
          refine v_bipush (n := -2) ok rfl dX10_hold_43 ?_
          exact v_iret ok rt dX10_hold_45 (Or.inr (Or.inl (⟨rfl, rfl, (by omega), (by omega)⟩)))
    · skip
      subst M9
      show V z g 6 M [(0, rf g 78), (1, iv b), (2, iv k), (3, iv n)] [iv 0] 19
      refine v_if_eq (tgt := 43) ok (by decide) dX10_hold_19 (by decide) (fun c28 => ?_) (fun c28 => absurd c28 (by decide))
      refine v_bipush (n := -2) ok rfl dX10_hold_43 ?_
      exact v_iret ok rt dX10_hold_45 (Or.inr (Or.inl (⟨rfl, rfl, (by omega), (by omega)⟩)))
  · skip
    subst M3
    have h5 : ¬ (0 ≤ b ∧ b < (M 79) 20) := h5
    show V z g 6 M [(0, rf g 78), (1, iv b), (2, iv k), (3, iv n)] [iv 0] 5
    refine v_if_ne (tgt := 10) ok (by decide) dX10_hold_5 (by decide) (fun c29 => absurd c29 (by decide)) (fun c29 => ?_)
    refine v_iconst (n := -1) ok dX10_hold_8 ?_
    exact v_iret ok rt dX10_hold_9 (Or.inl (⟨rfl, rfl, (by omega)⟩))

theorem mk_X10_feed_92 : Cond.constantLong RX10 92 (127) ∈ wsX10_feed := by decide +kernel
theorem mk_X10_feed_94 : Cond.fieldLink RX10 94 "StormRunoffModel" "length" "I" ∈ wsX10_feed := by decide +kernel
theorem mi_X10_feed_10 : ∀ w ∈ wsX100, w ∈ wsX10_feed := by decide +kernel
theorem mk_X10_feed_21 : Cond.fieldLink RX10 21 "StormRunoffModel" "text" "[I" ∈ wsX10_feed := by decide +kernel
set_option maxRecDepth 100000 in
set_option maxHeartbeats 400000 in
theorem ct_X10_feed (l : Launch) (g : Gl) (M : Mem) (c : Int) (hc : i32 c) (hL : 0 ≤ M 78 5 ∧ M 78 5 ≤ 100) : Ct l g yX10_feed wsX10_feed 1 25 [rf g 78, iv c] M (fun rv M' => (rv = some (iv (-2)) ∧ M' = M ∧ (¬ (0 ≤ c ∧ c ≤ 127))) ∨ (rv = some (iv (-4)) ∧ M' = M ∧ (0 ≤ c ∧ c ≤ 127) ∧ (M 78 5 = 100)) ∨ (rv = some (iv (M 78 5 + 1)) ∧ M' = (up1 (up1 M 82 (up (M 82) (M 78 5) c)) 78 (up (M 78) 5 (M 78 5 + 1))) ∧ (0 ≤ c ∧ c ≤ 127) ∧ (M 78 5 < 100))) := by
  refine Ct.of (cc := cX10_feed) (nL := 2) (ret := (some .int)) (by decide) rfl (Nat.le_of_ble_eq_true rfl) (fun z hz ok rt => ?_)
  have ok : Ok z g cX10_feed 2 RX10 wsX10_feed 1 25 := ok
  show V z g 2 M [(0, rf g 78), (1, iv c)] [] 0
  refine v_iload_n ok 1 dX10_feed_0 rfl rfl ?_
  refine v_i2l ok ⟨by omega, by omega⟩ dX10_feed_1 ?_
  refine v_lconst (n := 0) ok rfl dX10_feed_2 ?_
  refine v_ldc2 (n := 127) ok mk_X10_feed_92 rfl dX10_feed_3 ?_
  refine v_callS (na := 3) ok (ct_X10_in z.2.1 g M c 0 127 ⟨by omega, by omega⟩ (by decide) (by decide)) gX10_feed_X10_in rfl (by decide +kernel) rfl (by decide) [] rfl (Nat.le_of_ble_eq_true rfl) dX10_feed_6 (fun v2 M3 hp1 => ?_)
  rcases hp1 with ⟨rfl, eM3, h4⟩ | ⟨rfl, eM3, h5⟩
  · skip
    subst M3
    show V z g 2 M [(0, rf g 78), (1, iv c)] [iv 1] 9
    refine v_if_ne (tgt := 15) ok (by decide) dX10_feed_9 (by decide) (fun c6 => ?_) (fun c6 => absurd c6 (by decide))
    refine v_aload_n ok 0 dX10_feed_15 rfl rfl ?_
    refine v_get (T := TX10) (N := 22) (f0 := (M 78)) (v := iv (M 78 5)) ok mi_X10_feed_10 (kd_lt (show kd 78 = 10 from rfl) (by decide)) rfl rfl (cellF_10 _ (by decide)) 5 (by decide) mk_X10_feed_94 rfl rfl dX10_feed_16 ?_
    refine v_bipush (n := 100) ok rfl dX10_feed_19 ?_
    refine v_icmp_ne (tgt := 27) ok ⟨by omega, by omega⟩ (by decide) dX10_feed_21 (by decide) (fun c7 => ?_) (fun c7 => ?_)
    · skip
      refine v_aload_n ok 0 dX10_feed_27 rfl rfl ?_
      refine v_get (T := TX10) (N := 22) (f0 := (M 78)) (v := rf g 82) ok mi_X10_feed_10 (kd_lt (show kd 78 = 10 from rfl) (by decide)) rfl rfl (cellF_10 _ (by decide)) 4 (by decide) mk_X10_feed_21 rfl rfl dX10_feed_28 ?_
      refine v_aload_n ok 0 dX10_feed_31 rfl rfl ?_
      refine v_get (T := TX10) (N := 22) (f0 := (M 78)) (v := iv (M 78 5)) ok mi_X10_feed_10 (kd_lt (show kd 78 = 10 from rfl) (by decide)) rfl rfl (cellF_10 _ (by decide)) 5 (by decide) mk_X10_feed_94 rfl rfl dX10_feed_32 ?_
      refine v_iload_n ok 1 dX10_feed_35 rfl rfl ?_
      refine v_iast (n := 100) (f0 := (M 82)) ok (by decide) rfl (by omega) rfl dX10_feed_36 ?_
      refine v_aload_n ok 0 dX10_feed_37 rfl rfl ?_
      refine v_dup ok rfl dX10_feed_38 ?_
      refine v_get (T := TX10) (N := 22) (f0 := (M 78)) (v := iv (M 78 5)) ok mi_X10_feed_10 (kd_lt (show kd 78 = 10 from rfl) (by decide)) rfl rfl (cellF_10 _ (by decide)) 5 (by decide) mk_X10_feed_94 rfl rfl dX10_feed_39 ?_
      refine v_iconst (n := 1) ok dX10_feed_42 ?_
      refine v_iadd ok dX10_feed_43 ?_
      refine v_put (T := TX10) (N := 22) (f0 := (M 78)) (f' := up (M 78) 5 ((M 78 5) + 1)) (ty := .int) ok mi_X10_feed_10 (kd_lt (show kd 78 = 10 from rfl) (by decide)) rfl rfl (cellF_10 _ (by decide)) tyX10 tyX10_ok nmX10 5 (by decide) mk_X10_feed_94 rfl rfl (by decide +kernel) rfl rfl (Nat.le_of_ble_eq_true rfl) ((cellF_10 _ (by decide)).trans rfl) dX10_feed_44 ?_
      refine v_aload_n ok 0 dX10_feed_47 rfl rfl ?_
      refine v_get (T := TX10) (N := 22) (f0 := up (M 78) 5 ((M 78 5) + 1)) (v := iv ((M 78 5) + 1)) ok mi_X10_feed_10 (kd_lt (show kd 78 = 10 from rfl) (by decide)) rfl rfl (cellF_10 _ (by decide)) 5 (by decide) mk_X10_feed_94 rfl rfl dX10_feed_48 ?_
      exact v_iret ok rt dX10_feed_51 (Or.inr (Or.inr (⟨(congrArg (fun q : Int => some (iv q)) (show ((M 78 5) + 1) = (M 78 5 + 1) from by omega)), (by
            funext j
            by_cases hj0 : j = 82
            · subst hj0; simp [up1, up1_self]
            by_cases hj1 : j = 78
            · subst hj1; simp [up1, up1_self]
            simp [up1, hj0, hj1]), (by omega), (by omega)⟩)))
    · skip
      refine v_bipush (n := -4) ok rfl dX10_feed_24 ?_
      exact v_iret ok rt dX10_feed_26 (Or.inr (Or.inl (⟨rfl, rfl, (by omega), (by omega)⟩)))
  · skip
    subst M3
    show V z g 2 M [(0, rf g 78), (1, iv c)] [iv 0] 9
    refine v_if_ne (tgt := 15) ok (by decide) dX10_feed_9 (by decide) (fun c8 => absurd c8 (by decide)) (fun c8 => ?_)
    refine v_bipush (n := -2) ok rfl dX10_feed_12 ?_
    exact v_iret ok rt dX10_feed_14 (Or.inl (⟨rfl, rfl, (by omega)⟩))

theorem mk_X10_of_33 : Cond.fieldLink RX10 33 "StormRunoffModel" "joined" "[I" ∈ wsX10_of := by decide +kernel
theorem mi_X10_of_10 : ∀ w ∈ wsX100, w ∈ wsX10_of := by decide +kernel
theorem mk_X10_of_88 : Cond.constantLong RX10 88 (11) ∈ wsX10_of := by decide +kernel
theorem mk_X10_of_11 : Cond.fieldLink RX10 11 "StormRunoffModel" "w" "[I" ∈ wsX10_of := by decide +kernel
set_option maxRecDepth 100000 in
set_option maxHeartbeats 400000 in
theorem ct_X10_of (l : Launch) (g : Gl) (M : Mem) (s h : Int) (hs : i32 s) (hh : i32 h) (hw : WOk (M 79)) : Ct l g yX10_of wsX10_of 4 94 [rf g 78, iv s, iv h] M (fun rv M' => (rv = some (iv (-1)) ∧ M' = M ∧ ((s = 0 ∧ ¬ (0 ≤ h ∧ h ≤ 7)) ∨ (s = 1 ∧ ¬ (0 ≤ h ∧ h ≤ 11)) ∨ (s = 2 ∧ ¬ (0 ≤ h ∧ h ≤ 29)) ∨ ¬ (0 ≤ s ∧ s ≤ 2))) ∨ (rv = some (iv (M 79 h)) ∧ M' = M ∧ (s = 0) ∧ (0 ≤ h ∧ h ≤ 7)) ∨ (rv = some (iv (tdW (M 79) h)) ∧ M' = M ∧ (s = 1) ∧ (0 ≤ h ∧ h ≤ 11)) ∨ (∃ (F O C : Int → Int), rv = some (iv (jnW (M 79) h)) ∧ M' = (up1 (up1 (up1 (up1 M 84 F) 85 O) 78 C) 86 (jnW (M 79))) ∧ (s = 2) ∧ (0 ≤ h ∧ h ≤ 29) ∧ (∀ j : Int, j ≠ 13 → C j = M 78 j))) := by
  refine Ct.of (cc := cX10_of) (nL := 3) (ret := (some .int)) (by decide) rfl (Nat.le_of_ble_eq_true rfl) (fun z hz ok rt => ?_)
  have ok : Ok z g cX10_of 3 RX10 wsX10_of 4 94 := ok
  show V z g 3 M [(0, rf g 78), (1, iv s), (2, iv h)] [] 0
  refine v_iload_n ok 1 dX10_of_0 rfl rfl ?_
  refine v_if_ne (tgt := 22) ok ⟨by omega, by omega⟩ dX10_of_1 (by decide) (fun c1 => ?_) (fun c1 => ?_)
  · skip
    refine v_iload_n ok 1 dX10_of_22 rfl rfl ?_
    refine v_iconst (n := 1) ok dX10_of_23 ?_
    refine v_icmp_ne (tgt := 53) ok ⟨by omega, by omega⟩ (by decide) dX10_of_24 (by decide) (fun c2 => ?_) (fun c2 => ?_)
    · skip
      refine v_iload_n ok 1 dX10_of_53 rfl rfl ?_
      refine v_iconst (n := 2) ok dX10_of_54 ?_
      refine v_icmp_ne (tgt := 65) ok ⟨by omega, by omega⟩ (by decide) dX10_of_55 (by decide) (fun c3 => ?_) (fun c3 => ?_)
      · skip
        refine v_iconst (n := -1) ok dX10_of_65 ?_
        exact v_iret ok rt dX10_of_66 (Or.inl (⟨rfl, rfl, (by omega)⟩))
      · skip
        refine v_iload_n ok 2 dX10_of_58 rfl rfl ?_
        refine v_callS (na := 1) ok (ct_X10_isHour z.2.1 g M h ⟨by omega, by omega⟩) gX10_of_X10_isHour rfl (by decide +kernel) rfl (by decide) [] rfl (Nat.le_of_ble_eq_true rfl) dX10_of_59 (fun v5 M6 hp4 => ?_)
        rcases hp4 with ⟨rfl, eM6, h7⟩ | ⟨rfl, eM6, h8⟩
        · skip
          subst M6
          show V z g 3 M [(0, rf g 78), (1, iv s), (2, iv h)] [iv 1] 62
          refine v_if_ne (tgt := 67) ok (by decide) dX10_of_62 (by decide) (fun c9 => ?_) (fun c9 => absurd c9 (by decide))
          refine v_aload_n ok 0 dX10_of_67 rfl rfl ?_
          refine v_callV (na := 0) (i := 78) (C := RX10) (T := TX10) (N := 22) (f0 := (M 78)) ok (ct_X10_joins z.2.1 g M  (by first | omega | assumption)) gX10_of_X10_joins (kd_lt (show kd 78 = 10 from rfl) (by decide)) rfl rfl (cellF_10 _ (by decide)) rfl (by decide +kernel) rfl (by decide) [] rfl (Nat.le_of_ble_eq_true rfl) dX10_of_68 (fun v11 M12 hp10 => ?_)
          obtain ⟨F13, O14, C15, rfl, rfl, h16⟩ := hp10
          have h16 : ∀ j : Int, j ≠ 13 → C15 j = (M 78) j := h16
          show V z g 3 (up1 (up1 (up1 (up1 M 84 F13) 85 O14) 78 C15) 86 (jnW ((M 79)))) [(0, rf g 78), (1, iv s), (2, iv h)] [] 71
          have hC := h16
          refine v_aload_n ok 0 dX10_of_71 rfl rfl ?_
          refine v_get (T := TX10) (N := 22) (f0 := C15) (v := rf g 86) ok mi_X10_of_10 (kd_lt (show kd 78 = 10 from rfl) (by decide)) rfl rfl (cellF_10 _ (by decide)) 12 (by decide) mk_X10_of_33 rfl rfl dX10_of_72 ?_
          refine v_iload_n ok 2 dX10_of_75 rfl rfl ?_
          refine v_iald (n := 30) (f0 := (jnW ((M 79)))) ok (by decide) rfl (by omega) rfl dX10_of_76 ?_
          exact v_iret ok rt dX10_of_77 (Or.inr (Or.inr (Or.inr (⟨F13, O14, C15, (congrArg (fun q : Int => some (iv q)) (show ((jnW ((M 79))) h) = (jnW (M 79) h) from by rfl)), rfl, (by omega), (by omega), hC⟩))))
        · skip
          subst M6
          show V z g 3 M [(0, rf g 78), (1, iv s), (2, iv h)] [iv 0] 62
          refine v_if_ne (tgt := 67) ok (by decide) dX10_of_62 (by decide) (fun c17 => absurd c17 (by decide)) (fun c17 => ?_)
          refine v_iconst (n := -1) ok dX10_of_65 ?_
          exact v_iret ok rt dX10_of_66 (Or.inl (⟨rfl, rfl, (by omega)⟩))
    · skip
      refine v_iload_n ok 2 dX10_of_27 rfl rfl ?_
      refine v_i2l ok ⟨by omega, by omega⟩ dX10_of_28 ?_
      refine v_lconst (n := 0) ok rfl dX10_of_29 ?_
      refine v_ldc2 (n := 11) ok mk_X10_of_88 rfl dX10_of_30 ?_
      refine v_callS (na := 3) ok (ct_X10_in z.2.1 g M h 0 11 ⟨by omega, by omega⟩ (by decide) (by decide)) gX10_of_X10_in rfl (by decide +kernel) rfl (by decide) [] rfl (Nat.le_of_ble_eq_true rfl) dX10_of_33 (fun v19 M20 hp18 => ?_)
      rcases hp18 with ⟨rfl, eM20, h21⟩ | ⟨rfl, eM20, h22⟩
      · skip
        subst M20
        show V z g 3 M [(0, rf g 78), (1, iv s), (2, iv h)] [iv 1] 36
        refine v_if_eq (tgt := 51) ok (by decide) dX10_of_36 (by decide) (fun c23 => absurd c23 (by decide)) (fun c23 => ?_)
        refine v_aload_n ok 0 dX10_of_39 rfl rfl ?_
        refine v_get (T := TX10) (N := 22) (f0 := (M 78)) (v := rf g 79) ok mi_X10_of_10 (kd_lt (show kd 78 = 10 from rfl) (by decide)) rfl rfl (cellF_10 _ (by decide)) 0 (by decide) mk_X10_of_11 rfl rfl dX10_of_40 ?_
        refine v_bipush (n := 8) ok rfl dX10_of_43 ?_
        refine v_iload_n ok 2 dX10_of_45 rfl rfl ?_
        refine v_iadd ok dX10_of_46 ?_
        refine v_iald (n := 90) (f0 := (M 79)) ok (by decide) rfl (by omega) rfl dX10_of_47 ?_
        refine v_goto (tgt := 52) ok dX10_of_48 (by decide) ?_
        exact v_iret ok rt dX10_of_52 (Or.inr (Or.inr (Or.inl (⟨(congrArg (fun q : Int => some (iv q)) (show (M 79 (8 + h)) = (tdW (M 79) h) from by rfl)), rfl, (by omega), (by omega)⟩))))
      · skip
        subst M20
        show V z g 3 M [(0, rf g 78), (1, iv s), (2, iv h)] [iv 0] 36
        refine v_if_eq (tgt := 51) ok (by decide) dX10_of_36 (by decide) (fun c24 => ?_) (fun c24 => absurd c24 (by decide))
        refine v_iconst (n := -1) ok dX10_of_51 ?_
        exact v_iret ok rt dX10_of_52 (Or.inl (⟨rfl, rfl, (by omega)⟩))
  · skip
    refine v_iload_n ok 2 dX10_of_4 rfl rfl ?_
    refine v_callS (na := 1) ok (ct_X10_isRain z.2.1 g M h ⟨by omega, by omega⟩) gX10_of_X10_isRain rfl (by decide +kernel) rfl (by decide) [] rfl (Nat.le_of_ble_eq_true rfl) dX10_of_5 (fun v26 M27 hp25 => ?_)
    rcases hp25 with ⟨rfl, eM27, h28⟩ | ⟨rfl, eM27, h29⟩
    · skip
      subst M27
      show V z g 3 M [(0, rf g 78), (1, iv s), (2, iv h)] [iv 1] 8
      refine v_if_eq (tgt := 20) ok (by decide) dX10_of_8 (by decide) (fun c30 => absurd c30 (by decide)) (fun c30 => ?_)
      refine v_aload_n ok 0 dX10_of_11 rfl rfl ?_
      refine v_get (T := TX10) (N := 22) (f0 := (M 78)) (v := rf g 79) ok mi_X10_of_10 (kd_lt (show kd 78 = 10 from rfl) (by decide)) rfl rfl (cellF_10 _ (by decide)) 0 (by decide) mk_X10_of_11 rfl rfl dX10_of_12 ?_
      refine v_iload_n ok 2 dX10_of_15 rfl rfl ?_
      refine v_iald (n := 90) (f0 := (M 79)) ok (by decide) rfl (by omega) rfl dX10_of_16 ?_
      refine v_goto (tgt := 21) ok dX10_of_17 (by decide) ?_
      exact v_iret ok rt dX10_of_21 (Or.inr (Or.inl (⟨rfl, rfl, (by omega), (by omega)⟩)))
    · skip
      subst M27
      show V z g 3 M [(0, rf g 78), (1, iv s), (2, iv h)] [iv 0] 8
      refine v_if_eq (tgt := 20) ok (by decide) dX10_of_8 (by decide) (fun c31 => ?_) (fun c31 => absurd c31 (by decide))
      refine v_iconst (n := -1) ok dX10_of_20 ?_
      exact v_iret ok rt dX10_of_21 (Or.inl (⟨rfl, rfl, (by omega)⟩))

theorem mk_X10_told_189 : Cond.constantLong RX10 189 (-1) ∈ wsX10_told := by decide +kernel
theorem mk_X10_told_67 : Cond.constantLong RX10 67 (7) ∈ wsX10_told := by decide +kernel
theorem mk_X10_told_11 : Cond.fieldLink RX10 11 "StormRunoffModel" "w" "[I" ∈ wsX10_told := by decide +kernel
theorem mi_X10_told_10 : ∀ w ∈ wsX100, w ∈ wsX10_told := by decide +kernel
theorem mk_X10_told_170 : Cond.fieldLink RX10 170 "StormRunoffModel" "store" "I" ∈ wsX10_told := by decide +kernel
set_option maxRecDepth 100000 in
set_option maxHeartbeats 400000 in
theorem ct_X10_told (l : Launch) (g : Gl) (M : Mem) (b w : Int) (hb : i32 b) (hwi : i32 w) (hw : WOk (M 79)) : Ct l g yX10_told wsX10_told 3 72 [rf g 78, iv b, iv w] M (fun rv M' => (rv = some (iv (-1)) ∧ M' = M ∧ (¬ (0 ≤ b ∧ b < M 79 20) ∨ ¬ (-1 ≤ w ∧ w ≤ 7))) ∨ (rv = some (iv (sto (bsK (M 79) b) (bsN (M 79) b) (fl (M 79) (bsA (M 79) b) 8) 30)) ∧ M' = (up1 (up1 (up1 M 84 (fl (M 79) (bsA (M 79) b) 8)) 78 (up (M 78) 13 (sto (bsK (M 79) b) (bsN (M 79) b) (fl (M 79) (bsA (M 79) b) 8) 30))) 85 (otp (bsK (M 79) b) (bsN (M 79) b) (fl (M 79) (bsA (M 79) b) 8))) ∧ (0 ≤ b ∧ b < M 79 20) ∧ (w = 7)) ∨ (rv = some (iv (M 79 (21 + 8 * b + 1 + w))) ∧ M' = M ∧ (0 ≤ b ∧ b < M 79 20) ∧ (-1 ≤ w ∧ w ≤ 6))) := by
  refine Ct.of (cc := cX10_told) (nL := 3) (ret := (some .int)) (by decide) rfl (Nat.le_of_ble_eq_true rfl) (fun z hz ok rt => ?_)
  have ok : Ok z g cX10_told 3 RX10 wsX10_told 3 72 := ok
  show V z g 3 M [(0, rf g 78), (1, iv b), (2, iv w)] [] 0
  have hm := hw.2.2.1
  refine v_aload_n ok 0 dX10_told_0 rfl rfl ?_
  refine v_iload_n ok 1 dX10_told_1 rfl rfl ?_
  refine v_callV (na := 1) (i := 78) (C := RX10) (T := TX10) (N := 22) (f0 := (M 78)) ok (ct_X10_isBasin z.2.1 g M b ⟨by omega, by omega⟩ (by first | omega | assumption)) gX10_told_X10_isBasin (kd_lt (show kd 78 = 10 from rfl) (by decide)) rfl rfl (cellF_10 _ (by decide)) rfl (by decide +kernel) rfl (by decide) [] rfl (Nat.le_of_ble_eq_true rfl) dX10_told_2 (fun v2 M3 hp1 => ?_)
  rcases hp1 with ⟨rfl, eM3, h4⟩ | ⟨rfl, eM3, h5⟩
  · skip
    subst M3
    have h4 : 0 ≤ b ∧ b < (M 79) 20 := h4
    show V z g 3 M [(0, rf g 78), (1, iv b), (2, iv w)] [iv 1] 5
    refine v_if_eq (tgt := 22) ok (by decide) dX10_told_5 (by decide) (fun c6 => absurd c6 (by decide)) (fun c6 => ?_)
    refine v_iload_n ok 2 dX10_told_8 rfl rfl ?_
    refine v_i2l ok ⟨by omega, by omega⟩ dX10_told_9 ?_
    refine v_ldc2 (n := -1) ok mk_X10_told_189 rfl dX10_told_10 ?_
    refine v_ldc2 (n := 7) ok mk_X10_told_67 rfl dX10_told_13 ?_
    refine v_callS (na := 3) ok (ct_X10_in z.2.1 g M w (-1) 7 ⟨by omega, by omega⟩ (by decide) (by decide)) gX10_told_X10_in rfl (by decide +kernel) rfl (by decide) [] rfl (Nat.le_of_ble_eq_true rfl) dX10_told_16 (fun v8 M9 hp7 => ?_)
    rcases hp7 with ⟨rfl, eM9, h10⟩ | ⟨rfl, eM9, h11⟩
    · skip
      subst M9
      show V z g 3 M [(0, rf g 78), (1, iv b), (2, iv w)] [iv 1] 19
      refine v_if_ne (tgt := 24) ok (by decide) dX10_told_19 (by decide) (fun c12 => ?_) (fun c12 => absurd c12 (by decide))
      refine v_iload_n ok 2 dX10_told_24 rfl rfl ?_
      refine v_bipush (n := 7) ok rfl dX10_told_25 ?_
      refine v_icmp_ne (tgt := 40) ok ⟨by omega, by omega⟩ (by decide) dX10_told_27 (by decide) (fun c13 => ?_) (fun c13 => ?_)
      · skip
        refine v_aload_n ok 0 dX10_told_40 rfl rfl ?_
        refine v_get (T := TX10) (N := 22) (f0 := (M 78)) (v := rf g 79) ok mi_X10_told_10 (kd_lt (show kd 78 = 10 from rfl) (by decide)) rfl rfl (cellF_10 _ (by decide)) 0 (by decide) mk_X10_told_11 rfl rfl dX10_told_41 ?_
        refine v_bipush (n := 21) ok rfl dX10_told_44 ?_
        refine v_bipush (n := 8) ok rfl dX10_told_46 ?_
        refine v_iload_n ok 1 dX10_told_48 rfl rfl ?_
        refine v_imul ok dX10_told_49 ?_
        refine v_iadd ok dX10_told_50 ?_
        refine v_iconst (n := 1) ok dX10_told_51 ?_
        refine v_iadd ok dX10_told_52 ?_
        refine v_iload_n ok 2 dX10_told_53 rfl rfl ?_
        refine v_iadd ok dX10_told_54 ?_
        refine v_iald (n := 90) (f0 := (M 79)) ok (by decide) rfl (by omega) rfl dX10_told_55 ?_
        exact v_iret ok rt dX10_told_56 (Or.inr (Or.inr (⟨(congrArg (fun q : Int => some (iv q)) (show (M 79 (((21 + (8 * b)) + 1) + w)) = (M 79 (21 + 8 * b + 1 + w)) from by rfl)), rfl, (by omega), (by omega)⟩)))
      · skip
        refine v_aload_n ok 0 dX10_told_30 rfl rfl ?_
        refine v_iload_n ok 1 dX10_told_31 rfl rfl ?_
        refine v_callV (na := 1) (i := 78) (C := RX10) (T := TX10) (N := 22) (f0 := (M 78)) ok (ct_X10_goes z.2.1 g M b (by first | omega | assumption) (by first | omega | assumption)) gX10_told_X10_goes (kd_lt (show kd 78 = 10 from rfl) (by decide)) rfl rfl (cellF_10 _ (by decide)) rfl (by decide +kernel) rfl (by decide) [] rfl (Nat.le_of_ble_eq_true rfl) dX10_told_32 (fun v15 M16 hp14 => ?_)
        obtain ⟨rfl, rfl⟩ := hp14
        show V z g 3 (up1 (up1 (up1 M 84 (fl ((M 79)) (bsA ((M 79)) b) 8)) 78 (up ((M 78)) 13 (sto (bsK ((M 79)) b) (bsN ((M 79)) b) (fl ((M 79)) (bsA ((M 79)) b) 8) 30))) 85 (otp (bsK ((M 79)) b) (bsN ((M 79)) b) (fl ((M 79)) (bsA ((M 79)) b) 8))) [(0, rf g 78), (1, iv b), (2, iv w)] [] 35
        refine v_aload_n ok 0 dX10_told_35 rfl rfl ?_
        refine v_get (T := TX10) (N := 22) (f0 := (up ((M 78)) 13 (sto (bsK ((M 79)) b) (bsN ((M 79)) b) (fl ((M 79)) (bsA ((M 79)) b) 8) 30))) (v := iv (sto (bsK ((M 79)) b) (bsN ((M 79)) b) (fl ((M 79)) (bsA ((M 79)) b) 8) 30)) ok mi_X10_told_10 (kd_lt (show kd 78 = 10 from rfl) (by decide)) rfl rfl (cellF_10 _ (by decide)) 13 (by decide) mk_X10_told_170 rfl rfl dX10_told_36 ?_
        exact v_iret ok rt dX10_told_39 (Or.inr (Or.inl (⟨(congrArg (fun q : Int => some (iv q)) (show (sto (bsK ((M 79)) b) (bsN ((M 79)) b) (fl ((M 79)) (bsA ((M 79)) b) 8) 30) = (sto (bsK (M 79) b) (bsN (M 79) b) (fl (M 79) (bsA (M 79) b) 8) 30) from by rfl)), rfl, (by omega), (by omega)⟩)))
    · skip
      subst M9
      show V z g 3 M [(0, rf g 78), (1, iv b), (2, iv w)] [iv 0] 19
      refine v_if_ne (tgt := 24) ok (by decide) dX10_told_19 (by decide) (fun c17 => absurd c17 (by decide)) (fun c17 => ?_)
      refine v_iconst (n := -1) ok dX10_told_22 ?_
      exact v_iret ok rt dX10_told_23 (Or.inl (⟨rfl, rfl, (by omega)⟩))
  · skip
    subst M3
    have h5 : ¬ (0 ≤ b ∧ b < (M 79) 20) := h5
    show V z g 3 M [(0, rf g 78), (1, iv b), (2, iv w)] [iv 0] 5
    refine v_if_eq (tgt := 22) ok (by decide) dX10_told_5 (by decide) (fun c18 => ?_) (fun c18 => absurd c18 (by decide))
    refine v_iconst (n := -1) ok dX10_told_22 ?_
    exact v_iret ok rt dX10_told_23 (Or.inl (⟨rfl, rfl, (by omega)⟩))

theorem mk_X10_flow_30 : Cond.fieldLink RX10 30 "StormRunoffModel" "out" "[I" ∈ wsX10_flow := by decide +kernel
theorem mi_X10_flow_10 : ∀ w ∈ wsX100, w ∈ wsX10_flow := by decide +kernel
theorem mk_X10_flow_27 : Cond.fieldLink RX10 27 "StormRunoffModel" "flow" "[I" ∈ wsX10_flow := by decide +kernel
set_option maxRecDepth 100000 in
set_option maxHeartbeats 400000 in
theorem ct_X10_flow (l : Launch) (g : Gl) (M : Mem) (s b h : Int) (hs : i32 s) (hb : i32 b) (hh : i32 h) (hw : WOk (M 79)) : Ct l g yX10_flow wsX10_flow 3 72 [rf g 78, iv s, iv b, iv h] M (fun rv M' => (rv = some (iv (-1)) ∧ M' = M ∧ (¬ (0 ≤ s ∧ s ≤ 1) ∨ ¬ (0 ≤ b ∧ b < M 79 20) ∨ ¬ (0 ≤ h ∧ h ≤ 29))) ∨ (rv = some (iv ((fl (M 79) (bsA (M 79) b) 8) h)) ∧ M' = (up1 (up1 (up1 M 84 (fl (M 79) (bsA (M 79) b) 8)) 78 (up (M 78) 13 (sto (bsK (M 79) b) (bsN (M 79) b) (fl (M 79) (bsA (M 79) b) 8) 30))) 85 (otp (bsK (M 79) b) (bsN (M 79) b) (fl (M 79) (bsA (M 79) b) 8))) ∧ (s = 0) ∧ (0 ≤ b ∧ b < M 79 20) ∧ (0 ≤ h ∧ h ≤ 29)) ∨ (rv = some (iv ((otp (bsK (M 79) b) (bsN (M 79) b) (fl (M 79) (bsA (M 79) b) 8)) h)) ∧ M' = (up1 (up1 (up1 M 84 (fl (M 79) (bsA (M 79) b) 8)) 78 (up (M 78) 13 (sto (bsK (M 79) b) (bsN (M 79) b) (fl (M 79) (bsA (M 79) b) 8) 30))) 85 (otp (bsK (M 79) b) (bsN (M 79) b) (fl (M 79) (bsA (M 79) b) 8))) ∧ (s = 1) ∧ (0 ≤ b ∧ b < M 79 20) ∧ (0 ≤ h ∧ h ≤ 29))) := by
  refine Ct.of (cc := cX10_flow) (nL := 4) (ret := (some .int)) (by decide) rfl (Nat.le_of_ble_eq_true rfl) (fun z hz ok rt => ?_)
  have ok : Ok z g cX10_flow 4 RX10 wsX10_flow 3 72 := ok
  show V z g 4 M [(0, rf g 78), (1, iv s), (2, iv b), (3, iv h)] [] 0
  have hm := hw.2.2.1
  refine v_iload_n ok 1 dX10_flow_0 rfl rfl ?_
  refine v_i2l ok ⟨by omega, by omega⟩ dX10_flow_1 ?_
  refine v_lconst (n := 0) ok rfl dX10_flow_2 ?_
  refine v_lconst (n := 1) ok rfl dX10_flow_3 ?_
  refine v_callS (na := 3) ok (ct_X10_in z.2.1 g M s 0 1 ⟨by omega, by omega⟩ (by decide) (by decide)) gX10_flow_X10_in rfl (by decide +kernel) rfl (by decide) [] rfl (Nat.le_of_ble_eq_true rfl) dX10_flow_4 (fun v2 M3 hp1 => ?_)
  rcases hp1 with ⟨rfl, eM3, h4⟩ | ⟨rfl, eM3, h5⟩
  · skip
    subst M3
    show V z g 4 M [(0, rf g 78), (1, iv s), (2, iv b), (3, iv h)] [iv 1] 7
    refine v_if_eq (tgt := 25) ok (by decide) dX10_flow_7 (by decide) (fun c6 => absurd c6 (by decide)) (fun c6 => ?_)
    refine v_aload_n ok 0 dX10_flow_10 rfl rfl ?_
    refine v_iload_n ok 2 dX10_flow_11 rfl rfl ?_
    refine v_callV (na := 1) (i := 78) (C := RX10) (T := TX10) (N := 22) (f0 := (M 78)) ok (ct_X10_isBasin z.2.1 g M b ⟨by omega, by omega⟩ (by first | omega | assumption)) gX10_flow_X10_isBasin (kd_lt (show kd 78 = 10 from rfl) (by decide)) rfl rfl (cellF_10 _ (by decide)) rfl (by decide +kernel) rfl (by decide) [] rfl (Nat.le_of_ble_eq_true rfl) dX10_flow_12 (fun v8 M9 hp7 => ?_)
    rcases hp7 with ⟨rfl, eM9, h10⟩ | ⟨rfl, eM9, h11⟩
    · skip
      subst M9
      have h10 : 0 ≤ b ∧ b < (M 79) 20 := h10
      show V z g 4 M [(0, rf g 78), (1, iv s), (2, iv b), (3, iv h)] [iv 1] 15
      refine v_if_eq (tgt := 25) ok (by decide) dX10_flow_15 (by decide) (fun c12 => absurd c12 (by decide)) (fun c12 => ?_)
      refine v_iload_n ok 3 dX10_flow_18 rfl rfl ?_
      refine v_callS (na := 1) ok (ct_X10_isHour z.2.1 g M h ⟨by omega, by omega⟩) gX10_flow_X10_isHour rfl (by decide +kernel) rfl (by decide) [] rfl (Nat.le_of_ble_eq_true rfl) dX10_flow_19 (fun v14 M15 hp13 => ?_)
      rcases hp13 with ⟨rfl, eM15, h16⟩ | ⟨rfl, eM15, h17⟩
      · skip
        subst M15
        show V z g 4 M [(0, rf g 78), (1, iv s), (2, iv b), (3, iv h)] [iv 1] 22
        refine v_if_ne (tgt := 27) ok (by decide) dX10_flow_22 (by decide) (fun c18 => ?_) (fun c18 => absurd c18 (by decide))
        refine v_aload_n ok 0 dX10_flow_27 rfl rfl ?_
        refine v_iload_n ok 2 dX10_flow_28 rfl rfl ?_
        refine v_callV (na := 1) (i := 78) (C := RX10) (T := TX10) (N := 22) (f0 := (M 78)) ok (ct_X10_goes z.2.1 g M b (by first | omega | assumption) (by first | omega | assumption)) gX10_flow_X10_goes (kd_lt (show kd 78 = 10 from rfl) (by decide)) rfl rfl (cellF_10 _ (by decide)) rfl (by decide +kernel) rfl (by decide) [] rfl (Nat.le_of_ble_eq_true rfl) dX10_flow_29 (fun v20 M21 hp19 => ?_)
        obtain ⟨rfl, rfl⟩ := hp19
        show V z g 4 (up1 (up1 (up1 M 84 (fl ((M 79)) (bsA ((M 79)) b) 8)) 78 (up ((M 78)) 13 (sto (bsK ((M 79)) b) (bsN ((M 79)) b) (fl ((M 79)) (bsA ((M 79)) b) 8) 30))) 85 (otp (bsK ((M 79)) b) (bsN ((M 79)) b) (fl ((M 79)) (bsA ((M 79)) b) 8))) [(0, rf g 78), (1, iv s), (2, iv b), (3, iv h)] [] 32
        refine v_iload_n ok 1 dX10_flow_32 rfl rfl ?_
        refine v_if_ne (tgt := 45) ok ⟨by omega, by omega⟩ dX10_flow_33 (by decide) (fun c22 => ?_) (fun c22 => ?_)
        · skip
          refine v_aload_n ok 0 dX10_flow_45 rfl rfl ?_
          refine v_get (T := TX10) (N := 22) (f0 := (up ((M 78)) 13 (sto (bsK ((M 79)) b) (bsN ((M 79)) b) (fl ((M 79)) (bsA ((M 79)) b) 8) 30))) (v := rf g 85) ok mi_X10_flow_10 (kd_lt (show kd 78 = 10 from rfl) (by decide)) rfl rfl (cellF_10 _ (by decide)) 11 (by decide) mk_X10_flow_30 rfl rfl dX10_flow_46 ?_
          refine v_iload_n ok 3 dX10_flow_49 rfl rfl ?_
          refine v_iald (n := 30) (f0 := (otp (bsK ((M 79)) b) (bsN ((M 79)) b) (fl ((M 79)) (bsA ((M 79)) b) 8))) ok (by decide) rfl (by omega) rfl dX10_flow_50 ?_
          exact v_iret ok rt dX10_flow_51 (Or.inr (Or.inr (⟨(congrArg (fun q : Int => some (iv q)) (show ((otp (bsK ((M 79)) b) (bsN ((M 79)) b) (fl ((M 79)) (bsA ((M 79)) b) 8)) h) = ((otp (bsK (M 79) b) (bsN (M 79) b) (fl (M 79) (bsA (M 79) b) 8)) h) from by rfl)), rfl, (by omega), (by omega), (by omega)⟩)))
        · skip
          refine v_aload_n ok 0 dX10_flow_36 rfl rfl ?_
          refine v_get (T := TX10) (N := 22) (f0 := (up ((M 78)) 13 (sto (bsK ((M 79)) b) (bsN ((M 79)) b) (fl ((M 79)) (bsA ((M 79)) b) 8) 30))) (v := rf g 84) ok mi_X10_flow_10 (kd_lt (show kd 78 = 10 from rfl) (by decide)) rfl rfl (cellF_10 _ (by decide)) 10 (by decide) mk_X10_flow_27 rfl rfl dX10_flow_37 ?_
          refine v_iload_n ok 3 dX10_flow_40 rfl rfl ?_
          refine v_iald (n := 30) (f0 := (fl ((M 79)) (bsA ((M 79)) b) 8)) ok (by decide) rfl (by omega) rfl dX10_flow_41 ?_
          refine v_goto (tgt := 51) ok dX10_flow_42 (by decide) ?_
          exact v_iret ok rt dX10_flow_51 (Or.inr (Or.inl (⟨(congrArg (fun q : Int => some (iv q)) (show ((fl ((M 79)) (bsA ((M 79)) b) 8) h) = ((fl (M 79) (bsA (M 79) b) 8) h) from by rfl)), rfl, (by omega), (by omega), (by omega)⟩)))
      · skip
        subst M15
        show V z g 4 M [(0, rf g 78), (1, iv s), (2, iv b), (3, iv h)] [iv 0] 22
        refine v_if_ne (tgt := 27) ok (by decide) dX10_flow_22 (by decide) (fun c23 => absurd c23 (by decide)) (fun c23 => ?_)
        refine v_iconst (n := -1) ok dX10_flow_25 ?_
        exact v_iret ok rt dX10_flow_26 (Or.inl (⟨rfl, rfl, (by omega)⟩))
    · skip
      subst M9
      have h11 : ¬ (0 ≤ b ∧ b < (M 79) 20) := h11
      show V z g 4 M [(0, rf g 78), (1, iv s), (2, iv b), (3, iv h)] [iv 0] 15
      refine v_if_eq (tgt := 25) ok (by decide) dX10_flow_15 (by decide) (fun c24 => ?_) (fun c24 => absurd c24 (by decide))
      refine v_iconst (n := -1) ok dX10_flow_25 ?_
      exact v_iret ok rt dX10_flow_26 (Or.inl (⟨rfl, rfl, (by omega)⟩))
  · skip
    subst M3
    show V z g 4 M [(0, rf g 78), (1, iv s), (2, iv b), (3, iv h)] [iv 0] 7
    refine v_if_eq (tgt := 25) ok (by decide) dX10_flow_7 (by decide) (fun c25 => ?_) (fun c25 => absurd c25 (by decide))
    refine v_iconst (n := -1) ok dX10_flow_25 ?_
    exact v_iret ok rt dX10_flow_26 (Or.inl (⟨rfl, rfl, (by omega)⟩))

theorem mk_X10_row_191 : Cond.constantLong RX10 191 (2) ∈ wsX10_row := by decide +kernel
theorem mk_X10_row_30 : Cond.fieldLink RX10 30 "StormRunoffModel" "out" "[I" ∈ wsX10_row := by decide +kernel
theorem mi_X10_row_10 : ∀ w ∈ wsX100, w ∈ wsX10_row := by decide +kernel
theorem mk_X10_row_33 : Cond.fieldLink RX10 33 "StormRunoffModel" "joined" "[I" ∈ wsX10_row := by decide +kernel
theorem mk_X10_row_11 : Cond.fieldLink RX10 11 "StormRunoffModel" "w" "[I" ∈ wsX10_row := by decide +kernel
set_option maxRecDepth 100000 in
set_option maxHeartbeats 400000 in
theorem ct_X10_row (l : Launch) (g : Gl) (M : Mem) (s w : Int) (hs : i32 s) (hwi : i32 w) (hw : WOk (M 79)) : Ct l g yX10_row wsX10_row 4 94 [rf g 78, iv s, iv w] M (fun rv M' => (rv = some (iv (-1)) ∧ M' = M ∧ (¬ (0 ≤ s ∧ s ≤ 2) ∧ ¬ (3 ≤ s ∧ s - 3 < M 79 20) ∨ ¬ (0 ≤ w ∧ w ≤ 2))) ∨ (rv = some (iv (msr w (M 79) 8)) ∧ M' = M ∧ (s = 0) ∧ (0 ≤ w ∧ w ≤ 2)) ∨ (rv = some (iv (msr w (tdW (M 79)) 12)) ∧ M' = M ∧ (s = 1) ∧ (0 ≤ w ∧ w ≤ 2)) ∨ (∃ (F O C : Int → Int), rv = some (iv (msr w (jnW (M 79)) 30)) ∧ M' = (up1 (up1 (up1 (up1 M 84 F) 85 O) 78 C) 86 (jnW (M 79))) ∧ (s = 2) ∧ (0 ≤ w ∧ w ≤ 2) ∧ (∀ j : Int, j ≠ 13 → C j = M 78 j)) ∨ (rv = some (iv (msr w (otp (bsK (M 79) (s - 3)) (bsN (M 79) (s - 3)) (fl (M 79) (bsA (M 79) (s - 3)) 8)) 30)) ∧ M' = (up1 (up1 (up1 M 84 (fl (M 79) (bsA (M 79) (s - 3)) 8)) 78 (up (M 78) 13 (sto (bsK (M 79) (s - 3)) (bsN (M 79) (s - 3)) (fl (M 79) (bsA (M 79) (s - 3)) 8) 30))) 85 (otp (bsK (M 79) (s - 3)) (bsN (M 79) (s - 3)) (fl (M 79) (bsA (M 79) (s - 3)) 8))) ∧ (3 ≤ s ∧ s - 3 < M 79 20) ∧ (0 ≤ w ∧ w ≤ 2))) := by
  refine Ct.of (cc := cX10_row) (nL := 3) (ret := (some .int)) (by decide) rfl (Nat.le_of_ble_eq_true rfl) (fun z hz ok rt => ?_)
  have ok : Ok z g cX10_row 3 RX10 wsX10_row 4 94 := ok
  show V z g 3 M [(0, rf g 78), (1, iv s), (2, iv w)] [] 0
  have hm := hw.2.2.1
  refine v_iload_n ok 1 dX10_row_0 rfl rfl ?_
  refine v_i2l ok ⟨by omega, by omega⟩ dX10_row_1 ?_
  refine v_lconst (n := 0) ok rfl dX10_row_2 ?_
  refine v_ldc2 (n := 2) ok mk_X10_row_191 rfl dX10_row_3 ?_
  refine v_callS (na := 3) ok (ct_X10_in z.2.1 g M s 0 2 ⟨by omega, by omega⟩ (by decide) (by decide)) gX10_row_X10_in rfl (by decide +kernel) rfl (by decide) [] rfl (Nat.le_of_ble_eq_true rfl) dX10_row_6 (fun v2 M3 hp1 => ?_)
  rcases hp1 with ⟨rfl, eM3, h4⟩ | ⟨rfl, eM3, h5⟩
  · skip
    subst M3
    show V z g 3 M [(0, rf g 78), (1, iv s), (2, iv w)] [iv 1] 9
    refine v_if_ne (tgt := 22) ok (by decide) dX10_row_9 (by decide) (fun c6 => ?_) (fun c6 => absurd c6 (by decide))
    refine v_iload_n ok 2 dX10_row_22 rfl rfl ?_
    refine v_i2l ok ⟨by omega, by omega⟩ dX10_row_23 ?_
    refine v_lconst (n := 0) ok rfl dX10_row_24 ?_
    refine v_ldc2 (n := 2) ok mk_X10_row_191 rfl dX10_row_25 ?_
    refine v_callS (na := 3) ok (ct_X10_in z.2.1 g M w 0 2 ⟨by omega, by omega⟩ (by decide) (by decide)) gX10_row_X10_in rfl (by decide +kernel) rfl (by decide) [] rfl (Nat.le_of_ble_eq_true rfl) dX10_row_28 (fun v8 M9 hp7 => ?_)
    rcases hp7 with ⟨rfl, eM9, h10⟩ | ⟨rfl, eM9, h11⟩
    · skip
      subst M9
      show V z g 3 M [(0, rf g 78), (1, iv s), (2, iv w)] [iv 1] 31
      refine v_if_ne (tgt := 36) ok (by decide) dX10_row_31 (by decide) (fun c12 => ?_) (fun c12 => absurd c12 (by decide))
      refine v_iload_n ok 1 dX10_row_36 rfl rfl ?_
      refine v_if_ne (tgt := 52) ok ⟨by omega, by omega⟩ dX10_row_37 (by decide) (fun c13 => ?_) (fun c13 => ?_)
      · skip
        refine v_iload_n ok 1 dX10_row_52 rfl rfl ?_
        refine v_iconst (n := 1) ok dX10_row_53 ?_
        refine v_icmp_ne (tgt := 70) ok ⟨by omega, by omega⟩ (by decide) dX10_row_54 (by decide) (fun c14 => ?_) (fun c14 => ?_)
        · skip
          refine v_iload_n ok 1 dX10_row_70 rfl rfl ?_
          refine v_iconst (n := 2) ok dX10_row_71 ?_
          refine v_icmp_ne (tgt := 91) ok ⟨by omega, by omega⟩ (by decide) dX10_row_72 (by decide) (fun c15 => ?_) (fun c15 => ?_)
          · skip
            have hbo := hw.2.2.2.1 (s - 3) (by omega) (by omega)
            have hA := hbo.1
            have hK := hbo.2.2.1
            have hN := hbo.2.2.2.1
            have hP := hbo.2.2.2.2
            refine v_aload_n ok 0 dX10_row_91 rfl rfl ?_
            refine v_iload_n ok 1 dX10_row_92 rfl rfl ?_
            refine v_iconst (n := 3) ok dX10_row_93 ?_
            refine v_isub ok dX10_row_94 ?_
            refine v_callV (na := 1) (i := 78) (C := RX10) (T := TX10) (N := 22) (f0 := (M 78)) ok (ct_X10_goes z.2.1 g M (s - 3) (by omega) hw) gX10_row_X10_goes (kd_lt (show kd 78 = 10 from rfl) (by decide)) rfl rfl (cellF_10 _ (by decide)) rfl (by decide +kernel) rfl (by decide) [] rfl (Nat.le_of_ble_eq_true rfl) dX10_row_95 (fun v17 M18 hp16 => ?_)
            obtain ⟨rfl, rfl⟩ := hp16
            show V z g 3 (up1 (up1 (up1 M 84 (fl ((M 79)) (bsA ((M 79)) (s - 3)) 8)) 78 (up ((M 78)) 13 (sto (bsK ((M 79)) (s - 3)) (bsN ((M 79)) (s - 3)) (fl ((M 79)) (bsA ((M 79)) (s - 3)) 8) 30))) 85 (otp (bsK ((M 79)) (s - 3)) (bsN ((M 79)) (s - 3)) (fl ((M 79)) (bsA ((M 79)) (s - 3)) 8))) [(0, rf g 78), (1, iv s), (2, iv w)] [] 98
            refine v_aload_n ok 0 dX10_row_98 rfl rfl ?_
            refine v_get (T := TX10) (N := 22) (f0 := (up ((M 78)) 13 (sto (bsK ((M 79)) (s - 3)) (bsN ((M 79)) (s - 3)) (fl ((M 79)) (bsA ((M 79)) (s - 3)) 8) 30))) (v := rf g 85) ok mi_X10_row_10 (kd_lt (show kd 78 = 10 from rfl) (by decide)) rfl rfl (cellF_10 _ (by decide)) 11 (by decide) mk_X10_row_30 rfl rfl dX10_row_99 ?_
            refine v_iconst (n := 0) ok dX10_row_102 ?_
            refine v_bipush (n := 30) ok rfl dX10_row_103 ?_
            refine v_iload_n ok 2 dX10_row_105 rfl rfl ?_
            refine v_callS (na := 4) ok (ct_X10_most z.2.1 g (up1 (up1 (up1 M 84 (fl ((M 79)) (bsA ((M 79)) (s - 3)) 8)) 78 (up ((M 78)) 13 (sto (bsK ((M 79)) (s - 3)) (bsN ((M 79)) (s - 3)) (fl ((M 79)) (bsA ((M 79)) (s - 3)) 8) 30))) 85 (otp (bsK ((M 79)) (s - 3)) (bsN ((M 79)) (s - 3)) (fl ((M 79)) (bsA ((M 79)) (s - 3)) 8))) 85 30 0 30 w 43200 (by decide) rfl (by decide) (by omega) (by rw [shf_0]; exact otp_rng hN.1 (fl_rng hw.1 hA 30)) (by decide)) gX10_row_X10_most rfl (by decide +kernel) rfl (by decide) [] rfl (Nat.le_of_ble_eq_true rfl) dX10_row_106 (fun v20 M21 hp19 => ?_)
            obtain ⟨rfl, rfl⟩ := hp19
            show V z g 3 (up1 (up1 (up1 M 84 (fl ((M 79)) (bsA ((M 79)) (s - 3)) 8)) 78 (up ((M 78)) 13 (sto (bsK ((M 79)) (s - 3)) (bsN ((M 79)) (s - 3)) (fl ((M 79)) (bsA ((M 79)) (s - 3)) 8) 30))) 85 (otp (bsK ((M 79)) (s - 3)) (bsN ((M 79)) (s - 3)) (fl ((M 79)) (bsA ((M 79)) (s - 3)) 8))) [(0, rf g 78), (1, iv s), (2, iv w)] [iv (msr w (shf ((otp (bsK ((M 79)) (s - 3)) (bsN ((M 79)) (s - 3)) (fl ((M 79)) (bsA ((M 79)) (s - 3)) 8))) 0) (30 : Int).toNat)] 109
            exact v_iret ok rt dX10_row_109 (Or.inr (Or.inr (Or.inr (Or.inr (⟨(congrArg (fun q : Int => some (iv q)) (show (msr w (shf ((otp (bsK ((M 79)) (s - 3)) (bsN ((M 79)) (s - 3)) (fl ((M 79)) (bsA ((M 79)) (s - 3)) 8))) 0) (30 : Int).toNat) = (msr w (otp (bsK (M 79) (s - 3)) (bsN (M 79) (s - 3)) (fl (M 79) (bsA (M 79) (s - 3)) 8)) 30) from by (rw [shf_0]; rfl))), rfl, (by omega), (by omega)⟩)))))
          · skip
            refine v_aload_n ok 0 dX10_row_75 rfl rfl ?_
            refine v_callV (na := 0) (i := 78) (C := RX10) (T := TX10) (N := 22) (f0 := (M 78)) ok (ct_X10_joins z.2.1 g M  (by first | omega | assumption)) gX10_row_X10_joins (kd_lt (show kd 78 = 10 from rfl) (by decide)) rfl rfl (cellF_10 _ (by decide)) rfl (by decide +kernel) rfl (by decide) [] rfl (Nat.le_of_ble_eq_true rfl) dX10_row_76 (fun v23 M24 hp22 => ?_)
            obtain ⟨F25, O26, C27, rfl, rfl, h28⟩ := hp22
            have h28 : ∀ j : Int, j ≠ 13 → C27 j = (M 78) j := h28
            show V z g 3 (up1 (up1 (up1 (up1 M 84 F25) 85 O26) 78 C27) 86 (jnW ((M 79)))) [(0, rf g 78), (1, iv s), (2, iv w)] [] 79
            have hC := h28
            refine v_aload_n ok 0 dX10_row_79 rfl rfl ?_
            refine v_get (T := TX10) (N := 22) (f0 := C27) (v := rf g 86) ok mi_X10_row_10 (kd_lt (show kd 78 = 10 from rfl) (by decide)) rfl rfl (cellF_10 _ (by decide)) 12 (by decide) mk_X10_row_33 rfl rfl dX10_row_80 ?_
            refine v_iconst (n := 0) ok dX10_row_83 ?_
            refine v_bipush (n := 30) ok rfl dX10_row_84 ?_
            refine v_iload_n ok 2 dX10_row_86 rfl rfl ?_
            refine v_callS (na := 4) ok (ct_X10_most z.2.1 g (up1 (up1 (up1 (up1 M 84 F25) 85 O26) 78 C27) 86 (jnW ((M 79)))) 86 30 0 30 w 129600 (by decide) rfl (by decide) (by omega) (by rw [shf_0]; exact jnW_rng hw) (by decide)) gX10_row_X10_most rfl (by decide +kernel) rfl (by decide) [] rfl (Nat.le_of_ble_eq_true rfl) dX10_row_87 (fun v30 M31 hp29 => ?_)
            obtain ⟨rfl, rfl⟩ := hp29
            show V z g 3 (up1 (up1 (up1 (up1 M 84 F25) 85 O26) 78 C27) 86 (jnW ((M 79)))) [(0, rf g 78), (1, iv s), (2, iv w)] [iv (msr w (shf ((jnW ((M 79)))) 0) (30 : Int).toNat)] 90
            exact v_iret ok rt dX10_row_90 (Or.inr (Or.inr (Or.inr (Or.inl (⟨F25, O26, C27, (congrArg (fun q : Int => some (iv q)) (show (msr w (shf ((jnW ((M 79)))) 0) (30 : Int).toNat) = (msr w (jnW (M 79)) 30) from by (rw [shf_0]; rfl))), rfl, (by omega), (by omega), hC⟩)))))
        · skip
          refine v_aload_n ok 0 dX10_row_57 rfl rfl ?_
          refine v_get (T := TX10) (N := 22) (f0 := (M 78)) (v := rf g 79) ok mi_X10_row_10 (kd_lt (show kd 78 = 10 from rfl) (by decide)) rfl rfl (cellF_10 _ (by decide)) 0 (by decide) mk_X10_row_11 rfl rfl dX10_row_58 ?_
          refine v_bipush (n := 8) ok rfl dX10_row_61 ?_
          refine v_bipush (n := 12) ok rfl dX10_row_63 ?_
          refine v_iload_n ok 2 dX10_row_65 rfl rfl ?_
          refine v_callS (na := 4) ok (ct_X10_most z.2.1 g M 79 90 8 12 w 999 (by decide) rfl (by decide) (by omega) (by exact hw.2.1) (by decide)) gX10_row_X10_most rfl (by decide +kernel) rfl (by decide) [] rfl (Nat.le_of_ble_eq_true rfl) dX10_row_66 (fun v33 M34 hp32 => ?_)
          obtain ⟨rfl, eM34⟩ := hp32
          subst M34
          show V z g 3 M [(0, rf g 78), (1, iv s), (2, iv w)] [iv (msr w (shf ((M 79)) 8) (12 : Int).toNat)] 69
          exact v_iret ok rt dX10_row_69 (Or.inr (Or.inr (Or.inl (⟨(congrArg (fun q : Int => some (iv q)) (show (msr w (shf ((M 79)) 8) (12 : Int).toNat) = (msr w (tdW (M 79)) 12) from by rfl)), rfl, (by omega), (by omega)⟩))))
      · skip
        refine v_aload_n ok 0 dX10_row_40 rfl rfl ?_
        refine v_get (T := TX10) (N := 22) (f0 := (M 78)) (v := rf g 79) ok mi_X10_row_10 (kd_lt (show kd 78 = 10 from rfl) (by decide)) rfl rfl (cellF_10 _ (by decide)) 0 (by decide) mk_X10_row_11 rfl rfl dX10_row_41 ?_
        refine v_iconst (n := 0) ok dX10_row_44 ?_
        refine v_bipush (n := 8) ok rfl dX10_row_45 ?_
        refine v_iload_n ok 2 dX10_row_47 rfl rfl ?_
        refine v_callS (na := 4) ok (ct_X10_most z.2.1 g M 79 90 0 8 w 20 (by decide) rfl (by decide) (by omega) (by rw [shf_0]; exact hw.1) (by decide)) gX10_row_X10_most rfl (by decide +kernel) rfl (by decide) [] rfl (Nat.le_of_ble_eq_true rfl) dX10_row_48 (fun v36 M37 hp35 => ?_)
        obtain ⟨rfl, eM37⟩ := hp35
        subst M37
        show V z g 3 M [(0, rf g 78), (1, iv s), (2, iv w)] [iv (msr w (shf ((M 79)) 0) (8 : Int).toNat)] 51
        exact v_iret ok rt dX10_row_51 (Or.inr (Or.inl (⟨(congrArg (fun q : Int => some (iv q)) (show (msr w (shf ((M 79)) 0) (8 : Int).toNat) = (msr w (M 79) 8) from by (rw [shf_0]; rfl))), rfl, (by omega), (by omega)⟩)))
    · skip
      subst M9
      show V z g 3 M [(0, rf g 78), (1, iv s), (2, iv w)] [iv 0] 31
      refine v_if_ne (tgt := 36) ok (by decide) dX10_row_31 (by decide) (fun c38 => absurd c38 (by decide)) (fun c38 => ?_)
      refine v_iconst (n := -1) ok dX10_row_34 ?_
      exact v_iret ok rt dX10_row_35 (Or.inl (⟨rfl, rfl, (by omega)⟩))
  · skip
    subst M3
    show V z g 3 M [(0, rf g 78), (1, iv s), (2, iv w)] [iv 0] 9
    refine v_if_ne (tgt := 22) ok (by decide) dX10_row_9 (by decide) (fun c39 => absurd c39 (by decide)) (fun c39 => ?_)
    refine v_aload_n ok 0 dX10_row_12 rfl rfl ?_
    refine v_iload_n ok 1 dX10_row_13 rfl rfl ?_
    refine v_iconst (n := 3) ok dX10_row_14 ?_
    refine v_isub ok dX10_row_15 ?_
    rw [show (iv (s - 3) : Value) = iv (Int.bmod (s - 3) 4294967296) from congrArg Value.int (iI_wrap _)]
    have hbw := bm_3 hs
    refine v_callV (na := 1) (i := 78) (C := RX10) (T := TX10) (N := 22) (f0 := (M 78)) ok (ct_X10_isBasin z.2.1 g M (Int.bmod (s - 3) 4294967296) ⟨by omega, by omega⟩ (by first | omega | assumption)) gX10_row_X10_isBasin (kd_lt (show kd 78 = 10 from rfl) (by decide)) rfl rfl (cellF_10 _ (by decide)) rfl (by decide +kernel) rfl (by decide) [] rfl (Nat.le_of_ble_eq_true rfl) dX10_row_16 (fun v41 M42 hp40 => ?_)
    rcases hp40 with ⟨rfl, eM42, h43⟩ | ⟨rfl, eM42, h44⟩
    · skip
      subst M42
      have h43 : 0 ≤ (Int.bmod (s - 3) 4294967296) ∧ (Int.bmod (s - 3) 4294967296) < (M 79) 20 := h43
      show V z g 3 M [(0, rf g 78), (1, iv s), (2, iv w)] [iv 1] 19
      refine v_if_eq (tgt := 34) ok (by decide) dX10_row_19 (by decide) (fun c45 => absurd c45 (by decide)) (fun c45 => ?_)
      refine v_iload_n ok 2 dX10_row_22 rfl rfl ?_
      refine v_i2l ok ⟨by omega, by omega⟩ dX10_row_23 ?_
      refine v_lconst (n := 0) ok rfl dX10_row_24 ?_
      refine v_ldc2 (n := 2) ok mk_X10_row_191 rfl dX10_row_25 ?_
      refine v_callS (na := 3) ok (ct_X10_in z.2.1 g M w 0 2 ⟨by omega, by omega⟩ (by decide) (by decide)) gX10_row_X10_in rfl (by decide +kernel) rfl (by decide) [] rfl (Nat.le_of_ble_eq_true rfl) dX10_row_28 (fun v47 M48 hp46 => ?_)
      rcases hp46 with ⟨rfl, eM48, h49⟩ | ⟨rfl, eM48, h50⟩
      · skip
        subst M48
        show V z g 3 M [(0, rf g 78), (1, iv s), (2, iv w)] [iv 1] 31
        refine v_if_ne (tgt := 36) ok (by decide) dX10_row_31 (by decide) (fun c51 => ?_) (fun c51 => absurd c51 (by decide))
        refine v_iload_n ok 1 dX10_row_36 rfl rfl ?_
        refine v_if_ne (tgt := 52) ok ⟨by omega, by omega⟩ dX10_row_37 (by decide) (fun c52 => ?_) (fun c52 => ?_)
        · skip
          refine v_iload_n ok 1 dX10_row_52 rfl rfl ?_
          refine v_iconst (n := 1) ok dX10_row_53 ?_
          refine v_icmp_ne (tgt := 70) ok ⟨by omega, by omega⟩ (by decide) dX10_row_54 (by decide) (fun c53 => ?_) (fun c53 => ?_)
          · skip
            refine v_iload_n ok 1 dX10_row_70 rfl rfl ?_
            refine v_iconst (n := 2) ok dX10_row_71 ?_
            refine v_icmp_ne (tgt := 91) ok ⟨by omega, by omega⟩ (by decide) dX10_row_72 (by decide) (fun c54 => ?_) (fun c54 => ?_)
            · skip
              have hbo := hw.2.2.2.1 (s - 3) (by omega) (by omega)
              have hA := hbo.1
              have hK := hbo.2.2.1
              have hN := hbo.2.2.2.1
              have hP := hbo.2.2.2.2
              refine v_aload_n ok 0 dX10_row_91 rfl rfl ?_
              refine v_iload_n ok 1 dX10_row_92 rfl rfl ?_
              refine v_iconst (n := 3) ok dX10_row_93 ?_
              refine v_isub ok dX10_row_94 ?_
              refine v_callV (na := 1) (i := 78) (C := RX10) (T := TX10) (N := 22) (f0 := (M 78)) ok (ct_X10_goes z.2.1 g M (s - 3) (by omega) hw) gX10_row_X10_goes (kd_lt (show kd 78 = 10 from rfl) (by decide)) rfl rfl (cellF_10 _ (by decide)) rfl (by decide +kernel) rfl (by decide) [] rfl (Nat.le_of_ble_eq_true rfl) dX10_row_95 (fun v56 M57 hp55 => ?_)
              obtain ⟨rfl, rfl⟩ := hp55
              show V z g 3 (up1 (up1 (up1 M 84 (fl ((M 79)) (bsA ((M 79)) (s - 3)) 8)) 78 (up ((M 78)) 13 (sto (bsK ((M 79)) (s - 3)) (bsN ((M 79)) (s - 3)) (fl ((M 79)) (bsA ((M 79)) (s - 3)) 8) 30))) 85 (otp (bsK ((M 79)) (s - 3)) (bsN ((M 79)) (s - 3)) (fl ((M 79)) (bsA ((M 79)) (s - 3)) 8))) [(0, rf g 78), (1, iv s), (2, iv w)] [] 98
              refine v_aload_n ok 0 dX10_row_98 rfl rfl ?_
              refine v_get (T := TX10) (N := 22) (f0 := (up ((M 78)) 13 (sto (bsK ((M 79)) (s - 3)) (bsN ((M 79)) (s - 3)) (fl ((M 79)) (bsA ((M 79)) (s - 3)) 8) 30))) (v := rf g 85) ok mi_X10_row_10 (kd_lt (show kd 78 = 10 from rfl) (by decide)) rfl rfl (cellF_10 _ (by decide)) 11 (by decide) mk_X10_row_30 rfl rfl dX10_row_99 ?_
              refine v_iconst (n := 0) ok dX10_row_102 ?_
              refine v_bipush (n := 30) ok rfl dX10_row_103 ?_
              refine v_iload_n ok 2 dX10_row_105 rfl rfl ?_
              refine v_callS (na := 4) ok (ct_X10_most z.2.1 g (up1 (up1 (up1 M 84 (fl ((M 79)) (bsA ((M 79)) (s - 3)) 8)) 78 (up ((M 78)) 13 (sto (bsK ((M 79)) (s - 3)) (bsN ((M 79)) (s - 3)) (fl ((M 79)) (bsA ((M 79)) (s - 3)) 8) 30))) 85 (otp (bsK ((M 79)) (s - 3)) (bsN ((M 79)) (s - 3)) (fl ((M 79)) (bsA ((M 79)) (s - 3)) 8))) 85 30 0 30 w 43200 (by decide) rfl (by decide) (by omega) (by rw [shf_0]; exact otp_rng hN.1 (fl_rng hw.1 hA 30)) (by decide)) gX10_row_X10_most rfl (by decide +kernel) rfl (by decide) [] rfl (Nat.le_of_ble_eq_true rfl) dX10_row_106 (fun v59 M60 hp58 => ?_)
              obtain ⟨rfl, rfl⟩ := hp58
              show V z g 3 (up1 (up1 (up1 M 84 (fl ((M 79)) (bsA ((M 79)) (s - 3)) 8)) 78 (up ((M 78)) 13 (sto (bsK ((M 79)) (s - 3)) (bsN ((M 79)) (s - 3)) (fl ((M 79)) (bsA ((M 79)) (s - 3)) 8) 30))) 85 (otp (bsK ((M 79)) (s - 3)) (bsN ((M 79)) (s - 3)) (fl ((M 79)) (bsA ((M 79)) (s - 3)) 8))) [(0, rf g 78), (1, iv s), (2, iv w)] [iv (msr w (shf ((otp (bsK ((M 79)) (s - 3)) (bsN ((M 79)) (s - 3)) (fl ((M 79)) (bsA ((M 79)) (s - 3)) 8))) 0) (30 : Int).toNat)] 109
              exact v_iret ok rt dX10_row_109 (Or.inr (Or.inr (Or.inr (Or.inr (⟨(congrArg (fun q : Int => some (iv q)) (show (msr w (shf ((otp (bsK ((M 79)) (s - 3)) (bsN ((M 79)) (s - 3)) (fl ((M 79)) (bsA ((M 79)) (s - 3)) 8))) 0) (30 : Int).toNat) = (msr w (otp (bsK (M 79) (s - 3)) (bsN (M 79) (s - 3)) (fl (M 79) (bsA (M 79) (s - 3)) 8)) 30) from by (rw [shf_0]; rfl))), rfl, (by omega), (by omega)⟩)))))
            · skip
              refine v_aload_n ok 0 dX10_row_75 rfl rfl ?_
              refine v_callV (na := 0) (i := 78) (C := RX10) (T := TX10) (N := 22) (f0 := (M 78)) ok (ct_X10_joins z.2.1 g M  (by first | omega | assumption)) gX10_row_X10_joins (kd_lt (show kd 78 = 10 from rfl) (by decide)) rfl rfl (cellF_10 _ (by decide)) rfl (by decide +kernel) rfl (by decide) [] rfl (Nat.le_of_ble_eq_true rfl) dX10_row_76 (fun v62 M63 hp61 => ?_)
              obtain ⟨F64, O65, C66, rfl, rfl, h67⟩ := hp61
              have h67 : ∀ j : Int, j ≠ 13 → C66 j = (M 78) j := h67
              show V z g 3 (up1 (up1 (up1 (up1 M 84 F64) 85 O65) 78 C66) 86 (jnW ((M 79)))) [(0, rf g 78), (1, iv s), (2, iv w)] [] 79
              have hC := h67
              refine v_aload_n ok 0 dX10_row_79 rfl rfl ?_
              refine v_get (T := TX10) (N := 22) (f0 := C66) (v := rf g 86) ok mi_X10_row_10 (kd_lt (show kd 78 = 10 from rfl) (by decide)) rfl rfl (cellF_10 _ (by decide)) 12 (by decide) mk_X10_row_33 rfl rfl dX10_row_80 ?_
              refine v_iconst (n := 0) ok dX10_row_83 ?_
              refine v_bipush (n := 30) ok rfl dX10_row_84 ?_
              refine v_iload_n ok 2 dX10_row_86 rfl rfl ?_
              refine v_callS (na := 4) ok (ct_X10_most z.2.1 g (up1 (up1 (up1 (up1 M 84 F64) 85 O65) 78 C66) 86 (jnW ((M 79)))) 86 30 0 30 w 129600 (by decide) rfl (by decide) (by omega) (by rw [shf_0]; exact jnW_rng hw) (by decide)) gX10_row_X10_most rfl (by decide +kernel) rfl (by decide) [] rfl (Nat.le_of_ble_eq_true rfl) dX10_row_87 (fun v69 M70 hp68 => ?_)
              obtain ⟨rfl, rfl⟩ := hp68
              show V z g 3 (up1 (up1 (up1 (up1 M 84 F64) 85 O65) 78 C66) 86 (jnW ((M 79)))) [(0, rf g 78), (1, iv s), (2, iv w)] [iv (msr w (shf ((jnW ((M 79)))) 0) (30 : Int).toNat)] 90
              exact v_iret ok rt dX10_row_90 (Or.inr (Or.inr (Or.inr (Or.inl (⟨F64, O65, C66, (congrArg (fun q : Int => some (iv q)) (show (msr w (shf ((jnW ((M 79)))) 0) (30 : Int).toNat) = (msr w (jnW (M 79)) 30) from by (rw [shf_0]; rfl))), rfl, (by omega), (by omega), hC⟩)))))
          · skip
            refine v_aload_n ok 0 dX10_row_57 rfl rfl ?_
            refine v_get (T := TX10) (N := 22) (f0 := (M 78)) (v := rf g 79) ok mi_X10_row_10 (kd_lt (show kd 78 = 10 from rfl) (by decide)) rfl rfl (cellF_10 _ (by decide)) 0 (by decide) mk_X10_row_11 rfl rfl dX10_row_58 ?_
            refine v_bipush (n := 8) ok rfl dX10_row_61 ?_
            refine v_bipush (n := 12) ok rfl dX10_row_63 ?_
            refine v_iload_n ok 2 dX10_row_65 rfl rfl ?_
            refine v_callS (na := 4) ok (ct_X10_most z.2.1 g M 79 90 8 12 w 999 (by decide) rfl (by decide) (by omega) (by exact hw.2.1) (by decide)) gX10_row_X10_most rfl (by decide +kernel) rfl (by decide) [] rfl (Nat.le_of_ble_eq_true rfl) dX10_row_66 (fun v72 M73 hp71 => ?_)
            obtain ⟨rfl, eM73⟩ := hp71
            subst M73
            show V z g 3 M [(0, rf g 78), (1, iv s), (2, iv w)] [iv (msr w (shf ((M 79)) 8) (12 : Int).toNat)] 69
            exact v_iret ok rt dX10_row_69 (Or.inr (Or.inr (Or.inl (⟨(congrArg (fun q : Int => some (iv q)) (show (msr w (shf ((M 79)) 8) (12 : Int).toNat) = (msr w (tdW (M 79)) 12) from by rfl)), rfl, (by omega), (by omega)⟩))))
        · skip
          refine v_aload_n ok 0 dX10_row_40 rfl rfl ?_
          refine v_get (T := TX10) (N := 22) (f0 := (M 78)) (v := rf g 79) ok mi_X10_row_10 (kd_lt (show kd 78 = 10 from rfl) (by decide)) rfl rfl (cellF_10 _ (by decide)) 0 (by decide) mk_X10_row_11 rfl rfl dX10_row_41 ?_
          refine v_iconst (n := 0) ok dX10_row_44 ?_
          refine v_bipush (n := 8) ok rfl dX10_row_45 ?_
          refine v_iload_n ok 2 dX10_row_47 rfl rfl ?_
          refine v_callS (na := 4) ok (ct_X10_most z.2.1 g M 79 90 0 8 w 20 (by decide) rfl (by decide) (by omega) (by rw [shf_0]; exact hw.1) (by decide)) gX10_row_X10_most rfl (by decide +kernel) rfl (by decide) [] rfl (Nat.le_of_ble_eq_true rfl) dX10_row_48 (fun v75 M76 hp74 => ?_)
          obtain ⟨rfl, eM76⟩ := hp74
          subst M76
          show V z g 3 M [(0, rf g 78), (1, iv s), (2, iv w)] [iv (msr w (shf ((M 79)) 0) (8 : Int).toNat)] 51
          exact v_iret ok rt dX10_row_51 (Or.inr (Or.inl (⟨(congrArg (fun q : Int => some (iv q)) (show (msr w (shf ((M 79)) 0) (8 : Int).toNat) = (msr w (M 79) 8) from by (rw [shf_0]; rfl))), rfl, (by omega), (by omega)⟩)))
      · skip
        subst M48
        show V z g 3 M [(0, rf g 78), (1, iv s), (2, iv w)] [iv 0] 31
        refine v_if_ne (tgt := 36) ok (by decide) dX10_row_31 (by decide) (fun c77 => absurd c77 (by decide)) (fun c77 => ?_)
        refine v_iconst (n := -1) ok dX10_row_34 ?_
        exact v_iret ok rt dX10_row_35 (Or.inl (⟨rfl, rfl, (by omega)⟩))
    · skip
      subst M42
      have h44 : ¬ (0 ≤ (Int.bmod (s - 3) 4294967296) ∧ (Int.bmod (s - 3) 4294967296) < (M 79) 20) := h44
      show V z g 3 M [(0, rf g 78), (1, iv s), (2, iv w)] [iv 0] 19
      refine v_if_eq (tgt := 34) ok (by decide) dX10_row_19 (by decide) (fun c78 => ?_) (fun c78 => absurd c78 (by decide))
      refine v_iconst (n := -1) ok dX10_row_34 ?_
      exact v_iret ok rt dX10_row_35 (Or.inl (⟨rfl, rfl, (by omega)⟩))

theorem mk_X10_basins_11 : Cond.fieldLink RX10 11 "StormRunoffModel" "w" "[I" ∈ wsX10_basins := by decide +kernel
theorem mi_X10_basins_10 : ∀ w ∈ wsX100, w ∈ wsX10_basins := by decide +kernel
set_option maxRecDepth 100000 in
set_option maxHeartbeats 400000 in
theorem ct_X10_basins (l : Launch) (g : Gl) (M : Mem)   : Ct l g yX10_basins wsX10_basins 0 0 [rf g 78] M (fun rv M' => rv = some (iv (M 79 20)) ∧ M' = M) := by
  refine Ct.of (cc := cX10_basins) (nL := 1) (ret := (some .int)) (by decide) rfl (Nat.le_of_ble_eq_true rfl) (fun z hz ok rt => ?_)
  have ok : Ok z g cX10_basins 1 RX10 wsX10_basins 0 0 := ok
  show V z g 1 M [(0, rf g 78)] [] 0
  refine v_aload_n ok 0 dX10_basins_0 rfl rfl ?_
  refine v_get (T := TX10) (N := 22) (f0 := (M 78)) (v := rf g 79) ok mi_X10_basins_10 (kd_lt (show kd 78 = 10 from rfl) (by decide)) rfl rfl (cellF_10 _ (by decide)) 0 (by decide) mk_X10_basins_11 rfl rfl dX10_basins_1 ?_
  refine v_bipush (n := 20) ok rfl dX10_basins_4 ?_
  refine v_iald (n := 90) (f0 := (M 79)) ok (by decide) rfl (by omega) rfl dX10_basins_6 ?_
  exact v_iret ok rt dX10_basins_7 (⟨rfl, rfl⟩)
