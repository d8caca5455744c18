theorem mk_X5_sign_19 : Cond.fieldLink RX5 19 "StormRunoff$SetUp" "at" "I" ∈ wsX5_sign := by decide +kernel
theorem mi_X5_sign_5 : ∀ w ∈ wsX50, w ∈ wsX5_sign := by decide +kernel
theorem mk_X5_sign_15 : Cond.fieldLink RX5 15 "StormRunoff$SetUp" "length" "I" ∈ wsX5_sign := by decide +kernel
theorem mk_X5_sign_9 : Cond.fieldLink RX5 9 "StormRunoff$SetUp" "signs" "[I" ∈ wsX5_sign := by decide +kernel
set_option maxRecDepth 100000 in
set_option maxHeartbeats 400000 in
theorem ct_X5_sign (l : Launch) (g : Gl) (M : Mem)  (hL : 0 ≤ M 62 1 ∧ M 62 1 ≤ 100) (hA : 0 ≤ M 62 2 ∧ M 62 2 ≤ 1000) (hG : bdf (M 63) 100 0 127) : Ct l g yX5_sign wsX5_sign 0 0 [rf g 62] M (fun rv M' => rv = some (iv (sgn (M 63) (M 62 1) (M 62 2))) ∧ M' = M ∧ (-1 ≤ (sgn (M 63) (M 62 1) (M 62 2)) ∧ (sgn (M 63) (M 62 1) (M 62 2)) ≤ 127)) := by
  refine Ct.of (cc := cX5_sign) (nL := 1) (ret := (some .int)) (by decide) rfl (Nat.le_of_ble_eq_true rfl) (fun z hz ok rt => ?_)
  have ok : Ok z g cX5_sign 1 RX5 wsX5_sign 0 0 := ok
  show V z g 1 M [(0, rf g 62)] [] 0
  refine v_aload_n ok 0 dX5_sign_0 rfl rfl ?_
  refine v_get (T := TX5) (N := 6) (f0 := (M 62)) (v := iv (M 62 2)) ok mi_X5_sign_5 (kd_lt (show kd 62 = 5 from rfl) (by decide)) rfl rfl (cellF_5 _ (by decide)) 2 (by decide) mk_X5_sign_19 rfl rfl dX5_sign_1 ?_
  refine v_if_lt (tgt := 42) ok ⟨by omega, by omega⟩ dX5_sign_4 (by decide) (fun c1 => absurd c1 (by omega)) (fun c1 => ?_)
  refine v_aload_n ok 0 dX5_sign_7 rfl rfl ?_
  refine v_get (T := TX5) (N := 6) (f0 := (M 62)) (v := iv (M 62 2)) ok mi_X5_sign_5 (kd_lt (show kd 62 = 5 from rfl) (by decide)) rfl rfl (cellF_5 _ (by decide)) 2 (by decide) mk_X5_sign_19 rfl rfl dX5_sign_8 ?_
  refine v_aload_n ok 0 dX5_sign_11 rfl rfl ?_
  refine v_get (T := TX5) (N := 6) (f0 := (M 62)) (v := iv (M 62 1)) ok mi_X5_sign_5 (kd_lt (show kd 62 = 5 from rfl) (by decide)) rfl rfl (cellF_5 _ (by decide)) 1 (by decide) mk_X5_sign_15 rfl rfl dX5_sign_12 ?_
  refine v_icmp_ge (tgt := 42) ok ⟨by omega, by omega⟩ ⟨by omega, by omega⟩ dX5_sign_15 (by decide) (fun c2 => ?_) (fun c2 => ?_)
  · skip
    refine v_iconst (n := -1) ok dX5_sign_42 ?_
    exact v_iret ok rt dX5_sign_43 (⟨(congrArg (fun q : Int => some (iv q)) (show (-1) = (sgn (M 63) (M 62 1) (M 62 2)) from by first | (unfold sgn; rw [if_pos (by omega)]) | (unfold sgn; rw [if_neg (by omega)]))), rfl, (by unfold sgn; first | (rw [if_pos (by omega)]; omega) | (rw [if_neg (by omega)]; omega))⟩)
  · skip
    refine v_aload_n ok 0 dX5_sign_18 rfl rfl ?_
    refine v_get (T := TX5) (N := 6) (f0 := (M 62)) (v := iv (M 62 2)) ok mi_X5_sign_5 (kd_lt (show kd 62 = 5 from rfl) (by decide)) rfl rfl (cellF_5 _ (by decide)) 2 (by decide) mk_X5_sign_19 rfl rfl dX5_sign_19 ?_
    refine v_aload_n ok 0 dX5_sign_22 rfl rfl ?_
    refine v_get (T := TX5) (N := 6) (f0 := (M 62)) (v := rf g 63) ok mi_X5_sign_5 (kd_lt (show kd 62 = 5 from rfl) (by decide)) rfl rfl (cellF_5 _ (by decide)) 0 (by decide) mk_X5_sign_9 rfl rfl dX5_sign_23 ?_
    refine v_alen (n := 100) ok (Or.inl (by decide)) rfl dX5_sign_26 ?_
    refine v_icmp_ge (tgt := 42) ok ⟨by omega, by omega⟩ (by decide) dX5_sign_27 (by decide) (fun c3 => absurd c3 (by omega)) (fun c3 => ?_)
    refine v_aload_n ok 0 dX5_sign_30 rfl rfl ?_
    refine v_get (T := TX5) (N := 6) (f0 := (M 62)) (v := rf g 63) ok mi_X5_sign_5 (kd_lt (show kd 62 = 5 from rfl) (by decide)) rfl rfl (cellF_5 _ (by decide)) 0 (by decide) mk_X5_sign_9 rfl rfl dX5_sign_31 ?_
    refine v_aload_n ok 0 dX5_sign_34 rfl rfl ?_
    refine v_get (T := TX5) (N := 6) (f0 := (M 62)) (v := iv (M 62 2)) ok mi_X5_sign_5 (kd_lt (show kd 62 = 5 from rfl) (by decide)) rfl rfl (cellF_5 _ (by decide)) 2 (by decide) mk_X5_sign_19 rfl rfl dX5_sign_35 ?_
    refine v_iald (n := 100) (f0 := (M 63)) ok (by decide) rfl (by omega) rfl dX5_sign_38 ?_
    have b4 := hG (M 62 2) (by omega) (by omega)
    refine v_goto (tgt := 43) ok dX5_sign_39 (by decide) ?_
    exact v_iret ok rt dX5_sign_43 (⟨(congrArg (fun q : Int => some (iv q)) (show (M 63 (M 62 2)) = (sgn (M 63) (M 62 1) (M 62 2)) from by first | (unfold sgn; rw [if_pos (by omega)]) | (unfold sgn; rw [if_neg (by omega)]))), rfl, (by unfold sgn; first | (rw [if_pos (by omega)]; omega) | (rw [if_neg (by omega)]; omega))⟩)

theorem mk_X5_stepOver_19 : Cond.fieldLink RX5 19 "StormRunoff$SetUp" "at" "I" ∈ wsX5_stepOver := by decide +kernel
theorem mi_X5_stepOver_5 : ∀ w ∈ wsX50, w ∈ wsX5_stepOver := by decide +kernel
set_option maxRecDepth 100000 in
set_option maxHeartbeats 400000 in
theorem ct_X5_stepOver (l : Launch) (g : Gl) (M : Mem) (c : Int) (hL : 0 ≤ M 62 1 ∧ M 62 1 ≤ 100) (hA : 0 ≤ M 62 2 ∧ M 62 2 ≤ 1000) (hG : bdf (M 63) 100 0 127) (hc : i32 c) : Ct l g yX5_stepOver wsX5_stepOver 1 20 [rf g 62, iv c] M (fun rv M' => (rv = some (iv 0) ∧ M' = M ∧ ((sgn (M 63) (M 62 1) (M 62 2)) ≠ c)) ∨ (rv = some (iv 1) ∧ M' = (up1 M 62 (up (M 62) 2 (M 62 2 + 1))) ∧ ((sgn (M 63) (M 62 1) (M 62 2)) = c))) := by
  refine Ct.of (cc := cX5_stepOver) (nL := 2) (ret := (some .boolean)) (by decide) rfl (Nat.le_of_ble_eq_true rfl) (fun z hz ok rt => ?_)
  have ok : Ok z g cX5_stepOver 2 RX5 wsX5_stepOver 1 20 := ok
  show V z g 2 M [(0, rf g 62), (1, iv c)] [] 0
  refine v_aload_n ok 0 dX5_stepOver_0 rfl rfl ?_
  refine v_callV (na := 0) (i := 62) (C := RX5) (T := TX5) (N := 6) (f0 := (M 62)) ok (ct_X5_sign z.2.1 g M  (by first | omega | assumption) (by first | omega | assumption) (by first | omega | assumption)) gX5_stepOver_X5_sign (kd_lt (show kd 62 = 5 from rfl) (by decide)) rfl rfl (cellF_5 _ (by decide)) rfl (by decide +kernel) rfl (by decide) [] rfl (Nat.le_of_ble_eq_true rfl) dX5_stepOver_1 (fun v2 M3 hp1 => ?_)
  obtain ⟨rfl, eM3, h4⟩ := hp1
  subst M3
  have h4 : -1 ≤ (sgn ((M 63)) ((M 62) 1) ((M 62) 2)) ∧ (sgn ((M 63)) ((M 62) 1) ((M 62) 2)) ≤ 127 := h4
  show V z g 2 M [(0, rf g 62), (1, iv c)] [iv (sgn ((M 63)) ((M 62) 1) ((M 62) 2))] 4
  refine v_iload_n ok 1 dX5_stepOver_4 rfl rfl ?_
  refine v_icmp_eq (tgt := 10) ok ⟨by omega, by omega⟩ ⟨by omega, by omega⟩ dX5_stepOver_5 (by decide) (fun c5 => ?_) (fun c5 => ?_)
  · skip
    refine v_aload_n ok 0 dX5_stepOver_10 rfl rfl ?_
    refine v_dup ok rfl dX5_stepOver_11 ?_
    refine v_get (T := TX5) (N := 6) (f0 := (M 62)) (v := iv (M 62 2)) ok mi_X5_stepOver_5 (kd_lt (show kd 62 = 5 from rfl) (by decide)) rfl rfl (cellF_5 _ (by decide)) 2 (by decide) mk_X5_stepOver_19 rfl rfl dX5_stepOver_12 ?_
    refine v_iconst (n := 1) ok dX5_stepOver_15 ?_
    refine v_iadd ok dX5_stepOver_16 ?_
    refine v_put (T := TX5) (N := 6) (f0 := (M 62)) (f' := up (M 62) 2 ((M 62 2) + 1)) (ty := .int) ok mi_X5_stepOver_5 (kd_lt (show kd 62 = 5 from rfl) (by decide)) rfl rfl (cellF_5 _ (by decide)) tyX5 tyX5_ok nmX5 2 (by decide) mk_X5_stepOver_19 rfl rfl (by decide +kernel) rfl rfl (Nat.le_of_ble_eq_true rfl) ((cellF_5 _ (by decide)).trans rfl) dX5_stepOver_17 ?_
    refine v_iconst (n := 1) ok dX5_stepOver_20 ?_
    exact v_zret ok rt (by omega) dX5_stepOver_21 (Or.inr (⟨rfl, (by
          funext j
          by_cases hj0 : j = 62
          · subst hj0; simp [up1, up1_self]
          simp [up1, hj0]), (by omega)⟩))
  · skip
    refine v_iconst (n := 0) ok dX5_stepOver_8 ?_
    exact v_zret ok rt (by omega) dX5_stepOver_9 (Or.inl (⟨rfl, rfl, (by omega)⟩))

theorem mk_X5_begin_19 : Cond.fieldLink RX5 19 "StormRunoff$SetUp" "at" "I" ∈ wsX5_begin := by decide +kernel
theorem mi_X5_begin_5 : ∀ w ∈ wsX50, w ∈ wsX5_begin := by decide +kernel
set_option maxRecDepth 100000 in
set_option maxHeartbeats 400000 in
theorem ct_X5_begin (l : Launch) (g : Gl) (M : Mem)   : Ct l g yX5_begin wsX5_begin 0 0 [rf g 62] M (fun rv M' => rv = none ∧ M' = (up1 M 62 (up (M 62) 2 0))) := by
  refine Ct.of (cc := cX5_begin) (nL := 1) (ret := none) (by decide) rfl (Nat.le_of_ble_eq_true rfl) (fun z hz ok rt => ?_)
  have ok : Ok z g cX5_begin 1 RX5 wsX5_begin 0 0 := ok
  show V z g 1 M [(0, rf g 62)] [] 0
  refine v_aload_n ok 0 dX5_begin_0 rfl rfl ?_
  refine v_iconst (n := 0) ok dX5_begin_1 ?_
  refine v_put (T := TX5) (N := 6) (f0 := (M 62)) (f' := up (M 62) 2 0) (ty := .int) ok mi_X5_begin_5 (kd_lt (show kd 62 = 5 from rfl) (by decide)) rfl rfl (cellF_5 _ (by decide)) tyX5 tyX5_ok nmX5 2 (by decide) mk_X5_begin_19 rfl rfl (by decide +kernel) rfl rfl (Nat.le_of_ble_eq_true rfl) ((cellF_5 _ (by decide)).trans rfl) dX5_begin_2 ?_
  exact v_vret ok rt dX5_begin_5 (⟨rfl, rfl⟩)

theorem mk_X5_addSign_15 : Cond.fieldLink RX5 15 "StormRunoff$SetUp" "length" "I" ∈ wsX5_addSign := by decide +kernel
theorem mi_X5_addSign_5 : ∀ w ∈ wsX50, w ∈ wsX5_addSign := by decide +kernel
theorem mk_X5_addSign_9 : Cond.fieldLink RX5 9 "StormRunoff$SetUp" "signs" "[I" ∈ wsX5_addSign := by decide +kernel
theorem ms_X5_addSign_X9_between : Cond.static yX9_between ∈ wsX5_addSign := by decide +kernel
theorem mn_X5_addSign_X9_between : Cond.initialized yX9_between.cls ∈ wsX5_addSign := by decide +kernel
theorem mq_X5_addSign_X9_between : (RX5, 31, yX9_between) ∈ nestW := by decide +kernel
set_option maxRecDepth 100000 in
set_option maxHeartbeats 400000 in
theorem ct_X5_addSign (l : Launch) (g : Gl) (M : Mem) (c : Int) (hL : 0 ≤ M 62 1 ∧ M 62 1 ≤ 100) : Ct l g yX5_addSign wsX5_addSign 1 22 [rf g 62, iv c] M (fun rv M' => (rv = some (iv 0) ∧ M' = M ∧ (M 62 1 = 100)) ∨ (rv = some (iv 1) ∧ M' = (up1 (up1 M 63 (up (M 63) (M 62 1) c)) 62 (up (M 62) 1 (M 62 1 + 1))) ∧ (M 62 1 < 100))) := by
  refine Ct.of (cc := cX5_addSign) (nL := 2) (ret := (some .boolean)) (by decide) rfl (Nat.le_of_ble_eq_true rfl) (fun z hz ok rt => ?_)
  have ok : Ok z g cX5_addSign 2 RX5 wsX5_addSign 1 22 := ok
  show V z g 2 M [(0, rf g 62), (1, iv c)] [] 0
  refine v_aload_n ok 0 dX5_addSign_0 rfl rfl ?_
  refine v_get (T := TX5) (N := 6) (f0 := (M 62)) (v := iv (M 62 1)) ok mi_X5_addSign_5 (kd_lt (show kd 62 = 5 from rfl) (by decide)) rfl rfl (cellF_5 _ (by decide)) 1 (by decide) mk_X5_addSign_15 rfl rfl dX5_addSign_1 ?_
  refine v_iconst (n := 0) ok dX5_addSign_4 ?_
  refine v_aload_n ok 0 dX5_addSign_5 rfl rfl ?_
  refine v_get (T := TX5) (N := 6) (f0 := (M 62)) (v := rf g 63) ok mi_X5_addSign_5 (kd_lt (show kd 62 = 5 from rfl) (by decide)) rfl rfl (cellF_5 _ (by decide)) 0 (by decide) mk_X5_addSign_9 rfl rfl dX5_addSign_6 ?_
  refine v_alen (n := 100) ok (Or.inl (by decide)) rfl dX5_addSign_9 ?_
  refine v_iconst (n := 1) ok dX5_addSign_10 ?_
  refine v_isub ok dX5_addSign_11 ?_
  show V z g 2 M [(0, rf g 62), (1, iv c)] [iv 99, iv 0, iv (M 62 1)] 12
  refine v_callN (na := 3) ok (ct_X9_between z.2.1 g M (M 62 1) 0 99 ⟨by omega, by omega⟩ (by decide) (by decide)) gX5_addSign_X9_between_n31 mq_X5_addSign_X9_between ms_X5_addSign_X9_between mn_X5_addSign_X9_between rfl (by decide +kernel) rfl (by decide) [] rfl (Nat.le_of_ble_eq_true rfl) dX5_addSign_12 (fun v2 M3 hp1 => ?_)
  rcases hp1 with ⟨rfl, eM3, h4⟩ | ⟨rfl, eM3, h5⟩
  · skip
    subst M3
    show V z g 2 M [(0, rf g 62), (1, iv c)] [iv 1] 15
    refine v_if_ne (tgt := 20) ok (by decide) dX5_addSign_15 (by decide) (fun c6 => ?_) (fun c6 => absurd c6 (by decide))
    refine v_aload_n ok 0 dX5_addSign_20 rfl rfl ?_
    refine v_get (T := TX5) (N := 6) (f0 := (M 62)) (v := rf g 63) ok mi_X5_addSign_5 (kd_lt (show kd 62 = 5 from rfl) (by decide)) rfl rfl (cellF_5 _ (by decide)) 0 (by decide) mk_X5_addSign_9 rfl rfl dX5_addSign_21 ?_
    refine v_aload_n ok 0 dX5_addSign_24 rfl rfl ?_
    refine v_get (T := TX5) (N := 6) (f0 := (M 62)) (v := iv (M 62 1)) ok mi_X5_addSign_5 (kd_lt (show kd 62 = 5 from rfl) (by decide)) rfl rfl (cellF_5 _ (by decide)) 1 (by decide) mk_X5_addSign_15 rfl rfl dX5_addSign_25 ?_
    refine v_iload_n ok 1 dX5_addSign_28 rfl rfl ?_
    refine v_iast (n := 100) (f0 := (M 63)) ok (by decide) rfl (by omega) rfl dX5_addSign_29 ?_
    refine v_aload_n ok 0 dX5_addSign_30 rfl rfl ?_
    refine v_dup ok rfl dX5_addSign_31 ?_
    refine v_get (T := TX5) (N := 6) (f0 := (M 62)) (v := iv (M 62 1)) ok mi_X5_addSign_5 (kd_lt (show kd 62 = 5 from rfl) (by decide)) rfl rfl (cellF_5 _ (by decide)) 1 (by decide) mk_X5_addSign_15 rfl rfl dX5_addSign_32 ?_
    refine v_iconst (n := 1) ok dX5_addSign_35 ?_
    refine v_iadd ok dX5_addSign_36 ?_
    refine v_put (T := TX5) (N := 6) (f0 := (M 62)) (f' := up (M 62) 1 ((M 62 1) + 1)) (ty := .int) ok mi_X5_addSign_5 (kd_lt (show kd 62 = 5 from rfl) (by decide)) rfl rfl (cellF_5 _ (by decide)) tyX5 tyX5_ok nmX5 1 (by decide) mk_X5_addSign_15 rfl rfl (by decide +kernel) rfl rfl (Nat.le_of_ble_eq_true rfl) ((cellF_5 _ (by decide)).trans rfl) dX5_addSign_37 ?_
    refine v_iconst (n := 1) ok dX5_addSign_40 ?_
    exact v_zret ok rt (by omega) dX5_addSign_41 (Or.inr (⟨rfl, (by
          funext j
          by_cases hj0 : j = 63
          · subst hj0; simp [up1, up1_self]
          by_cases hj1 : j = 62
          · subst hj1; simp [up1, up1_self]
          simp [up1, hj0, hj1]), (by omega)⟩))
  · skip
    subst M3
    show V z g 2 M [(0, rf g 62), (1, iv c)] [iv 0] 15
    refine v_if_ne (tgt := 20) ok (by decide) dX5_addSign_15 (by decide) (fun c7 => absurd c7 (by decide)) (fun c7 => ?_)
    refine v_iconst (n := 0) ok dX5_addSign_18 ?_
    exact v_zret ok rt (by omega) dX5_addSign_19 (Or.inl (⟨rfl, rfl, (by omega)⟩))

theorem mk_X5_readNumber_28 : Cond.fieldLink RX5 28 "StormRunoff$SetUp" "many" "I" ∈ wsX5_readNumber := by decide +kernel
theorem mi_X5_readNumber_5 : ∀ w ∈ wsX50, w ∈ wsX5_readNumber := by decide +kernel
theorem mk_X5_readNumber_25 : Cond.fieldLink RX5 25 "StormRunoff$SetUp" "numbers" "[I" ∈ wsX5_readNumber := by decide +kernel
theorem ms_X5_readNumber_X9_between : Cond.static yX9_between ∈ wsX5_readNumber := by decide +kernel
theorem mn_X5_readNumber_X9_between : Cond.initialized yX9_between.cls ∈ wsX5_readNumber := by decide +kernel
theorem mq_X5_readNumber_X9_between : (RX5, 31, yX9_between) ∈ nestW := by decide +kernel
theorem mk_X5_readNumber_19 : Cond.fieldLink RX5 19 "StormRunoff$SetUp" "at" "I" ∈ wsX5_readNumber := by decide +kernel
set_option maxRecDepth 100000 in
set_option maxHeartbeats 400000 in
theorem ct_X5_readNumber_1 (l : Launch) (g : Gl) (M : Mem)  (hL : 0 ≤ M 62 1 ∧ M 62 1 ≤ 100) (hA : 0 ≤ M 62 2 ∧ M 62 2 ≤ 900) (hG : bdf (M 63) 100 0 127) (hm : 0 ≤ M 62 5 ∧ M 62 5 < 12) : Ct l g yX5_readNumber wsX5_readNumber 1 22 [rf g 62, iv 1] M (fun rv M' => (rv = some (iv 0) ∧ M' = (up1 M 62 (up (M 62) 2 (M 62 2 + (dgs (M 63) (M 62 1) 1 (M 62 2))))) ∧ ((dgs (M 63) (M 62 1) 1 (M 62 2)) = 0)) ∨ (rv = some (iv 1) ∧ M' = (up1 (up1 M 62 (up (up (M 62) 2 (M 62 2 + (dgs (M 63) (M 62 1) 1 (M 62 2)))) 5 (M 62 5 + 1))) 64 (up (M 64) (M 62 5) (nmv (M 63) (M 62 2) (dgs (M 63) (M 62 1) 1 (M 62 2)).toNat))) ∧ (0 < (dgs (M 63) (M 62 1) 1 (M 62 2))))) := by
  refine Ct.of (cc := cX5_readNumber) (nL := 4) (ret := (some .boolean)) (by decide) rfl (Nat.le_of_ble_eq_true rfl) (fun z hz ok rt => ?_)
  have ok : Ok z g cX5_readNumber 4 RX5 wsX5_readNumber 1 22 := ok
  show V z g 4 M [(0, rf g 62), (1, iv 1)] [] 0
  refine v_iconst (n := 0) ok dX5_readNumber_0 ?_
  refine v_istore_n ok [(2, iv 0), (0, rf g 62), (1, iv 1)] dX5_readNumber_1 rfl (by decide) rfl ?_
  refine v_iconst (n := 0) ok dX5_readNumber_2 ?_
  refine v_istore_n ok [(3, iv 0), (2, iv 0), (0, rf g 62), (1, iv 1)] dX5_readNumber_3 rfl (by decide) rfl ?_
  have lp4 : ∀ (fu : Nat) (k v : Int), (0 ≤ k ∧ k ≤ 1) → ((dgs (M 63) (M 62 1) 1 (M 62 2)) = k + dgs (M 63) (M 62 1) (1 - k).toNat (M 62 2 + k)) → (v = nmv (M 63) (M 62 2) k.toNat) → (0 ≤ v ∧ (k = 0 → v ≤ 0) ∧ (k = 1 → v ≤ 9) ∧ (k = 2 → v ≤ 99) ∧ (k = 3 → v ≤ 999)) → (1 - k).toNat < fu → V z g 4 (up1 M 62 (up (M 62) 2 (M 62 2 + k))) [(0, rf g 62), (1, iv 1), (2, iv v), (3, iv k)] [] 4 := by
    intro fu
    induction fu with
    | zero => intro k v _ _ _ _ hm; exact absurd hm (Nat.not_lt_zero _)
    | succ fu ih4 =>
      intro k v i4_0 i4_1 i4_2 i4_3 hm4
      refine v_iload_n ok 3 dX5_readNumber_4 rfl rfl ?_
      refine v_iload_n ok 1 dX5_readNumber_5 rfl rfl ?_
      refine v_icmp_ge (tgt := 52) ok ⟨by omega, by omega⟩ (by decide) dX5_readNumber_6 (by decide) (fun c1 => ?_) (fun c1 => ?_)
      · skip
        have hdk : (dgs (M 63) (M 62 1) 1 (M 62 2)) = k := by rw [i4_1, show (1 - k).toNat = 0 by omega]; simp [dgs]
        rw [show ((up1 M 62 (up (M 62) 2 (M 62 2 + k))) : Mem) = (up1 M 62 (up (M 62) 2 (M 62 2 + (dgs (M 63) (M 62 1) 1 (M 62 2))))) from (by rw [hdk])]
        refine v_iload_n ok 3 dX5_readNumber_52 rfl rfl ?_
        refine v_if_eq (tgt := 75) ok ⟨by omega, by omega⟩ dX5_readNumber_53 (by decide) (fun c2 => ?_) (fun c2 => ?_)
        · skip
          refine v_iconst (n := 0) ok dX5_readNumber_75 ?_
          exact v_zret ok rt (by omega) dX5_readNumber_76 (Or.inl (⟨rfl, rfl, (by omega)⟩))
        · skip
          refine v_aload_n ok 0 dX5_readNumber_56 rfl rfl ?_
          refine v_get (T := TX5) (N := 6) (f0 := (up (M 62) 2 (M 62 2 + (dgs (M 63) (M 62 1) 1 (M 62 2))))) (v := iv (M 62 5)) ok mi_X5_readNumber_5 (kd_lt (show kd 62 = 5 from rfl) (by decide)) rfl rfl (cellF_5 _ (by decide)) 5 (by decide) mk_X5_readNumber_28 rfl rfl dX5_readNumber_57 ?_
          refine v_if_lt (tgt := 75) ok ⟨by omega, by omega⟩ dX5_readNumber_60 (by decide) (fun c3 => absurd c3 (by omega)) (fun c3 => ?_)
          refine v_aload_n ok 0 dX5_readNumber_63 rfl rfl ?_
          refine v_get (T := TX5) (N := 6) (f0 := (up (M 62) 2 (M 62 2 + (dgs (M 63) (M 62 1) 1 (M 62 2))))) (v := iv (M 62 5)) ok mi_X5_readNumber_5 (kd_lt (show kd 62 = 5 from rfl) (by decide)) rfl rfl (cellF_5 _ (by decide)) 5 (by decide) mk_X5_readNumber_28 rfl rfl dX5_readNumber_64 ?_
          refine v_aload_n ok 0 dX5_readNumber_67 rfl rfl ?_
          refine v_get (T := TX5) (N := 6) (f0 := (up (M 62) 2 (M 62 2 + (dgs (M 63) (M 62 1) 1 (M 62 2))))) (v := rf g 64) ok mi_X5_readNumber_5 (kd_lt (show kd 62 = 5 from rfl) (by decide)) rfl rfl (cellF_5 _ (by decide)) 4 (by decide) mk_X5_readNumber_25 rfl rfl dX5_readNumber_68 ?_
          refine v_alen (n := 12) ok (Or.inl (by decide)) rfl dX5_readNumber_71 ?_
          refine v_icmp_lt (tgt := 77) ok ⟨by omega, by omega⟩ (by decide) dX5_readNumber_72 (by decide) (fun c4 => ?_) (fun c4 => absurd c4 (by omega))
          refine v_aload_n ok 0 dX5_readNumber_77 rfl rfl ?_
          refine v_get (T := TX5) (N := 6) (f0 := (up (M 62) 2 (M 62 2 + (dgs (M 63) (M 62 1) 1 (M 62 2))))) (v := rf g 64) ok mi_X5_readNumber_5 (kd_lt (show kd 62 = 5 from rfl) (by decide)) rfl rfl (cellF_5 _ (by decide)) 4 (by decide) mk_X5_readNumber_25 rfl rfl dX5_readNumber_78 ?_
          refine v_aload_n ok 0 dX5_readNumber_81 rfl rfl ?_
          refine v_get (T := TX5) (N := 6) (f0 := (up (M 62) 2 (M 62 2 + (dgs (M 63) (M 62 1) 1 (M 62 2))))) (v := iv (M 62 5)) ok mi_X5_readNumber_5 (kd_lt (show kd 62 = 5 from rfl) (by decide)) rfl rfl (cellF_5 _ (by decide)) 5 (by decide) mk_X5_readNumber_28 rfl rfl dX5_readNumber_82 ?_
          refine v_iload_n ok 2 dX5_readNumber_85 rfl rfl ?_
          refine v_iast (n := 12) (f0 := (M 64)) ok (by decide) rfl (by omega) rfl dX5_readNumber_86 ?_
          refine v_aload_n ok 0 dX5_readNumber_87 rfl rfl ?_
          refine v_dup ok rfl dX5_readNumber_88 ?_
          refine v_get (T := TX5) (N := 6) (f0 := (up (M 62) 2 (M 62 2 + (dgs (M 63) (M 62 1) 1 (M 62 2))))) (v := iv (M 62 5)) ok mi_X5_readNumber_5 (kd_lt (show kd 62 = 5 from rfl) (by decide)) rfl rfl (cellF_5 _ (by decide)) 5 (by decide) mk_X5_readNumber_28 rfl rfl dX5_readNumber_89 ?_
          refine v_iconst (n := 1) ok dX5_readNumber_92 ?_
          refine v_iadd ok dX5_readNumber_93 ?_
          refine v_put (T := TX5) (N := 6) (f0 := (up (M 62) 2 (M 62 2 + (dgs (M 63) (M 62 1) 1 (M 62 2))))) (f' := up (up (M 62) 2 (M 62 2 + (dgs (M 63) (M 62 1) 1 (M 62 2)))) 5 ((M 62 5) + 1)) (ty := .int) ok mi_X5_readNumber_5 (kd_lt (show kd 62 = 5 from rfl) (by decide)) rfl rfl (cellF_5 _ (by decide)) tyX5 tyX5_ok nmX5 5 (by decide) mk_X5_readNumber_28 rfl rfl (by decide +kernel) rfl rfl (Nat.le_of_ble_eq_true rfl) ((cellF_5 _ (by decide)).trans rfl) dX5_readNumber_94 ?_
          rw [show (up1 (up1 (up1 M 62 (up (M 62) 2 (M 62 2 + (dgs (M 63) (M 62 1) 1 (M 62 2))))) 64 (up (M 64) (M 62 5) v)) 62 (up (up (M 62) 2 (M 62 2 + (dgs (M 63) (M 62 1) 1 (M 62 2)))) 5 ((M 62 5) + 1)) : Mem) = (up1 (up1 M 62 (up (up (M 62) 2 (M 62 2 + (dgs (M 63) (M 62 1) 1 (M 62 2)))) 5 ((M 62 5) + 1))) 64 (up (M 64) (M 62 5) v)) from (by
                funext j
                by_cases hj0 : j = 62
                · subst hj0; simp [up1, up1_self]
                by_cases hj1 : j = 64
                · subst hj1; simp [up1, up1_self]
                simp [up1, hj0, hj1])]
          refine v_iconst (n := 1) ok dX5_readNumber_97 ?_
          exact v_zret ok rt (by omega) dX5_readNumber_98 (Or.inr (⟨rfl, (by rw [i4_2, hdk]), (by omega)⟩))
      · skip
        refine v_aload_n ok 0 dX5_readNumber_9 rfl rfl ?_
        refine v_callV (na := 0) (i := 62) (C := RX5) (T := TX5) (N := 6) (f0 := (up (M 62) 2 (M 62 2 + k))) ok (ct_X5_sign z.2.1 g (up1 M 62 (up (M 62) 2 (M 62 2 + k)))  (by show 0 ≤ (M 62 1) ∧ (M 62 1) ≤ 100; first | omega | assumption) (by show 0 ≤ (M 62 2 + k) ∧ (M 62 2 + k) ≤ 1000; first | omega | assumption) (by show bdf ((M 63)) 100 0 127; first | omega | assumption)) gX5_readNumber_X5_sign (kd_lt (show kd 62 = 5 from rfl) (by decide)) rfl rfl (cellF_5 _ (by decide)) rfl (by decide +kernel) rfl (by decide) [] rfl (Nat.le_of_ble_eq_true rfl) dX5_readNumber_10 (fun v6 M7 hp5 => ?_)
        obtain ⟨rfl, rfl, h8⟩ := hp5
        have h8 : -1 ≤ (sgn ((M 63)) ((M 62 1)) ((M 62 2 + k))) ∧ (sgn ((M 63)) ((M 62 1)) ((M 62 2 + k))) ≤ 127 := h8
        show V z g 4 (up1 M 62 (up (M 62) 2 (M 62 2 + k))) [(0, rf g 62), (1, iv 1), (2, iv v), (3, iv k)] [iv (sgn ((M 63)) ((M 62 1)) ((M 62 2 + k)))] 13
        refine v_bipush (n := 48) ok rfl dX5_readNumber_13 ?_
        refine v_bipush (n := 57) ok rfl dX5_readNumber_15 ?_
        refine v_callN (na := 3) ok (ct_X9_between z.2.1 g (up1 M 62 (up (M 62) 2 (M 62 2 + k))) (sgn ((M 63)) ((M 62 1)) ((M 62 2 + k))) 48 57 ⟨by omega, by omega⟩ (by decide) (by decide)) gX5_readNumber_X9_between_n31 mq_X5_readNumber_X9_between ms_X5_readNumber_X9_between mn_X5_readNumber_X9_between rfl (by decide +kernel) rfl (by decide) [] rfl (Nat.le_of_ble_eq_true rfl) dX5_readNumber_17 (fun v10 M11 hp9 => ?_)
        rcases hp9 with ⟨rfl, rfl, h12⟩ | ⟨rfl, rfl, h13⟩
        · skip
          show V z g 4 (up1 M 62 (up (M 62) 2 (M 62 2 + k))) [(0, rf g 62), (1, iv 1), (2, iv v), (3, iv k)] [iv 1] 20
          have hrg := dgs_rng (T := M 63) (L := M 62 1) (1 - k).toNat (M 62 2 + k)
          have hdig := h12
          have hb1 : (dgs (M 63) (M 62 1) 1 (M 62 2)) = k + 1 + dgs (M 63) (M 62 1) (1 - (k + 1)).toNat (M 62 2 + k + 1) := by
            rw [i4_1, nat_s (show k < 1 by omega), dgs, if_pos (by omega)]; omega
          have hsg : sgn (M 63) (M 62 1) (M 62 2 + k) = M 63 (M 62 2 + k) := by
            unfold sgn at hdig ⊢
            split
            · rfl
            · rename_i c; rw [if_neg c] at hdig; omega
          have hb2 : 10 * v + sgn (M 63) (M 62 1) (M 62 2 + k) - 48 = nmv (M 63) (M 62 2) (k + 1).toNat := by
            rw [show (k + 1).toNat = k.toNat + 1 by omega, nmv, ← i4_2, hsg, Int.toNat_of_nonneg i4_0.1]; omega
          refine v_if_eq (tgt := 52) ok (by decide) dX5_readNumber_20 (by decide) (fun c14 => absurd c14 (by decide)) (fun c14 => ?_)
          refine v_bipush (n := 10) ok rfl dX5_readNumber_23 ?_
          refine v_iload_n ok 2 dX5_readNumber_25 rfl rfl ?_
          refine v_imul ok dX5_readNumber_26 ?_
          refine v_aload_n ok 0 dX5_readNumber_27 rfl rfl ?_
          refine v_callV (na := 0) (i := 62) (C := RX5) (T := TX5) (N := 6) (f0 := (up (M 62) 2 (M 62 2 + k))) ok (ct_X5_sign z.2.1 g (up1 M 62 (up (M 62) 2 (M 62 2 + k)))  (by show 0 ≤ (M 62 1) ∧ (M 62 1) ≤ 100; first | omega | assumption) (by show 0 ≤ (M 62 2 + k) ∧ (M 62 2 + k) ≤ 1000; first | omega | assumption) (by show bdf ((M 63)) 100 0 127; first | omega | assumption)) gX5_readNumber_X5_sign (kd_lt (show kd 62 = 5 from rfl) (by decide)) rfl rfl (cellF_5 _ (by decide)) rfl (by decide +kernel) rfl (by decide) [iv (10 * v)] rfl (Nat.le_of_ble_eq_true rfl) dX5_readNumber_28 (fun v16 M17 hp15 => ?_)
          obtain ⟨rfl, rfl, h18⟩ := hp15
          have h18 : -1 ≤ (sgn ((M 63)) ((M 62 1)) ((M 62 2 + k))) ∧ (sgn ((M 63)) ((M 62 1)) ((M 62 2 + k))) ≤ 127 := h18
          show V z g 4 (up1 M 62 (up (M 62) 2 (M 62 2 + k))) [(0, rf g 62), (1, iv 1), (2, iv v), (3, iv k)] [iv (sgn ((M 63)) ((M 62 1)) ((M 62 2 + k))), iv (10 * v)] 31
          refine v_iadd ok dX5_readNumber_31 ?_
          refine v_bipush (n := 48) ok rfl dX5_readNumber_32 ?_
          refine v_isub ok dX5_readNumber_34 ?_
          refine v_istore_n ok [(2, iv (((10 * v) + (sgn ((M 63)) ((M 62 1)) ((M 62 2 + k)))) - 48)), (0, rf g 62), (1, iv 1), (3, iv k)] dX5_readNumber_35 rfl (by decide) rfl ?_
          refine v_iinc ok 3 [(3, iv (k + 1)), (2, iv (((10 * v) + (sgn ((M 63)) ((M 62 1)) ((M 62 2 + k)))) - 48)), (0, rf g 62), (1, iv 1)] dX5_readNumber_36 rfl (by decide) rfl ?_
          refine v_aload_n ok 2 dX5_readNumber_39 rfl rfl ?_
          refine v_dup ok rfl dX5_readNumber_40 ?_
          refine v_get (T := TX5) (N := 6) (f0 := (up (M 62) 2 (M 62 2 + k))) (v := iv (M 62 2 + k)) ok mi_X5_readNumber_5 (kd_lt (show kd 62 = 5 from rfl) (by decide)) rfl rfl (cellF_5 _ (by decide)) 2 (by decide) mk_X5_readNumber_19 rfl rfl dX5_readNumber_41 ?_
          refine v_iconst (n := 1) ok dX5_readNumber_44 ?_
          refine v_iadd ok dX5_readNumber_45 ?_
          refine v_put (T := TX5) (N := 6) (f0 := (up (M 62) 2 (M 62 2 + k))) (f' := up (up (M 62) 2 (M 62 2 + k)) 2 ((M 62 2 + k) + 1)) (ty := .int) ok mi_X5_readNumber_5 (kd_lt (show kd 62 = 5 from rfl) (by decide)) rfl rfl (cellF_5 _ (by decide)) tyX5 tyX5_ok nmX5 2 (by decide) mk_X5_readNumber_19 rfl rfl (by decide +kernel) rfl rfl (Nat.le_of_ble_eq_true rfl) ((cellF_5 _ (by decide)).trans rfl) dX5_readNumber_46 ?_
          rw [up_up]
          rw [up1_up1]
          refine v_goto (tgt := 4) ok dX5_readNumber_49 (by decide) ?_
          rw [show ((up1 M 62 (up (M 62) 2 ((M 62 2 + k) + 1))) : Mem) = (up1 M 62 (up (M 62) 2 (M 62 2 + (k + 1)))) from (by rw [show M 62 2 + k + 1 = M 62 2 + (k + 1) by omega])]
          refine v_lv (ls' := [(0, rf g 62), (1, iv 1), (2, iv (((10 * v) + (sgn ((M 63)) ((M 62 1)) ((M 62 2 + k)))) - 48)), (3, iv (k + 1))]) ok [2, 3, 1, 0] rfl ?_
          exact ih4 (k + 1) (((10 * v) + (sgn ((M 63)) ((M 62 1)) ((M 62 2 + k)))) - 48) (by omega) (by rw [show M 62 2 + (k + 1) = M 62 2 + k + 1 by omega]; exact hb1) hb2 (by omega) (by omega)
        · skip
          show V z g 4 (up1 M 62 (up (M 62) 2 (M 62 2 + k))) [(0, rf g 62), (1, iv 1), (2, iv v), (3, iv k)] [iv 0] 20
          have hdk : (dgs (M 63) (M 62 1) 1 (M 62 2)) = k := by
            rw [i4_1]
            rcases Int.lt_or_le k 1 with q | q
            · rw [nat_s q, dgs, if_neg h13]; omega
            · rw [show (1 - k).toNat = 0 by omega]; simp [dgs]
          rw [show ((up1 M 62 (up (M 62) 2 (M 62 2 + k))) : Mem) = (up1 M 62 (up (M 62) 2 (M 62 2 + (dgs (M 63) (M 62 1) 1 (M 62 2))))) from (by rw [hdk])]
          refine v_if_eq (tgt := 52) ok (by decide) dX5_readNumber_20 (by decide) (fun c19 => ?_) (fun c19 => absurd c19 (by decide))
          refine v_iload_n ok 3 dX5_readNumber_52 rfl rfl ?_
          refine v_if_eq (tgt := 75) ok ⟨by omega, by omega⟩ dX5_readNumber_53 (by decide) (fun c20 => ?_) (fun c20 => ?_)
          · skip
            refine v_iconst (n := 0) ok dX5_readNumber_75 ?_
            exact v_zret ok rt (by omega) dX5_readNumber_76 (Or.inl (⟨rfl, rfl, (by omega)⟩))
          · skip
            refine v_aload_n ok 0 dX5_readNumber_56 rfl rfl ?_
            refine v_get (T := TX5) (N := 6) (f0 := (up (M 62) 2 (M 62 2 + (dgs (M 63) (M 62 1) 1 (M 62 2))))) (v := iv (M 62 5)) ok mi_X5_readNumber_5 (kd_lt (show kd 62 = 5 from rfl) (by decide)) rfl rfl (cellF_5 _ (by decide)) 5 (by decide) mk_X5_readNumber_28 rfl rfl dX5_readNumber_57 ?_
            refine v_if_lt (tgt := 75) ok ⟨by omega, by omega⟩ dX5_readNumber_60 (by decide) (fun c21 => absurd c21 (by omega)) (fun c21 => ?_)
            refine v_aload_n ok 0 dX5_readNumber_63 rfl rfl ?_
            refine v_get (T := TX5) (N := 6) (f0 := (up (M 62) 2 (M 62 2 + (dgs (M 63) (M 62 1) 1 (M 62 2))))) (v := iv (M 62 5)) ok mi_X5_readNumber_5 (kd_lt (show kd 62 = 5 from rfl) (by decide)) rfl rfl (cellF_5 _ (by decide)) 5 (by decide) mk_X5_readNumber_28 rfl rfl dX5_readNumber_64 ?_
            refine v_aload_n ok 0 dX5_readNumber_67 rfl rfl ?_
            refine v_get (T := TX5) (N := 6) (f0 := (up (M 62) 2 (M 62 2 + (dgs (M 63) (M 62 1) 1 (M 62 2))))) (v := rf g 64) ok mi_X5_readNumber_5 (kd_lt (show kd 62 = 5 from rfl) (by decide)) rfl rfl (cellF_5 _ (by decide)) 4 (by decide) mk_X5_readNumber_25 rfl rfl dX5_readNumber_68 ?_
            refine v_alen (n := 12) ok (Or.inl (by decide)) rfl dX5_readNumber_71 ?_
            refine v_icmp_lt (tgt := 77) ok ⟨by omega, by omega⟩ (by decide) dX5_readNumber_72 (by decide) (fun c22 => ?_) (fun c22 => absurd c22 (by omega))
            refine v_aload_n ok 0 dX5_readNumber_77 rfl rfl ?_
            refine v_get (T := TX5) (N := 6) (f0 := (up (M 62) 2 (M 62 2 + (dgs (M 63) (M 62 1) 1 (M 62 2))))) (v := rf g 64) ok mi_X5_readNumber_5 (kd_lt (show kd 62 = 5 from rfl) (by decide)) rfl rfl (cellF_5 _ (by decide)) 4 (by decide) mk_X5_readNumber_25 rfl rfl dX5_readNumber_78 ?_
            refine v_aload_n ok 0 dX5_readNumber_81 rfl rfl ?_
            refine v_get (T := TX5) (N := 6) (f0 := (up (M 62) 2 (M 62 2 + (dgs (M 63) (M 62 1) 1 (M 62 2))))) (v := iv (M 62 5)) ok mi_X5_readNumber_5 (kd_lt (show kd 62 = 5 from rfl) (by decide)) rfl rfl (cellF_5 _ (by decide)) 5 (by decide) mk_X5_readNumber_28 rfl rfl dX5_readNumber_82 ?_
            refine v_iload_n ok 2 dX5_readNumber_85 rfl rfl ?_
            refine v_iast (n := 12) (f0 := (M 64)) ok (by decide) rfl (by omega) rfl dX5_readNumber_86 ?_
            refine v_aload_n ok 0 dX5_readNumber_87 rfl rfl ?_
            refine v_dup ok rfl dX5_readNumber_88 ?_
            refine v_get (T := TX5) (N := 6) (f0 := (up (M 62) 2 (M 62 2 + (dgs (M 63) (M 62 1) 1 (M 62 2))))) (v := iv (M 62 5)) ok mi_X5_readNumber_5 (kd_lt (show kd 62 = 5 from rfl) (by decide)) rfl rfl (cellF_5 _ (by decide)) 5 (by decide) mk_X5_readNumber_28 rfl rfl dX5_readNumber_89 ?_
            refine v_iconst (n := 1) ok dX5_readNumber_92 ?_
            refine v_iadd ok dX5_readNumber_93 ?_
            refine v_put (T := TX5) (N := 6) (f0 := (up (M 62) 2 (M 62 2 + (dgs (M 63) (M 62 1) 1 (M 62 2))))) (f' := up (up (M 62) 2 (M 62 2 + (dgs (M 63) (M 62 1) 1 (M 62 2)))) 5 ((M 62 5) + 1)) (ty := .int) ok mi_X5_readNumber_5 (kd_lt (show kd 62 = 5 from rfl) (by decide)) rfl rfl (cellF_5 _ (by decide)) tyX5 tyX5_ok nmX5 5 (by decide) mk_X5_readNumber_28 rfl rfl (by decide +kernel) rfl rfl (Nat.le_of_ble_eq_true rfl) ((cellF_5 _ (by decide)).trans rfl) dX5_readNumber_94 ?_
            rw [show (up1 (up1 (up1 M 62 (up (M 62) 2 (M 62 2 + (dgs (M 63) (M 62 1) 1 (M 62 2))))) 64 (up (M 64) (M 62 5) v)) 62 (up (up (M 62) 2 (M 62 2 + (dgs (M 63) (M 62 1) 1 (M 62 2)))) 5 ((M 62 5) + 1)) : Mem) = (up1 (up1 M 62 (up (up (M 62) 2 (M 62 2 + (dgs (M 63) (M 62 1) 1 (M 62 2)))) 5 ((M 62 5) + 1))) 64 (up (M 64) (M 62 5) v)) from (by
                  funext j
                  by_cases hj0 : j = 62
                  · subst hj0; simp [up1, up1_self]
                  by_cases hj1 : j = 64
                  · subst hj1; simp [up1, up1_self]
                  simp [up1, hj0, hj1])]
            refine v_iconst (n := 1) ok dX5_readNumber_97 ?_
            exact v_zret ok rt (by omega) dX5_readNumber_98 (Or.inr (⟨rfl, (by rw [i4_2, hdk]), (by omega)⟩))
  rw [show (M : Mem) = (up1 M 62 (up (M 62) 2 (M 62 2 + (0 : Int)))) from (by rw [Int.add_zero, up_self, up1_self])]
  refine v_lv (ls' := [(0, rf g 62), (1, iv 1), (2, iv 0), (3, iv 0)]) ok [2, 3, 1, 0] rfl ?_
  exact lp4 _ 0 0 (by omega) (by simp) rfl (by omega) (Nat.lt_succ_self _)

set_option maxRecDepth 100000 in
set_option maxHeartbeats 400000 in
theorem ct_X5_readNumber_3 (l : Launch) (g : Gl) (M : Mem)  (hL : 0 ≤ M 62 1 ∧ M 62 1 ≤ 100) (hA : 0 ≤ M 62 2 ∧ M 62 2 ≤ 900) (hG : bdf (M 63) 100 0 127) (hm : 0 ≤ M 62 5 ∧ M 62 5 < 12) : Ct l g yX5_readNumber wsX5_readNumber 1 22 [rf g 62, iv 3] M (fun rv M' => (rv = some (iv 0) ∧ M' = (up1 M 62 (up (M 62) 2 (M 62 2 + (dgs (M 63) (M 62 1) 3 (M 62 2))))) ∧ ((dgs (M 63) (M 62 1) 3 (M 62 2)) = 0)) ∨ (rv = some (iv 1) ∧ M' = (up1 (up1 M 62 (up (up (M 62) 2 (M 62 2 + (dgs (M 63) (M 62 1) 3 (M 62 2)))) 5 (M 62 5 + 1))) 64 (up (M 64) (M 62 5) (nmv (M 63) (M 62 2) (dgs (M 63) (M 62 1) 3 (M 62 2)).toNat))) ∧ (0 < (dgs (M 63) (M 62 1) 3 (M 62 2))))) := by
  refine Ct.of (cc := cX5_readNumber) (nL := 4) (ret := (some .boolean)) (by decide) rfl (Nat.le_of_ble_eq_true rfl) (fun z hz ok rt => ?_)
  have ok : Ok z g cX5_readNumber 4 RX5 wsX5_readNumber 1 22 := ok
  show V z g 4 M [(0, rf g 62), (1, iv 3)] [] 0
  refine v_iconst (n := 0) ok dX5_readNumber_0 ?_
  refine v_istore_n ok [(2, iv 0), (0, rf g 62), (1, iv 3)] dX5_readNumber_1 rfl (by decide) rfl ?_
  refine v_iconst (n := 0) ok dX5_readNumber_2 ?_
  refine v_istore_n ok [(3, iv 0), (2, iv 0), (0, rf g 62), (1, iv 3)] dX5_readNumber_3 rfl (by decide) rfl ?_
  have lp4 : ∀ (fu : Nat) (k v : Int), (0 ≤ k ∧ k ≤ 3) → ((dgs (M 63) (M 62 1) 3 (M 62 2)) = k + dgs (M 63) (M 62 1) (3 - k).toNat (M 62 2 + k)) → (v = nmv (M 63) (M 62 2) k.toNat) → (0 ≤ v ∧ (k = 0 → v ≤ 0) ∧ (k = 1 → v ≤ 9) ∧ (k = 2 → v ≤ 99) ∧ (k = 3 → v ≤ 999)) → (3 - k).toNat < fu → V z g 4 (up1 M 62 (up (M 62) 2 (M 62 2 + k))) [(0, rf g 62), (1, iv 3), (2, iv v), (3, iv k)] [] 4 := by
    intro fu
    induction fu with
    | zero => intro k v _ _ _ _ hm; exact absurd hm (Nat.not_lt_zero _)
    | succ fu ih4 =>
      intro k v i4_0 i4_1 i4_2 i4_3 hm4
      refine v_iload_n ok 3 dX5_readNumber_4 rfl rfl ?_
      refine v_iload_n ok 1 dX5_readNumber_5 rfl rfl ?_
      refine v_icmp_ge (tgt := 52) ok ⟨by omega, by omega⟩ (by decide) dX5_readNumber_6 (by decide) (fun c1 => ?_) (fun c1 => ?_)
      · skip
        have hdk : (dgs (M 63) (M 62 1) 3 (M 62 2)) = k := by rw [i4_1, show (3 - k).toNat = 0 by omega]; simp [dgs]
        rw [show ((up1 M 62 (up (M 62) 2 (M 62 2 + k))) : Mem) = (up1 M 62 (up (M 62) 2 (M 62 2 + (dgs (M 63) (M 62 1) 3 (M 62 2))))) from (by rw [hdk])]
        refine v_iload_n ok 3 dX5_readNumber_52 rfl rfl ?_
        refine v_if_eq (tgt := 75) ok ⟨by omega, by omega⟩ dX5_readNumber_53 (by decide) (fun c2 => ?_) (fun c2 => ?_)
        · skip
          refine v_iconst (n := 0) ok dX5_readNumber_75 ?_
          exact v_zret ok rt (by omega) dX5_readNumber_76 (Or.inl (⟨rfl, rfl, (by omega)⟩))
        · skip
          refine v_aload_n ok 0 dX5_readNumber_56 rfl rfl ?_
          refine v_get (T := TX5) (N := 6) (f0 := (up (M 62) 2 (M 62 2 + (dgs (M 63) (M 62 1) 3 (M 62 2))))) (v := iv (M 62 5)) ok mi_X5_readNumber_5 (kd_lt (show kd 62 = 5 from rfl) (by decide)) rfl rfl (cellF_5 _ (by decide)) 5 (by decide) mk_X5_readNumber_28 rfl rfl dX5_readNumber_57 ?_
          refine v_if_lt (tgt := 75) ok ⟨by omega, by omega⟩ dX5_readNumber_60 (by decide) (fun c3 => absurd c3 (by omega)) (fun c3 => ?_)
          refine v_aload_n ok 0 dX5_readNumber_63 rfl rfl ?_
          refine v_get (T := TX5) (N := 6) (f0 := (up (M 62) 2 (M 62 2 + (dgs (M 63) (M 62 1) 3 (M 62 2))))) (v := iv (M 62 5)) ok mi_X5_readNumber_5 (kd_lt (show kd 62 = 5 from rfl) (by decide)) rfl rfl (cellF_5 _ (by decide)) 5 (by decide) mk_X5_readNumber_28 rfl rfl dX5_readNumber_64 ?_
          refine v_aload_n ok 0 dX5_readNumber_67 rfl rfl ?_
          refine v_get (T := TX5) (N := 6) (f0 := (up (M 62) 2 (M 62 2 + (dgs (M 63) (M 62 1) 3 (M 62 2))))) (v := rf g 64) ok mi_X5_readNumber_5 (kd_lt (show kd 62 = 5 from rfl) (by decide)) rfl rfl (cellF_5 _ (by decide)) 4 (by decide) mk_X5_readNumber_25 rfl rfl dX5_readNumber_68 ?_
          refine v_alen (n := 12) ok (Or.inl (by decide)) rfl dX5_readNumber_71 ?_
          refine v_icmp_lt (tgt := 77) ok ⟨by omega, by omega⟩ (by decide) dX5_readNumber_72 (by decide) (fun c4 => ?_) (fun c4 => absurd c4 (by omega))
          refine v_aload_n ok 0 dX5_readNumber_77 rfl rfl ?_
          refine v_get (T := TX5) (N := 6) (f0 := (up (M 62) 2 (M 62 2 + (dgs (M 63) (M 62 1) 3 (M 62 2))))) (v := rf g 64) ok mi_X5_readNumber_5 (kd_lt (show kd 62 = 5 from rfl) (by decide)) rfl rfl (cellF_5 _ (by decide)) 4 (by decide) mk_X5_readNumber_25 rfl rfl dX5_readNumber_78 ?_
          refine v_aload_n ok 0 dX5_readNumber_81 rfl rfl ?_
          refine v_get (T := TX5) (N := 6) (f0 := (up (M 62) 2 (M 62 2 + (dgs (M 63) (M 62 1) 3 (M 62 2))))) (v := iv (M 62 5)) ok mi_X5_readNumber_5 (kd_lt (show kd 62 = 5 from rfl) (by decide)) rfl rfl (cellF_5 _ (by decide)) 5 (by decide) mk_X5_readNumber_28 rfl rfl dX5_readNumber_82 ?_
          refine v_iload_n ok 2 dX5_readNumber_85 rfl rfl ?_
          refine v_iast (n := 12) (f0 := (M 64)) ok (by decide) rfl (by omega) rfl dX5_readNumber_86 ?_
          refine v_aload_n ok 0 dX5_readNumber_87 rfl rfl ?_
          refine v_dup ok rfl dX5_readNumber_88 ?_
          refine v_get (T := TX5) (N := 6) (f0 := (up (M 62) 2 (M 62 2 + (dgs (M 63) (M 62 1) 3 (M 62 2))))) (v := iv (M 62 5)) ok mi_X5_readNumber_5 (kd_lt (show kd 62 = 5 from rfl) (by decide)) rfl rfl (cellF_5 _ (by decide)) 5 (by decide) mk_X5_readNumber_28 rfl rfl dX5_readNumber_89 ?_
          refine v_iconst (n := 1) ok dX5_readNumber_92 ?_
          refine v_iadd ok dX5_readNumber_93 ?_
          refine v_put (T := TX5) (N := 6) (f0 := (up (M 62) 2 (M 62 2 + (dgs (M 63) (M 62 1) 3 (M 62 2))))) (f' := up (up (M 62) 2 (M 62 2 + (dgs (M 63) (M 62 1) 3 (M 62 2)))) 5 ((M 62 5) + 1)) (ty := .int) ok mi_X5_readNumber_5 (kd_lt (show kd 62 = 5 from rfl) (by decide)) rfl rfl (cellF_5 _ (by decide)) tyX5 tyX5_ok nmX5 5 (by decide) mk_X5_readNumber_28 rfl rfl (by decide +kernel) rfl rfl (Nat.le_of_ble_eq_true rfl) ((cellF_5 _ (by decide)).trans rfl) dX5_readNumber_94 ?_
          rw [show (up1 (up1 (up1 M 62 (up (M 62) 2 (M 62 2 + (dgs (M 63) (M 62 1) 3 (M 62 2))))) 64 (up (M 64) (M 62 5) v)) 62 (up (up (M 62) 2 (M 62 2 + (dgs (M 63) (M 62 1) 3 (M 62 2)))) 5 ((M 62 5) + 1)) : Mem) = (up1 (up1 M 62 (up (up (M 62) 2 (M 62 2 + (dgs (M 63) (M 62 1) 3 (M 62 2)))) 5 ((M 62 5) + 1))) 64 (up (M 64) (M 62 5) v)) from (by
                funext j
                by_cases hj0 : j = 62
                · subst hj0; simp [up1, up1_self]
                by_cases hj1 : j = 64
                · subst hj1; simp [up1, up1_self]
                simp [up1, hj0, hj1])]
          refine v_iconst (n := 1) ok dX5_readNumber_97 ?_
          exact v_zret ok rt (by omega) dX5_readNumber_98 (Or.inr (⟨rfl, (by rw [i4_2, hdk]), (by omega)⟩))
      · skip
        refine v_aload_n ok 0 dX5_readNumber_9 rfl rfl ?_
        refine v_callV (na := 0) (i := 62) (C := RX5) (T := TX5) (N := 6) (f0 := (up (M 62) 2 (M 62 2 + k))) ok (ct_X5_sign z.2.1 g (up1 M 62 (up (M 62) 2 (M 62 2 + k)))  (by show 0 ≤ (M 62 1) ∧ (M 62 1) ≤ 100; first | omega | assumption) (by show 0 ≤ (M 62 2 + k) ∧ (M 62 2 + k) ≤ 1000; first | omega | assumption) (by show bdf ((M 63)) 100 0 127; first | omega | assumption)) gX5_readNumber_X5_sign (kd_lt (show kd 62 = 5 from rfl) (by decide)) rfl rfl (cellF_5 _ (by decide)) rfl (by decide +kernel) rfl (by decide) [] rfl (Nat.le_of_ble_eq_true rfl) dX5_readNumber_10 (fun v6 M7 hp5 => ?_)
        obtain ⟨rfl, rfl, h8⟩ := hp5
        have h8 : -1 ≤ (sgn ((M 63)) ((M 62 1)) ((M 62 2 + k))) ∧ (sgn ((M 63)) ((M 62 1)) ((M 62 2 + k))) ≤ 127 := h8
        show V z g 4 (up1 M 62 (up (M 62) 2 (M 62 2 + k))) [(0, rf g 62), (1, iv 3), (2, iv v), (3, iv k)] [iv (sgn ((M 63)) ((M 62 1)) ((M 62 2 + k)))] 13
        refine v_bipush (n := 48) ok rfl dX5_readNumber_13 ?_
        refine v_bipush (n := 57) ok rfl dX5_readNumber_15 ?_
        refine v_callN (na := 3) ok (ct_X9_between z.2.1 g (up1 M 62 (up (M 62) 2 (M 62 2 + k))) (sgn ((M 63)) ((M 62 1)) ((M 62 2 + k))) 48 57 ⟨by omega, by omega⟩ (by decide) (by decide)) gX5_readNumber_X9_between_n31 mq_X5_readNumber_X9_between ms_X5_readNumber_X9_between mn_X5_readNumber_X9_between rfl (by decide +kernel) rfl (by decide) [] rfl (Nat.le_of_ble_eq_true rfl) dX5_readNumber_17 (fun v10 M11 hp9 => ?_)
        rcases hp9 with ⟨rfl, rfl, h12⟩ | ⟨rfl, rfl, h13⟩
        · skip
          show V z g 4 (up1 M 62 (up (M 62) 2 (M 62 2 + k))) [(0, rf g 62), (1, iv 3), (2, iv v), (3, iv k)] [iv 1] 20
          have hrg := dgs_rng (T := M 63) (L := M 62 1) (3 - k).toNat (M 62 2 + k)
          have hdig := h12
          have hb1 : (dgs (M 63) (M 62 1) 3 (M 62 2)) = k + 1 + dgs (M 63) (M 62 1) (3 - (k + 1)).toNat (M 62 2 + k + 1) := by
            rw [i4_1, nat_s (show k < 3 by omega), dgs, if_pos (by omega)]; omega
          have hsg : sgn (M 63) (M 62 1) (M 62 2 + k) = M 63 (M 62 2 + k) := by
            unfold sgn at hdig ⊢
            split
            · rfl
            · rename_i c; rw [if_neg c] at hdig; omega
          have hb2 : 10 * v + sgn (M 63) (M 62 1) (M 62 2 + k) - 48 = nmv (M 63) (M 62 2) (k + 1).toNat := by
            rw [show (k + 1).toNat = k.toNat + 1 by omega, nmv, ← i4_2, hsg, Int.toNat_of_nonneg i4_0.1]; omega
          refine v_if_eq (tgt := 52) ok (by decide) dX5_readNumber_20 (by decide) (fun c14 => absurd c14 (by decide)) (fun c14 => ?_)
          refine v_bipush (n := 10) ok rfl dX5_readNumber_23 ?_
          refine v_iload_n ok 2 dX5_readNumber_25 rfl rfl ?_
          refine v_imul ok dX5_readNumber_26 ?_
          refine v_aload_n ok 0 dX5_readNumber_27 rfl rfl ?_
          refine v_callV (na := 0) (i := 62) (C := RX5) (T := TX5) (N := 6) (f0 := (up (M 62) 2 (M 62 2 + k))) ok (ct_X5_sign z.2.1 g (up1 M 62 (up (M 62) 2 (M 62 2 + k)))  (by show 0 ≤ (M 62 1) ∧ (M 62 1) ≤ 100; first | omega | assumption) (by show 0 ≤ (M 62 2 + k) ∧ (M 62 2 + k) ≤ 1000; first | omega | assumption) (by show bdf ((M 63)) 100 0 127; first | omega | assumption)) gX5_readNumber_X5_sign (kd_lt (show kd 62 = 5 from rfl) (by decide)) rfl rfl (cellF_5 _ (by decide)) rfl (by decide +kernel) rfl (by decide) [iv (10 * v)] rfl (Nat.le_of_ble_eq_true rfl) dX5_readNumber_28 (fun v16 M17 hp15 => ?_)
          obtain ⟨rfl, rfl, h18⟩ := hp15
          have h18 : -1 ≤ (sgn ((M 63)) ((M 62 1)) ((M 62 2 + k))) ∧ (sgn ((M 63)) ((M 62 1)) ((M 62 2 + k))) ≤ 127 := h18
          show V z g 4 (up1 M 62 (up (M 62) 2 (M 62 2 + k))) [(0, rf g 62), (1, iv 3), (2, iv v), (3, iv k)] [iv (sgn ((M 63)) ((M 62 1)) ((M 62 2 + k))), iv (10 * v)] 31
          refine v_iadd ok dX5_readNumber_31 ?_
          refine v_bipush (n := 48) ok rfl dX5_readNumber_32 ?_
          refine v_isub ok dX5_readNumber_34 ?_
          refine v_istore_n ok [(2, iv (((10 * v) + (sgn ((M 63)) ((M 62 1)) ((M 62 2 + k)))) - 48)), (0, rf g 62), (1, iv 3), (3, iv k)] dX5_readNumber_35 rfl (by decide) rfl ?_
          refine v_iinc ok 3 [(3, iv (k + 1)), (2, iv (((10 * v) + (sgn ((M 63)) ((M 62 1)) ((M 62 2 + k)))) - 48)), (0, rf g 62), (1, iv 3)] dX5_readNumber_36 rfl (by decide) rfl ?_
          refine v_aload_n ok 2 dX5_readNumber_39 rfl rfl ?_
          refine v_dup ok rfl dX5_readNumber_40 ?_
          refine v_get (T := TX5) (N := 6) (f0 := (up (M 62) 2 (M 62 2 + k))) (v := iv (M 62 2 + k)) ok mi_X5_readNumber_5 (kd_lt (show kd 62 = 5 from rfl) (by decide)) rfl rfl (cellF_5 _ (by decide)) 2 (by decide) mk_X5_readNumber_19 rfl rfl dX5_readNumber_41 ?_
          refine v_iconst (n := 1) ok dX5_readNumber_44 ?_
          refine v_iadd ok dX5_readNumber_45 ?_
          refine v_put (T := TX5) (N := 6) (f0 := (up (M 62) 2 (M 62 2 + k))) (f' := up (up (M 62) 2 (M 62 2 + k)) 2 ((M 62 2 + k) + 1)) (ty := .int) ok mi_X5_readNumber_5 (kd_lt (show kd 62 = 5 from rfl) (by decide)) rfl rfl (cellF_5 _ (by decide)) tyX5 tyX5_ok nmX5 2 (by decide) mk_X5_readNumber_19 rfl rfl (by decide +kernel) rfl rfl (Nat.le_of_ble_eq_true rfl) ((cellF_5 _ (by decide)).trans rfl) dX5_readNumber_46 ?_
          rw [up_up]
          rw [up1_up1]
          refine v_goto (tgt := 4) ok dX5_readNumber_49 (by decide) ?_
          rw [show ((up1 M 62 (up (M 62) 2 ((M 62 2 + k) + 1))) : Mem) = (up1 M 62 (up (M 62) 2 (M 62 2 + (k + 1)))) from (by rw [show M 62 2 + k + 1 = M 62 2 + (k + 1) by omega])]
          refine v_lv (ls' := [(0, rf g 62), (1, iv 3), (2, iv (((10 * v) + (sgn ((M 63)) ((M 62 1)) ((M 62 2 + k)))) - 48)), (3, iv (k + 1))]) ok [2, 3, 1, 0] rfl ?_
          exact ih4 (k + 1) (((10 * v) + (sgn ((M 63)) ((M 62 1)) ((M 62 2 + k)))) - 48) (by omega) (by rw [show M 62 2 + (k + 1) = M 62 2 + k + 1 by omega]; exact hb1) hb2 (by omega) (by omega)
        · skip
          show V z g 4 (up1 M 62 (up (M 62) 2 (M 62 2 + k))) [(0, rf g 62), (1, iv 3), (2, iv v), (3, iv k)] [iv 0] 20
          have hdk : (dgs (M 63) (M 62 1) 3 (M 62 2)) = k := by
            rw [i4_1]
            rcases Int.lt_or_le k 3 with q | q
            · rw [nat_s q, dgs, if_neg h13]; omega
            · rw [show (3 - k).toNat = 0 by omega]; simp [dgs]
          rw [show ((up1 M 62 (up (M 62) 2 (M 62 2 + k))) : Mem) = (up1 M 62 (up (M 62) 2 (M 62 2 + (dgs (M 63) (M 62 1) 3 (M 62 2))))) from (by rw [hdk])]
          refine v_if_eq (tgt := 52) ok (by decide) dX5_readNumber_20 (by decide) (fun c19 => ?_) (fun c19 => absurd c19 (by decide))
          refine v_iload_n ok 3 dX5_readNumber_52 rfl rfl ?_
          refine v_if_eq (tgt := 75) ok ⟨by omega, by omega⟩ dX5_readNumber_53 (by decide) (fun c20 => ?_) (fun c20 => ?_)
          · skip
            refine v_iconst (n := 0) ok dX5_readNumber_75 ?_
            exact v_zret ok rt (by omega) dX5_readNumber_76 (Or.inl (⟨rfl, rfl, (by omega)⟩))
          · skip
            refine v_aload_n ok 0 dX5_readNumber_56 rfl rfl ?_
            refine v_get (T := TX5) (N := 6) (f0 := (up (M 62) 2 (M 62 2 + (dgs (M 63) (M 62 1) 3 (M 62 2))))) (v := iv (M 62 5)) ok mi_X5_readNumber_5 (kd_lt (show kd 62 = 5 from rfl) (by decide)) rfl rfl (cellF_5 _ (by decide)) 5 (by decide) mk_X5_readNumber_28 rfl rfl dX5_readNumber_57 ?_
            refine v_if_lt (tgt := 75) ok ⟨by omega, by omega⟩ dX5_readNumber_60 (by decide) (fun c21 => absurd c21 (by omega)) (fun c21 => ?_)
            refine v_aload_n ok 0 dX5_readNumber_63 rfl rfl ?_
            refine v_get (T := TX5) (N := 6) (f0 := (up (M 62) 2 (M 62 2 + (dgs (M 63) (M 62 1) 3 (M 62 2))))) (v := iv (M 62 5)) ok mi_X5_readNumber_5 (kd_lt (show kd 62 = 5 from rfl) (by decide)) rfl rfl (cellF_5 _ (by decide)) 5 (by decide) mk_X5_readNumber_28 rfl rfl dX5_readNumber_64 ?_
            refine v_aload_n ok 0 dX5_readNumber_67 rfl rfl ?_
            refine v_get (T := TX5) (N := 6) (f0 := (up (M 62) 2 (M 62 2 + (dgs (M 63) (M 62 1) 3 (M 62 2))))) (v := rf g 64) ok mi_X5_readNumber_5 (kd_lt (show kd 62 = 5 from rfl) (by decide)) rfl rfl (cellF_5 _ (by decide)) 4 (by decide) mk_X5_readNumber_25 rfl rfl dX5_readNumber_68 ?_
            refine v_alen (n := 12) ok (Or.inl (by decide)) rfl dX5_readNumber_71 ?_
            refine v_icmp_lt (tgt := 77) ok ⟨by omega, by omega⟩ (by decide) dX5_readNumber_72 (by decide) (fun c22 => ?_) (fun c22 => absurd c22 (by omega))
            refine v_aload_n ok 0 dX5_readNumber_77 rfl rfl ?_
            refine v_get (T := TX5) (N := 6) (f0 := (up (M 62) 2 (M 62 2 + (dgs (M 63) (M 62 1) 3 (M 62 2))))) (v := rf g 64) ok mi_X5_readNumber_5 (kd_lt (show kd 62 = 5 from rfl) (by decide)) rfl rfl (cellF_5 _ (by decide)) 4 (by decide) mk_X5_readNumber_25 rfl rfl dX5_readNumber_78 ?_
            refine v_aload_n ok 0 dX5_readNumber_81 rfl rfl ?_
            refine v_get (T := TX5) (N := 6) (f0 := (up (M 62) 2 (M 62 2 + (dgs (M 63) (M 62 1) 3 (M 62 2))))) (v := iv (M 62 5)) ok mi_X5_readNumber_5 (kd_lt (show kd 62 = 5 from rfl) (by decide)) rfl rfl (cellF_5 _ (by decide)) 5 (by decide) mk_X5_readNumber_28 rfl rfl dX5_readNumber_82 ?_
            refine v_iload_n ok 2 dX5_readNumber_85 rfl rfl ?_
            refine v_iast (n := 12) (f0 := (M 64)) ok (by decide) rfl (by omega) rfl dX5_readNumber_86 ?_
            refine v_aload_n ok 0 dX5_readNumber_87 rfl rfl ?_
            refine v_dup ok rfl dX5_readNumber_88 ?_
            refine v_get (T := TX5) (N := 6) (f0 := (up (M 62) 2 (M 62 2 + (dgs (M 63) (M 62 1) 3 (M 62 2))))) (v := iv (M 62 5)) ok mi_X5_readNumber_5 (kd_lt (show kd 62 = 5 from rfl) (by decide)) rfl rfl (cellF_5 _ (by decide)) 5 (by decide) mk_X5_readNumber_28 rfl rfl dX5_readNumber_89 ?_
            refine v_iconst (n := 1) ok dX5_readNumber_92 ?_
            refine v_iadd ok dX5_readNumber_93 ?_
            refine v_put (T := TX5) (N := 6) (f0 := (up (M 62) 2 (M 62 2 + (dgs (M 63) (M 62 1) 3 (M 62 2))))) (f' := up (up (M 62) 2 (M 62 2 + (dgs (M 63) (M 62 1) 3 (M 62 2)))) 5 ((M 62 5) + 1)) (ty := .int) ok mi_X5_readNumber_5 (kd_lt (show kd 62 = 5 from rfl) (by decide)) rfl rfl (cellF_5 _ (by decide)) tyX5 tyX5_ok nmX5 5 (by decide) mk_X5_readNumber_28 rfl rfl (by decide +kernel) rfl rfl (Nat.le_of_ble_eq_true rfl) ((cellF_5 _ (by decide)).trans rfl) dX5_readNumber_94 ?_
            rw [show (up1 (up1 (up1 M 62 (up (M 62) 2 (M 62 2 + (dgs (M 63) (M 62 1) 3 (M 62 2))))) 64 (up (M 64) (M 62 5) v)) 62 (up (up (M 62) 2 (M 62 2 + (dgs (M 63) (M 62 1) 3 (M 62 2)))) 5 ((M 62 5) + 1)) : Mem) = (up1 (up1 M 62 (up (up (M 62) 2 (M 62 2 + (dgs (M 63) (M 62 1) 3 (M 62 2)))) 5 ((M 62 5) + 1))) 64 (up (M 64) (M 62 5) v)) from (by
                  funext j
                  by_cases hj0 : j = 62
                  · subst hj0; simp [up1, up1_self]
                  by_cases hj1 : j = 64
                  · subst hj1; simp [up1, up1_self]
                  simp [up1, hj0, hj1])]
            refine v_iconst (n := 1) ok dX5_readNumber_97 ?_
            exact v_zret ok rt (by omega) dX5_readNumber_98 (Or.inr (⟨rfl, (by rw [i4_2, hdk]), (by omega)⟩))
  rw [show (M : Mem) = (up1 M 62 (up (M 62) 2 (M 62 2 + (0 : Int)))) from (by rw [Int.add_zero, up_self, up1_self])]
  refine v_lv (ls' := [(0, rf g 62), (1, iv 3), (2, iv 0), (3, iv 0)]) ok [2, 3, 1, 0] rfl ?_
  exact lp4 _ 0 0 (by omega) (by simp) rfl (by omega) (Nat.lt_succ_self _)
