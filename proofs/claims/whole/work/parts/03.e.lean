theorem mk_X0_become_9 : Cond.fieldLink RX0 9 "StormRunoff$Basin" "answer" "[I" ∈ wsX0_become := by decide +kernel
theorem mi_X0_become_0 : ∀ w ∈ wsX00, w ∈ wsX0_become := by decide +kernel
theorem ms_X0_become_X9_copyNumbers : Cond.static yX9_copyNumbers ∈ wsX0_become := by decide +kernel
theorem mn_X0_become_X9_copyNumbers : Cond.initialized yX9_copyNumbers.cls ∈ wsX0_become := by decide +kernel
theorem mq_X0_become_X9_copyNumbers : (RX0, 25, yX9_copyNumbers) ∈ nestW := by decide +kernel
theorem mk_X0_become_15 : Cond.fieldLink RX0 15 "StormRunoff$Basin" "places" "I" ∈ wsX0_become := by decide +kernel
theorem mk_X0_become_19 : Cond.fieldLink RX0 19 "StormRunoff$Basin" "kind" "I" ∈ wsX0_become := by decide +kernel
theorem mk_X0_become_22 : Cond.fieldLink RX0 22 "StormRunoff$Basin" "number" "I" ∈ wsX0_become := by decide +kernel
set_option maxRecDepth 100000 in
set_option maxHeartbeats 400000 in
theorem ct_X0_become (l : Launch) (g : Gl) (M : Mem) (b o : Nat) (hb : kd b = 0) (ho : kd o = 0) (hbo : b ≠ o) (hbo1 : (o + 1) ≠ (b + 1)) : Ct l g yX0_become wsX0_become 1 22 [rf g b, rf g o] M (fun rv M' => rv = none ∧ M' = (up1 (up1 M (b + 1) (M (o + 1))) b (up (up (up (M b) 1 (M o 1)) 2 (M o 2)) 3 (M o 3)))) := by
  refine Ct.of (cc := cX0_become) (nL := 2) (ret := none) (by decide) rfl (Nat.le_of_ble_eq_true rfl) (fun z hz ok rt => ?_)
  have ok : Ok z g cX0_become 2 RX0 wsX0_become 1 22 := ok
  show V z g 2 M [(0, rf g b), (1, rf g o)] [] 0
  refine v_aload_n ok 1 dX0_become_0 rfl rfl ?_
  refine v_get (T := TX0) (N := 4) (f0 := (M o)) (v := rf g (o + 1)) ok mi_X0_become_0 (kd_lt ho (by decide)) rfl rfl (cellF_0 _ ho) 0 (by decide) mk_X0_become_9 rfl rfl dX0_become_1 ?_
  refine v_aload_n ok 0 dX0_become_4 rfl rfl ?_
  refine v_get (T := TX0) (N := 4) (f0 := (M b)) (v := rf g (b + 1)) ok mi_X0_become_0 (kd_lt hb (by decide)) rfl rfl (cellF_0 _ hb) 0 (by decide) mk_X0_become_9 rfl rfl dX0_become_5 ?_
  refine v_callN (na := 2) ok (ct_X9_copyNumbers z.2.1 g M (o + 1) (b + 1) 5 (kd_c0_1 ho) (kd_c0_1 hb) (ln_c0_1 ho) (ln_c0_1 hb) hbo1) gX0_become_X9_copyNumbers_n25 mq_X0_become_X9_copyNumbers ms_X0_become_X9_copyNumbers mn_X0_become_X9_copyNumbers rfl (by decide +kernel) rfl (by decide) [] rfl (Nat.le_of_ble_eq_true rfl) dX0_become_8 (fun v2 M3 hp1 => ?_)
  obtain ⟨rfl, rfl⟩ := hp1
  show V z g 2 (up1 M (b + 1) ((M (o + 1)))) [(0, rf g b), (1, rf g o)] [] 11
  refine v_aload_n ok 0 dX0_become_11 rfl rfl ?_
  refine v_aload_n ok 1 dX0_become_12 rfl rfl ?_
  refine v_get (T := TX0) (N := 4) (f0 := (M o)) (v := iv (M o 1)) ok mi_X0_become_0 (kd_lt ho (by decide)) rfl (by rw [up1_ne (kd_ne ho (kd_c0_1 hb) (by decide))]) (cellF_0 _ ho) 1 (by decide) mk_X0_become_15 rfl rfl dX0_become_13 ?_
  refine v_put (T := TX0) (N := 4) (f0 := (M b)) (f' := up (M b) 1 (M o 1)) (ty := .int) ok mi_X0_become_0 (kd_lt hb (by decide)) rfl (by rw [up1_ne (kd_ne hb (kd_c0_1 hb) (by decide))]) (cellF_0 _ hb) tyX0 tyX0_ok nmX0 1 (by decide) mk_X0_become_15 rfl rfl (by decide +kernel) rfl rfl (Nat.le_of_ble_eq_true rfl) ((cellF_0 _ hb).trans rfl) dX0_become_16 ?_
  refine v_aload_n ok 0 dX0_become_19 rfl rfl ?_
  refine v_aload_n ok 1 dX0_become_20 rfl rfl ?_
  refine v_get (T := TX0) (N := 4) (f0 := (M o)) (v := iv (M o 2)) ok mi_X0_become_0 (kd_lt ho (by decide)) rfl (by rw [up1_ne (Ne.symm hbo), up1_ne (kd_ne ho (kd_c0_1 hb) (by decide))]) (cellF_0 _ ho) 2 (by decide) mk_X0_become_19 rfl rfl dX0_become_21 ?_
  refine v_put (T := TX0) (N := 4) (f0 := up (M b) 1 (M o 1)) (f' := up (up (M b) 1 (M o 1)) 2 (M o 2)) (ty := .int) ok mi_X0_become_0 (kd_lt hb (by decide)) rfl (by rw [up1_same]) (cellF_0 _ hb) tyX0 tyX0_ok nmX0 2 (by decide) mk_X0_become_19 rfl rfl (by decide +kernel) rfl rfl (Nat.le_of_ble_eq_true rfl) ((cellF_0 _ hb).trans rfl) dX0_become_24 ?_
  rw [up1_up1]
  refine v_aload_n ok 0 dX0_become_27 rfl rfl ?_
  refine v_aload_n ok 1 dX0_become_28 rfl rfl ?_
  refine v_get (T := TX0) (N := 4) (f0 := (M o)) (v := iv (M o 3)) ok mi_X0_become_0 (kd_lt ho (by decide)) rfl (by rw [up1_ne (Ne.symm hbo), up1_ne (kd_ne ho (kd_c0_1 hb) (by decide))]) (cellF_0 _ ho) 3 (by decide) mk_X0_become_22 rfl rfl dX0_become_29 ?_
  refine v_put (T := TX0) (N := 4) (f0 := up (up (M b) 1 (M o 1)) 2 (M o 2)) (f' := up (up (up (M b) 1 (M o 1)) 2 (M o 2)) 3 (M o 3)) (ty := .int) ok mi_X0_become_0 (kd_lt hb (by decide)) rfl (by rw [up1_same]) (cellF_0 _ hb) tyX0 tyX0_ok nmX0 3 (by decide) mk_X0_become_22 rfl rfl (by decide +kernel) rfl rfl (Nat.le_of_ble_eq_true rfl) ((cellF_0 _ hb).trans rfl) dX0_become_32 ?_
  rw [up1_up1]
  exact v_vret ok rt dX0_become_35 (⟨rfl, rfl⟩)

theorem mk_X0_comeWith_15 : Cond.fieldLink RX0 15 "StormRunoff$Basin" "places" "I" ∈ wsX0_comeWith := by decide +kernel
theorem mi_X0_comeWith_0 : ∀ w ∈ wsX00, w ∈ wsX0_comeWith := by decide +kernel
theorem mk_X0_comeWith_9 : Cond.fieldLink RX0 9 "StormRunoff$Basin" "answer" "[I" ∈ wsX0_comeWith := by decide +kernel
theorem mk_X0_comeWith_19 : Cond.fieldLink RX0 19 "StormRunoff$Basin" "kind" "I" ∈ wsX0_comeWith := by decide +kernel
theorem mk_X0_comeWith_22 : Cond.fieldLink RX0 22 "StormRunoff$Basin" "number" "I" ∈ wsX0_comeWith := by decide +kernel
set_option maxRecDepth 100000 in
set_option maxHeartbeats 400000 in
theorem ct_X0_comeWith (l : Launch) (g : Gl) (M : Mem) (b : Nat) (v : Int) (hb : kd b = 0) (hv : 1 ≤ v ∧ v ≤ 99999) : Ct l g yX0_comeWith wsX0_comeWith 0 0 [rf g b, iv v] M (fun rv M' => rv = none ∧ M' = (up1 (up1 M b (up (up (up (M b) 1 (dgn v)) 2 0) 3 0)) (b + 1) (dgt v (dgn v)))) := by
  refine Ct.of (cc := cX0_comeWith) (nL := 4) (ret := none) (by decide) rfl (Nat.le_of_ble_eq_true rfl) (fun z hz ok rt => ?_)
  have ok : Ok z g cX0_comeWith 4 RX0 wsX0_comeWith 0 0 := ok
  show V z g 4 M [(0, rf g b), (1, iv v)] [] 0
  refine v_aload_n ok 0 dX0_comeWith_0 rfl rfl ?_
  refine v_iconst (n := 0) ok dX0_comeWith_1 ?_
  refine v_put (T := TX0) (N := 4) (f0 := (M b)) (f' := up (M b) 1 0) (ty := .int) ok mi_X0_comeWith_0 (kd_lt hb (by decide)) rfl rfl (cellF_0 _ hb) tyX0 tyX0_ok nmX0 1 (by decide) mk_X0_comeWith_15 rfl rfl (by decide +kernel) rfl rfl (Nat.le_of_ble_eq_true rfl) ((cellF_0 _ hb).trans rfl) dX0_comeWith_2 ?_
  refine v_iload_n ok 1 dX0_comeWith_5 rfl rfl ?_
  refine v_istore_n ok [(2, iv v), (0, rf g b), (1, iv v)] dX0_comeWith_6 rfl (by decide) rfl ?_
  refine v_iload_n ok 0 dX0_comeWith_7 rfl rfl ?_
  refine v_if_le (tgt := 41) ok ⟨by omega, by omega⟩ dX0_comeWith_8 (by decide) (fun c1 => absurd c1 (by omega)) (fun c1 => ?_)
  refine v_aload_n ok 1 dX0_comeWith_11 rfl rfl ?_
  refine v_get (T := TX0) (N := 4) (f0 := up (M b) 1 0) (v := iv 0) ok mi_X0_comeWith_0 (kd_lt hb (by decide)) rfl (by rw [up1_same]) (cellF_0 _ hb) 1 (by decide) mk_X0_comeWith_15 rfl rfl dX0_comeWith_12 ?_
  refine v_aload_n ok 1 dX0_comeWith_15 rfl rfl ?_
  refine v_get (T := TX0) (N := 4) (f0 := up (M b) 1 0) (v := rf g (b + 1)) ok mi_X0_comeWith_0 (kd_lt hb (by decide)) rfl (by rw [up1_same]) (cellF_0 _ hb) 0 (by decide) mk_X0_comeWith_9 rfl rfl dX0_comeWith_16 ?_
  refine v_alen (n := 5) ok (Or.inl (kd_c0_1 hb)) (ln_c0_1 hb) dX0_comeWith_19 ?_
  refine v_icmp_ge (tgt := 41) ok (by decide) (by decide) dX0_comeWith_20 (by decide) (fun c2 => absurd c2 (by decide)) (fun c2 => ?_)
  refine v_aload_n ok 1 dX0_comeWith_23 rfl rfl ?_
  refine v_dup ok rfl dX0_comeWith_24 ?_
  refine v_get (T := TX0) (N := 4) (f0 := up (M b) 1 0) (v := iv 0) ok mi_X0_comeWith_0 (kd_lt hb (by decide)) rfl (by rw [up1_same]) (cellF_0 _ hb) 1 (by decide) mk_X0_comeWith_15 rfl rfl dX0_comeWith_25 ?_
  refine v_iconst (n := 1) ok dX0_comeWith_28 ?_
  refine v_iadd ok dX0_comeWith_29 ?_
  show V z g 4 (up1 M b (up (M b) 1 0)) [(2, iv v), (0, rf g b), (1, iv v)] [iv 1, rf g b] 30
  refine v_put (T := TX0) (N := 4) (f0 := up (M b) 1 0) (f' := up (up (M b) 1 0) 1 1) (ty := .int) ok mi_X0_comeWith_0 (kd_lt hb (by decide)) rfl (by rw [up1_same]) (cellF_0 _ hb) tyX0 tyX0_ok nmX0 1 (by decide) mk_X0_comeWith_15 rfl rfl (by decide +kernel) rfl rfl (Nat.le_of_ble_eq_true rfl) ((cellF_0 _ hb).trans rfl) dX0_comeWith_30 ?_
  rw [up_up]
  rw [up1_up1]
  refine v_iload_n ok 0 dX0_comeWith_33 rfl rfl ?_
  refine v_bipush (n := 10) ok rfl dX0_comeWith_34 ?_
  refine v_idiv ok (by omega) (by omega) dX0_comeWith_36 ?_
  refine v_istore_n ok [(2, iv (v / 10)), (0, rf g b), (1, iv v)] dX0_comeWith_37 rfl (by decide) rfl ?_
  refine v_goto (tgt := 7) ok dX0_comeWith_38 (by decide) ?_
  refine v_iload_n ok 0 dX0_comeWith_7 rfl rfl ?_
  refine v_if_le (tgt := 41) ok ⟨by omega, by omega⟩ dX0_comeWith_8 (by decide) (fun c3 => ?_) (fun c3 => ?_)
  · skip
    refine v_iload_n ok 2 dX0_comeWith_41 rfl rfl ?_
    refine v_istore_n ok [(2, iv v), (0, rf g b), (1, iv v)] dX0_comeWith_42 rfl (by decide) rfl ?_
    refine v_aload_n ok 1 dX0_comeWith_43 rfl rfl ?_
    refine v_get (T := TX0) (N := 4) (f0 := up (M b) 1 1) (v := rf g (b + 1)) ok mi_X0_comeWith_0 (kd_lt hb (by decide)) rfl (by rw [up1_same]) (cellF_0 _ hb) 0 (by decide) mk_X0_comeWith_9 rfl rfl dX0_comeWith_44 ?_
    refine v_alen (n := 5) ok (Or.inl (kd_c0_1 hb)) (ln_c0_1 hb) dX0_comeWith_47 ?_
    refine v_iconst (n := 1) ok dX0_comeWith_48 ?_
    refine v_isub ok dX0_comeWith_49 ?_
    show V z g 4 (up1 M b (up (M b) 1 1)) [(2, iv v), (0, rf g b), (1, iv v)] [iv 4] 50
    refine v_istore_n ok [(3, iv 4), (2, iv v), (0, rf g b), (1, iv v)] dX0_comeWith_50 rfl (by decide) rfl ?_
    refine v_iload_n ok 0 dX0_comeWith_51 rfl rfl ?_
    refine v_if_lt (tgt := 100) ok (by decide) dX0_comeWith_52 (by decide) (fun c4 => absurd c4 (by decide)) (fun c4 => ?_)
    refine v_aload_n ok 2 dX0_comeWith_55 rfl rfl ?_
    refine v_get (T := TX0) (N := 4) (f0 := up (M b) 1 1) (v := rf g (b + 1)) ok mi_X0_comeWith_0 (kd_lt hb (by decide)) rfl (by rw [up1_same]) (cellF_0 _ hb) 0 (by decide) mk_X0_comeWith_9 rfl rfl dX0_comeWith_56 ?_
    refine v_iload_n ok 0 dX0_comeWith_59 rfl rfl ?_
    refine v_iload_n ok 0 dX0_comeWith_60 rfl rfl ?_
    refine v_aload_n ok 2 dX0_comeWith_61 rfl rfl ?_
    refine v_get (T := TX0) (N := 4) (f0 := up (M b) 1 1) (v := iv 1) ok mi_X0_comeWith_0 (kd_lt hb (by decide)) rfl (by rw [up1_same]) (cellF_0 _ hb) 1 (by decide) mk_X0_comeWith_15 rfl rfl dX0_comeWith_62 ?_
    refine v_icmp_ge (tgt := 75) ok (by decide) (by decide) dX0_comeWith_65 (by decide) (fun c5 => ?_) (fun c5 => absurd c5 (by decide))
    refine v_iconst (n := 0) ok dX0_comeWith_75 ?_
    refine v_iast (n := 5) (f0 := (M (b + 1))) ok (kd_c0_1 hb) (ln_c0_1 hb) (by omega) (by rw [up1_ne (kd_ne (kd_c0_1 hb) hb (by decide))]) dX0_comeWith_76 ?_
    refine v_iload_n ok 0 dX0_comeWith_77 rfl rfl ?_
    refine v_aload_n ok 2 dX0_comeWith_78 rfl rfl ?_
    refine v_get (T := TX0) (N := 4) (f0 := up (M b) 1 1) (v := iv 1) ok mi_X0_comeWith_0 (kd_lt hb (by decide)) rfl (by rw [up1_ne (kd_ne hb (kd_c0_1 hb) (by decide)), up1_same]) (cellF_0 _ hb) 1 (by decide) mk_X0_comeWith_15 rfl rfl dX0_comeWith_79 ?_
    refine v_icmp_ge (tgt := 92) ok (by decide) (by decide) dX0_comeWith_82 (by decide) (fun c6 => ?_) (fun c6 => absurd c6 (by decide))
    refine v_iload_n ok 1 dX0_comeWith_92 rfl rfl ?_
    refine v_istore_n ok [(2, iv v), (3, iv 4), (0, rf g b), (1, iv v)] dX0_comeWith_93 rfl (by decide) rfl ?_
    refine v_iinc ok 1 [(3, iv 3), (2, iv v), (0, rf g b), (1, iv v)] dX0_comeWith_94 rfl (by decide) rfl ?_
    refine v_goto (tgt := 51) ok dX0_comeWith_97 (by decide) ?_
    refine v_iload_n ok 0 dX0_comeWith_51 rfl rfl ?_
    refine v_if_lt (tgt := 100) ok (by decide) dX0_comeWith_52 (by decide) (fun c7 => absurd c7 (by decide)) (fun c7 => ?_)
    refine v_aload_n ok 2 dX0_comeWith_55 rfl rfl ?_
    refine v_get (T := TX0) (N := 4) (f0 := up (M b) 1 1) (v := rf g (b + 1)) ok mi_X0_comeWith_0 (kd_lt hb (by decide)) rfl (by rw [up1_ne (kd_ne hb (kd_c0_1 hb) (by decide)), up1_same]) (cellF_0 _ hb) 0 (by decide) mk_X0_comeWith_9 rfl rfl dX0_comeWith_56 ?_
    refine v_iload_n ok 0 dX0_comeWith_59 rfl rfl ?_
    refine v_iload_n ok 0 dX0_comeWith_60 rfl rfl ?_
    refine v_aload_n ok 2 dX0_comeWith_61 rfl rfl ?_
    refine v_get (T := TX0) (N := 4) (f0 := up (M b) 1 1) (v := iv 1) ok mi_X0_comeWith_0 (kd_lt hb (by decide)) rfl (by rw [up1_ne (kd_ne hb (kd_c0_1 hb) (by decide)), up1_same]) (cellF_0 _ hb) 1 (by decide) mk_X0_comeWith_15 rfl rfl dX0_comeWith_62 ?_
    refine v_icmp_ge (tgt := 75) ok (by decide) (by decide) dX0_comeWith_65 (by decide) (fun c8 => ?_) (fun c8 => absurd c8 (by decide))
    refine v_iconst (n := 0) ok dX0_comeWith_75 ?_
    refine v_iast (n := 5) (f0 := up (M (b + 1)) 4 0) ok (kd_c0_1 hb) (ln_c0_1 hb) (by omega) (by rw [up1_same]) dX0_comeWith_76 ?_
    rw [up1_up1]
    refine v_iload_n ok 0 dX0_comeWith_77 rfl rfl ?_
    refine v_aload_n ok 2 dX0_comeWith_78 rfl rfl ?_
    refine v_get (T := TX0) (N := 4) (f0 := up (M b) 1 1) (v := iv 1) ok mi_X0_comeWith_0 (kd_lt hb (by decide)) rfl (by rw [up1_ne (kd_ne hb (kd_c0_1 hb) (by decide)), up1_same]) (cellF_0 _ hb) 1 (by decide) mk_X0_comeWith_15 rfl rfl dX0_comeWith_79 ?_
    refine v_icmp_ge (tgt := 92) ok (by decide) (by decide) dX0_comeWith_82 (by decide) (fun c9 => ?_) (fun c9 => absurd c9 (by decide))
    refine v_iload_n ok 1 dX0_comeWith_92 rfl rfl ?_
    refine v_istore_n ok [(2, iv v), (3, iv 3), (0, rf g b), (1, iv v)] dX0_comeWith_93 rfl (by decide) rfl ?_
    refine v_iinc ok 1 [(3, iv 2), (2, iv v), (0, rf g b), (1, iv v)] dX0_comeWith_94 rfl (by decide) rfl ?_
    refine v_goto (tgt := 51) ok dX0_comeWith_97 (by decide) ?_
    refine v_iload_n ok 0 dX0_comeWith_51 rfl rfl ?_
    refine v_if_lt (tgt := 100) ok (by decide) dX0_comeWith_52 (by decide) (fun c10 => absurd c10 (by decide)) (fun c10 => ?_)
    refine v_aload_n ok 2 dX0_comeWith_55 rfl rfl ?_
    refine v_get (T := TX0) (N := 4) (f0 := up (M b) 1 1) (v := rf g (b + 1)) ok mi_X0_comeWith_0 (kd_lt hb (by decide)) rfl (by rw [up1_ne (kd_ne hb (kd_c0_1 hb) (by decide)), up1_same]) (cellF_0 _ hb) 0 (by decide) mk_X0_comeWith_9 rfl rfl dX0_comeWith_56 ?_
    refine v_iload_n ok 0 dX0_comeWith_59 rfl rfl ?_
    refine v_iload_n ok 0 dX0_comeWith_60 rfl rfl ?_
    refine v_aload_n ok 2 dX0_comeWith_61 rfl rfl ?_
    refine v_get (T := TX0) (N := 4) (f0 := up (M b) 1 1) (v := iv 1) ok mi_X0_comeWith_0 (kd_lt hb (by decide)) rfl (by rw [up1_ne (kd_ne hb (kd_c0_1 hb) (by decide)), up1_same]) (cellF_0 _ hb) 1 (by decide) mk_X0_comeWith_15 rfl rfl dX0_comeWith_62 ?_
    refine v_icmp_ge (tgt := 75) ok (by decide) (by decide) dX0_comeWith_65 (by decide) (fun c11 => ?_) (fun c11 => absurd c11 (by decide))
    refine v_iconst (n := 0) ok dX0_comeWith_75 ?_
    refine v_iast (n := 5) (f0 := up (up (M (b + 1)) 4 0) 3 0) ok (kd_c0_1 hb) (ln_c0_1 hb) (by omega) (by rw [up1_same]) dX0_comeWith_76 ?_
    rw [up1_up1]
    refine v_iload_n ok 0 dX0_comeWith_77 rfl rfl ?_
    refine v_aload_n ok 2 dX0_comeWith_78 rfl rfl ?_
    refine v_get (T := TX0) (N := 4) (f0 := up (M b) 1 1) (v := iv 1) ok mi_X0_comeWith_0 (kd_lt hb (by decide)) rfl (by rw [up1_ne (kd_ne hb (kd_c0_1 hb) (by decide)), up1_same]) (cellF_0 _ hb) 1 (by decide) mk_X0_comeWith_15 rfl rfl dX0_comeWith_79 ?_
    refine v_icmp_ge (tgt := 92) ok (by decide) (by decide) dX0_comeWith_82 (by decide) (fun c12 => ?_) (fun c12 => absurd c12 (by decide))
    refine v_iload_n ok 1 dX0_comeWith_92 rfl rfl ?_
    refine v_istore_n ok [(2, iv v), (3, iv 2), (0, rf g b), (1, iv v)] dX0_comeWith_93 rfl (by decide) rfl ?_
    refine v_iinc ok 1 [(3, iv 1), (2, iv v), (0, rf g b), (1, iv v)] dX0_comeWith_94 rfl (by decide) rfl ?_
    refine v_goto (tgt := 51) ok dX0_comeWith_97 (by decide) ?_
    refine v_iload_n ok 0 dX0_comeWith_51 rfl rfl ?_
    refine v_if_lt (tgt := 100) ok (by decide) dX0_comeWith_52 (by decide) (fun c13 => absurd c13 (by decide)) (fun c13 => ?_)
    refine v_aload_n ok 2 dX0_comeWith_55 rfl rfl ?_
    refine v_get (T := TX0) (N := 4) (f0 := up (M b) 1 1) (v := rf g (b + 1)) ok mi_X0_comeWith_0 (kd_lt hb (by decide)) rfl (by rw [up1_ne (kd_ne hb (kd_c0_1 hb) (by decide)), up1_same]) (cellF_0 _ hb) 0 (by decide) mk_X0_comeWith_9 rfl rfl dX0_comeWith_56 ?_
    refine v_iload_n ok 0 dX0_comeWith_59 rfl rfl ?_
    refine v_iload_n ok 0 dX0_comeWith_60 rfl rfl ?_
    refine v_aload_n ok 2 dX0_comeWith_61 rfl rfl ?_
    refine v_get (T := TX0) (N := 4) (f0 := up (M b) 1 1) (v := iv 1) ok mi_X0_comeWith_0 (kd_lt hb (by decide)) rfl (by rw [up1_ne (kd_ne hb (kd_c0_1 hb) (by decide)), up1_same]) (cellF_0 _ hb) 1 (by decide) mk_X0_comeWith_15 rfl rfl dX0_comeWith_62 ?_
    refine v_icmp_ge (tgt := 75) ok (by decide) (by decide) dX0_comeWith_65 (by decide) (fun c14 => ?_) (fun c14 => absurd c14 (by decide))
    refine v_iconst (n := 0) ok dX0_comeWith_75 ?_
    refine v_iast (n := 5) (f0 := up (up (up (M (b + 1)) 4 0) 3 0) 2 0) ok (kd_c0_1 hb) (ln_c0_1 hb) (by omega) (by rw [up1_same]) dX0_comeWith_76 ?_
    rw [up1_up1]
    refine v_iload_n ok 0 dX0_comeWith_77 rfl rfl ?_
    refine v_aload_n ok 2 dX0_comeWith_78 rfl rfl ?_
    refine v_get (T := TX0) (N := 4) (f0 := up (M b) 1 1) (v := iv 1) ok mi_X0_comeWith_0 (kd_lt hb (by decide)) rfl (by rw [up1_ne (kd_ne hb (kd_c0_1 hb) (by decide)), up1_same]) (cellF_0 _ hb) 1 (by decide) mk_X0_comeWith_15 rfl rfl dX0_comeWith_79 ?_
    refine v_icmp_ge (tgt := 92) ok (by decide) (by decide) dX0_comeWith_82 (by decide) (fun c15 => ?_) (fun c15 => absurd c15 (by decide))
    refine v_iload_n ok 1 dX0_comeWith_92 rfl rfl ?_
    refine v_istore_n ok [(2, iv v), (3, iv 1), (0, rf g b), (1, iv v)] dX0_comeWith_93 rfl (by decide) rfl ?_
    refine v_iinc ok 1 [(3, iv 0), (2, iv v), (0, rf g b), (1, iv v)] dX0_comeWith_94 rfl (by decide) rfl ?_
    refine v_goto (tgt := 51) ok dX0_comeWith_97 (by decide) ?_
    refine v_iload_n ok 0 dX0_comeWith_51 rfl rfl ?_
    refine v_if_lt (tgt := 100) ok (by decide) dX0_comeWith_52 (by decide) (fun c16 => absurd c16 (by decide)) (fun c16 => ?_)
    refine v_aload_n ok 2 dX0_comeWith_55 rfl rfl ?_
    refine v_get (T := TX0) (N := 4) (f0 := up (M b) 1 1) (v := rf g (b + 1)) ok mi_X0_comeWith_0 (kd_lt hb (by decide)) rfl (by rw [up1_ne (kd_ne hb (kd_c0_1 hb) (by decide)), up1_same]) (cellF_0 _ hb) 0 (by decide) mk_X0_comeWith_9 rfl rfl dX0_comeWith_56 ?_
    refine v_iload_n ok 0 dX0_comeWith_59 rfl rfl ?_
    refine v_iload_n ok 0 dX0_comeWith_60 rfl rfl ?_
    refine v_aload_n ok 2 dX0_comeWith_61 rfl rfl ?_
    refine v_get (T := TX0) (N := 4) (f0 := up (M b) 1 1) (v := iv 1) ok mi_X0_comeWith_0 (kd_lt hb (by decide)) rfl (by rw [up1_ne (kd_ne hb (kd_c0_1 hb) (by decide)), up1_same]) (cellF_0 _ hb) 1 (by decide) mk_X0_comeWith_15 rfl rfl dX0_comeWith_62 ?_
    refine v_icmp_ge (tgt := 75) ok (by decide) (by decide) dX0_comeWith_65 (by decide) (fun c17 => absurd c17 (by decide)) (fun c17 => ?_)
    refine v_iload_n ok 1 dX0_comeWith_68 rfl rfl ?_
    refine v_bipush (n := 10) ok rfl dX0_comeWith_69 ?_
    refine v_irem ok (by omega) (by omega) dX0_comeWith_71 ?_
    refine v_goto (tgt := 76) ok dX0_comeWith_72 (by decide) ?_
    refine v_iast (n := 5) (f0 := up (up (up (up (M (b + 1)) 4 0) 3 0) 2 0) 1 0) ok (kd_c0_1 hb) (ln_c0_1 hb) (by omega) (by rw [up1_same]) dX0_comeWith_76 ?_
    rw [up1_up1]
    refine v_iload_n ok 0 dX0_comeWith_77 rfl rfl ?_
    refine v_aload_n ok 2 dX0_comeWith_78 rfl rfl ?_
    refine v_get (T := TX0) (N := 4) (f0 := up (M b) 1 1) (v := iv 1) ok mi_X0_comeWith_0 (kd_lt hb (by decide)) rfl (by rw [up1_ne (kd_ne hb (kd_c0_1 hb) (by decide)), up1_same]) (cellF_0 _ hb) 1 (by decide) mk_X0_comeWith_15 rfl rfl dX0_comeWith_79 ?_
    refine v_icmp_ge (tgt := 92) ok (by decide) (by decide) dX0_comeWith_82 (by decide) (fun c18 => absurd c18 (by decide)) (fun c18 => ?_)
    refine v_iload_n ok 1 dX0_comeWith_85 rfl rfl ?_
    refine v_bipush (n := 10) ok rfl dX0_comeWith_86 ?_
    refine v_idiv ok (by omega) (by omega) dX0_comeWith_88 ?_
    refine v_goto (tgt := 93) ok dX0_comeWith_89 (by decide) ?_
    refine v_istore_n ok [(2, iv (v / 10)), (3, iv 0), (0, rf g b), (1, iv v)] dX0_comeWith_93 rfl (by decide) rfl ?_
    refine v_iinc ok 1 [(3, iv (-1)), (2, iv (v / 10)), (0, rf g b), (1, iv v)] dX0_comeWith_94 rfl (by decide) rfl ?_
    refine v_goto (tgt := 51) ok dX0_comeWith_97 (by decide) ?_
    refine v_iload_n ok 0 dX0_comeWith_51 rfl rfl ?_
    refine v_if_lt (tgt := 100) ok (by decide) dX0_comeWith_52 (by decide) (fun c19 => ?_) (fun c19 => absurd c19 (by decide))
    refine v_aload_n ok 2 dX0_comeWith_100 rfl rfl ?_
    refine v_iconst (n := 0) ok dX0_comeWith_101 ?_
    refine v_put (T := TX0) (N := 4) (f0 := up (M b) 1 1) (f' := up (up (M b) 1 1) 2 0) (ty := .int) ok mi_X0_comeWith_0 (kd_lt hb (by decide)) rfl (by rw [up1_ne (kd_ne hb (kd_c0_1 hb) (by decide)), up1_same]) (cellF_0 _ hb) tyX0 tyX0_ok nmX0 2 (by decide) mk_X0_comeWith_19 rfl rfl (by decide +kernel) rfl rfl (Nat.le_of_ble_eq_true rfl) ((cellF_0 _ hb).trans rfl) dX0_comeWith_102 ?_
    rw [show (up1 (up1 (up1 M b (up (M b) 1 1)) (b + 1) (up (up (up (up (up (M (b + 1)) 4 0) 3 0) 2 0) 1 0) 0 (v % 10))) b (up (up (M b) 1 1) 2 0) : Mem) = (up1 (up1 M b (up (up (M b) 1 1) 2 0)) (b + 1) (up (up (up (up (up (M (b + 1)) 4 0) 3 0) 2 0) 1 0) 0 (v % 10))) from (by
          funext j
          by_cases hj0 : j = b
          · simp_all [up1, up1_self]
          by_cases hj1 : j = (b + 1)
          · simp_all [up1, up1_self]
          simp [up1, hj0, hj1])]
    refine v_aload_n ok 2 dX0_comeWith_105 rfl rfl ?_
    refine v_iconst (n := 0) ok dX0_comeWith_106 ?_
    refine v_put (T := TX0) (N := 4) (f0 := up (up (M b) 1 1) 2 0) (f' := up (up (up (M b) 1 1) 2 0) 3 0) (ty := .int) ok mi_X0_comeWith_0 (kd_lt hb (by decide)) rfl (by rw [up1_ne (kd_ne hb (kd_c0_1 hb) (by decide)), up1_same]) (cellF_0 _ hb) tyX0 tyX0_ok nmX0 3 (by decide) mk_X0_comeWith_22 rfl rfl (by decide +kernel) rfl rfl (Nat.le_of_ble_eq_true rfl) ((cellF_0 _ hb).trans rfl) dX0_comeWith_107 ?_
    rw [show (up1 (up1 (up1 M b (up (up (M b) 1 1) 2 0)) (b + 1) (up (up (up (up (up (M (b + 1)) 4 0) 3 0) 2 0) 1 0) 0 (v % 10))) b (up (up (up (M b) 1 1) 2 0) 3 0) : Mem) = (up1 (up1 M b (up (up (up (M b) 1 1) 2 0) 3 0)) (b + 1) (up (up (up (up (up (M (b + 1)) 4 0) 3 0) 2 0) 1 0) 0 (v % 10))) from (by
          funext j
          by_cases hj0 : j = b
          · simp_all [up1, up1_self]
          by_cases hj1 : j = (b + 1)
          · simp_all [up1, up1_self]
          simp [up1, hj0, hj1])]
    have hd : dgn v = 1 := by unfold dgn; (repeat' split) <;> omega
    refine v_cong (n := 5) (dgt v (dgn v)) (Or.inl (kd_c0_1 hb)) (ln_c0_1 hb) (fun k k0 k1 => by
        rw [hd]
        have e : k = 0 ∨ k = 1 ∨ k = 2 ∨ k = 3 ∨ k = 4 := by omega
        rcases e with rfl | rfl | rfl | rfl | rfl <;> simp [up, dgt, p10] <;> omega) ?_
    exact v_vret ok rt dX0_comeWith_110 (⟨rfl, (by rw [hd])⟩)
  · skip
    refine v_aload_n ok 1 dX0_comeWith_11 rfl rfl ?_
    refine v_get (T := TX0) (N := 4) (f0 := up (M b) 1 1) (v := iv 1) ok mi_X0_comeWith_0 (kd_lt hb (by decide)) rfl (by rw [up1_same]) (cellF_0 _ hb) 1 (by decide) mk_X0_comeWith_15 rfl rfl dX0_comeWith_12 ?_
    refine v_aload_n ok 1 dX0_comeWith_15 rfl rfl ?_
    refine v_get (T := TX0) (N := 4) (f0 := up (M b) 1 1) (v := rf g (b + 1)) ok mi_X0_comeWith_0 (kd_lt hb (by decide)) rfl (by rw [up1_same]) (cellF_0 _ hb) 0 (by decide) mk_X0_comeWith_9 rfl rfl dX0_comeWith_16 ?_
    refine v_alen (n := 5) ok (Or.inl (kd_c0_1 hb)) (ln_c0_1 hb) dX0_comeWith_19 ?_
    refine v_icmp_ge (tgt := 41) ok (by decide) (by decide) dX0_comeWith_20 (by decide) (fun c20 => absurd c20 (by decide)) (fun c20 => ?_)
    refine v_aload_n ok 1 dX0_comeWith_23 rfl rfl ?_
    refine v_dup ok rfl dX0_comeWith_24 ?_
    refine v_get (T := TX0) (N := 4) (f0 := up (M b) 1 1) (v := iv 1) ok mi_X0_comeWith_0 (kd_lt hb (by decide)) rfl (by rw [up1_same]) (cellF_0 _ hb) 1 (by decide) mk_X0_comeWith_15 rfl rfl dX0_comeWith_25 ?_
    refine v_iconst (n := 1) ok dX0_comeWith_28 ?_
    refine v_iadd ok dX0_comeWith_29 ?_
    show V z g 4 (up1 M b (up (M b) 1 1)) [(2, iv (v / 10)), (0, rf g b), (1, iv v)] [iv 2, rf g b] 30
    refine v_put (T := TX0) (N := 4) (f0 := up (M b) 1 1) (f' := up (up (M b) 1 1) 1 2) (ty := .int) ok mi_X0_comeWith_0 (kd_lt hb (by decide)) rfl (by rw [up1_same]) (cellF_0 _ hb) tyX0 tyX0_ok nmX0 1 (by decide) mk_X0_comeWith_15 rfl rfl (by decide +kernel) rfl rfl (Nat.le_of_ble_eq_true rfl) ((cellF_0 _ hb).trans rfl) dX0_comeWith_30 ?_
    rw [up_up]
    rw [up1_up1]
    refine v_iload_n ok 0 dX0_comeWith_33 rfl rfl ?_
    refine v_bipush (n := 10) ok rfl dX0_comeWith_34 ?_
    refine v_idiv ok (by omega) (by omega) dX0_comeWith_36 ?_
    refine v_istore_n ok [(2, iv ((v / 10) / 10)), (0, rf g b), (1, iv v)] dX0_comeWith_37 rfl (by decide) rfl ?_
    refine v_goto (tgt := 7) ok dX0_comeWith_38 (by decide) ?_
    refine v_iload_n ok 0 dX0_comeWith_7 rfl rfl ?_
    refine v_if_le (tgt := 41) ok ⟨by omega, by omega⟩ dX0_comeWith_8 (by decide) (fun c21 => ?_) (fun c21 => ?_)
    · skip
      refine v_iload_n ok 2 dX0_comeWith_41 rfl rfl ?_
      refine v_istore_n ok [(2, iv v), (0, rf g b), (1, iv v)] dX0_comeWith_42 rfl (by decide) rfl ?_
      refine v_aload_n ok 1 dX0_comeWith_43 rfl rfl ?_
      refine v_get (T := TX0) (N := 4) (f0 := up (M b) 1 2) (v := rf g (b + 1)) ok mi_X0_comeWith_0 (kd_lt hb (by decide)) rfl (by rw [up1_same]) (cellF_0 _ hb) 0 (by decide) mk_X0_comeWith_9 rfl rfl dX0_comeWith_44 ?_
      refine v_alen (n := 5) ok (Or.inl (kd_c0_1 hb)) (ln_c0_1 hb) dX0_comeWith_47 ?_
      refine v_iconst (n := 1) ok dX0_comeWith_48 ?_
      refine v_isub ok dX0_comeWith_49 ?_
      show V z g 4 (up1 M b (up (M b) 1 2)) [(2, iv v), (0, rf g b), (1, iv v)] [iv 4] 50
      refine v_istore_n ok [(3, iv 4), (2, iv v), (0, rf g b), (1, iv v)] dX0_comeWith_50 rfl (by decide) rfl ?_
      refine v_iload_n ok 0 dX0_comeWith_51 rfl rfl ?_
      refine v_if_lt (tgt := 100) ok (by decide) dX0_comeWith_52 (by decide) (fun c22 => absurd c22 (by decide)) (fun c22 => ?_)
      refine v_aload_n ok 2 dX0_comeWith_55 rfl rfl ?_
      refine v_get (T := TX0) (N := 4) (f0 := up (M b) 1 2) (v := rf g (b + 1)) ok mi_X0_comeWith_0 (kd_lt hb (by decide)) rfl (by rw [up1_same]) (cellF_0 _ hb) 0 (by decide) mk_X0_comeWith_9 rfl rfl dX0_comeWith_56 ?_
      refine v_iload_n ok 0 dX0_comeWith_59 rfl rfl ?_
      refine v_iload_n ok 0 dX0_comeWith_60 rfl rfl ?_
      refine v_aload_n ok 2 dX0_comeWith_61 rfl rfl ?_
      refine v_get (T := TX0) (N := 4) (f0 := up (M b) 1 2) (v := iv 2) ok mi_X0_comeWith_0 (kd_lt hb (by decide)) rfl (by rw [up1_same]) (cellF_0 _ hb) 1 (by decide) mk_X0_comeWith_15 rfl rfl dX0_comeWith_62 ?_
      refine v_icmp_ge (tgt := 75) ok (by decide) (by decide) dX0_comeWith_65 (by decide) (fun c23 => ?_) (fun c23 => absurd c23 (by decide))
      refine v_iconst (n := 0) ok dX0_comeWith_75 ?_
      refine v_iast (n := 5) (f0 := (M (b + 1))) ok (kd_c0_1 hb) (ln_c0_1 hb) (by omega) (by rw [up1_ne (kd_ne (kd_c0_1 hb) hb (by decide))]) dX0_comeWith_76 ?_
      refine v_iload_n ok 0 dX0_comeWith_77 rfl rfl ?_
      refine v_aload_n ok 2 dX0_comeWith_78 rfl rfl ?_
      refine v_get (T := TX0) (N := 4) (f0 := up (M b) 1 2) (v := iv 2) ok mi_X0_comeWith_0 (kd_lt hb (by decide)) rfl (by rw [up1_ne (kd_ne hb (kd_c0_1 hb) (by decide)), up1_same]) (cellF_0 _ hb) 1 (by decide) mk_X0_comeWith_15 rfl rfl dX0_comeWith_79 ?_
      refine v_icmp_ge (tgt := 92) ok (by decide) (by decide) dX0_comeWith_82 (by decide) (fun c24 => ?_) (fun c24 => absurd c24 (by decide))
      refine v_iload_n ok 1 dX0_comeWith_92 rfl rfl ?_
      refine v_istore_n ok [(2, iv v), (3, iv 4), (0, rf g b), (1, iv v)] dX0_comeWith_93 rfl (by decide) rfl ?_
      refine v_iinc ok 1 [(3, iv 3), (2, iv v), (0, rf g b), (1, iv v)] dX0_comeWith_94 rfl (by decide) rfl ?_
      refine v_goto (tgt := 51) ok dX0_comeWith_97 (by decide) ?_
      refine v_iload_n ok 0 dX0_comeWith_51 rfl rfl ?_
      refine v_if_lt (tgt := 100) ok (by decide) dX0_comeWith_52 (by decide) (fun c25 => absurd c25 (by decide)) (fun c25 => ?_)
      refine v_aload_n ok 2 dX0_comeWith_55 rfl rfl ?_
      refine v_get (T := TX0) (N := 4) (f0 := up (M b) 1 2) (v := rf g (b + 1)) ok mi_X0_comeWith_0 (kd_lt hb (by decide)) rfl (by rw [up1_ne (kd_ne hb (kd_c0_1 hb) (by decide)), up1_same]) (cellF_0 _ hb) 0 (by decide) mk_X0_comeWith_9 rfl rfl dX0_comeWith_56 ?_
      refine v_iload_n ok 0 dX0_comeWith_59 rfl rfl ?_
      refine v_iload_n ok 0 dX0_comeWith_60 rfl rfl ?_
      refine v_aload_n ok 2 dX0_comeWith_61 rfl rfl ?_
      refine v_get (T := TX0) (N := 4) (f0 := up (M b) 1 2) (v := iv 2) ok mi_X0_comeWith_0 (kd_lt hb (by decide)) rfl (by rw [up1_ne (kd_ne hb (kd_c0_1 hb) (by decide)), up1_same]) (cellF_0 _ hb) 1 (by decide) mk_X0_comeWith_15 rfl rfl dX0_comeWith_62 ?_
      refine v_icmp_ge (tgt := 75) ok (by decide) (by decide) dX0_comeWith_65 (by decide) (fun c26 => ?_) (fun c26 => absurd c26 (by decide))
      refine v_iconst (n := 0) ok dX0_comeWith_75 ?_
      refine v_iast (n := 5) (f0 := up (M (b + 1)) 4 0) ok (kd_c0_1 hb) (ln_c0_1 hb) (by omega) (by rw [up1_same]) dX0_comeWith_76 ?_
      rw [up1_up1]
      refine v_iload_n ok 0 dX0_comeWith_77 rfl rfl ?_
      refine v_aload_n ok 2 dX0_comeWith_78 rfl rfl ?_
      refine v_get (T := TX0) (N := 4) (f0 := up (M b) 1 2) (v := iv 2) ok mi_X0_comeWith_0 (kd_lt hb (by decide)) rfl (by rw [up1_ne (kd_ne hb (kd_c0_1 hb) (by decide)), up1_same]) (cellF_0 _ hb) 1 (by decide) mk_X0_comeWith_15 rfl rfl dX0_comeWith_79 ?_
      refine v_icmp_ge (tgt := 92) ok (by decide) (by decide) dX0_comeWith_82 (by decide) (fun c27 => ?_) (fun c27 => absurd c27 (by decide))
      refine v_iload_n ok 1 dX0_comeWith_92 rfl rfl ?_
      refine v_istore_n ok [(2, iv v), (3, iv 3), (0, rf g b), (1, iv v)] dX0_comeWith_93 rfl (by decide) rfl ?_
      refine v_iinc ok 1 [(3, iv 2), (2, iv v), (0, rf g b), (1, iv v)] dX0_comeWith_94 rfl (by decide) rfl ?_
      refine v_goto (tgt := 51) ok dX0_comeWith_97 (by decide) ?_
      refine v_iload_n ok 0 dX0_comeWith_51 rfl rfl ?_
      refine v_if_lt (tgt := 100) ok (by decide) dX0_comeWith_52 (by decide) (fun c28 => absurd c28 (by decide)) (fun c28 => ?_)
      refine v_aload_n ok 2 dX0_comeWith_55 rfl rfl ?_
      refine v_get (T := TX0) (N := 4) (f0 := up (M b) 1 2) (v := rf g (b + 1)) ok mi_X0_comeWith_0 (kd_lt hb (by decide)) rfl (by rw [up1_ne (kd_ne hb (kd_c0_1 hb) (by decide)), up1_same]) (cellF_0 _ hb) 0 (by decide) mk_X0_comeWith_9 rfl rfl dX0_comeWith_56 ?_
      refine v_iload_n ok 0 dX0_comeWith_59 rfl rfl ?_
      refine v_iload_n ok 0 dX0_comeWith_60 rfl rfl ?_
      refine v_aload_n ok 2 dX0_comeWith_61 rfl rfl ?_
      refine v_get (T := TX0) (N := 4) (f0 := up (M b) 1 2) (v := iv 2) ok mi_X0_comeWith_0 (kd_lt hb (by decide)) rfl (by rw [up1_ne (kd_ne hb (kd_c0_1 hb) (by decide)), up1_same]) (cellF_0 _ hb) 1 (by decide) mk_X0_comeWith_15 rfl rfl dX0_comeWith_62 ?_
      refine v_icmp_ge (tgt := 75) ok (by decide) (by decide) dX0_comeWith_65 (by decide) (fun c29 => ?_) (fun c29 => absurd c29 (by decide))
      refine v_iconst (n := 0) ok dX0_comeWith_75 ?_
      refine v_iast (n := 5) (f0 := up (up (M (b + 1)) 4 0) 3 0) ok (kd_c0_1 hb) (ln_c0_1 hb) (by omega) (by rw [up1_same]) dX0_comeWith_76 ?_
      rw [up1_up1]
      refine v_iload_n ok 0 dX0_comeWith_77 rfl rfl ?_
      refine v_aload_n ok 2 dX0_comeWith_78 rfl rfl ?_
      refine v_get (T := TX0) (N := 4) (f0 := up (M b) 1 2) (v := iv 2) ok mi_X0_comeWith_0 (kd_lt hb (by decide)) rfl (by rw [up1_ne (kd_ne hb (kd_c0_1 hb) (by decide)), up1_same]) (cellF_0 _ hb) 1 (by decide) mk_X0_comeWith_15 rfl rfl dX0_comeWith_79 ?_
      refine v_icmp_ge (tgt := 92) ok (by decide) (by decide) dX0_comeWith_82 (by decide) (fun c30 => ?_) (fun c30 => absurd c30 (by decide))
      refine v_iload_n ok 1 dX0_comeWith_92 rfl rfl ?_
      refine v_istore_n ok [(2, iv v), (3, iv 2), (0, rf g b), (1, iv v)] dX0_comeWith_93 rfl (by decide) rfl ?_
      refine v_iinc ok 1 [(3, iv 1), (2, iv v), (0, rf g b), (1, iv v)] dX0_comeWith_94 rfl (by decide) rfl ?_
      refine v_goto (tgt := 51) ok dX0_comeWith_97 (by decide) ?_
      refine v_iload_n ok 0 dX0_comeWith_51 rfl rfl ?_
      refine v_if_lt (tgt := 100) ok (by decide) dX0_comeWith_52 (by decide) (fun c31 => absurd c31 (by decide)) (fun c31 => ?_)
      refine v_aload_n ok 2 dX0_comeWith_55 rfl rfl ?_
      refine v_get (T := TX0) (N := 4) (f0 := up (M b) 1 2) (v := rf g (b + 1)) ok mi_X0_comeWith_0 (kd_lt hb (by decide)) rfl (by rw [up1_ne (kd_ne hb (kd_c0_1 hb) (by decide)), up1_same]) (cellF_0 _ hb) 0 (by decide) mk_X0_comeWith_9 rfl rfl dX0_comeWith_56 ?_
      refine v_iload_n ok 0 dX0_comeWith_59 rfl rfl ?_
      refine v_iload_n ok 0 dX0_comeWith_60 rfl rfl ?_
      refine v_aload_n ok 2 dX0_comeWith_61 rfl rfl ?_
      refine v_get (T := TX0) (N := 4) (f0 := up (M b) 1 2) (v := iv 2) ok mi_X0_comeWith_0 (kd_lt hb (by decide)) rfl (by rw [up1_ne (kd_ne hb (kd_c0_1 hb) (by decide)), up1_same]) (cellF_0 _ hb) 1 (by decide) mk_X0_comeWith_15 rfl rfl dX0_comeWith_62 ?_
      refine v_icmp_ge (tgt := 75) ok (by decide) (by decide) dX0_comeWith_65 (by decide) (fun c32 => absurd c32 (by decide)) (fun c32 => ?_)
      refine v_iload_n ok 1 dX0_comeWith_68 rfl rfl ?_
      refine v_bipush (n := 10) ok rfl dX0_comeWith_69 ?_
      refine v_irem ok (by omega) (by omega) dX0_comeWith_71 ?_
      refine v_goto (tgt := 76) ok dX0_comeWith_72 (by decide) ?_
      refine v_iast (n := 5) (f0 := up (up (up (M (b + 1)) 4 0) 3 0) 2 0) ok (kd_c0_1 hb) (ln_c0_1 hb) (by omega) (by rw [up1_same]) dX0_comeWith_76 ?_
      rw [up1_up1]
      refine v_iload_n ok 0 dX0_comeWith_77 rfl rfl ?_
      refine v_aload_n ok 2 dX0_comeWith_78 rfl rfl ?_
      refine v_get (T := TX0) (N := 4) (f0 := up (M b) 1 2) (v := iv 2) ok mi_X0_comeWith_0 (kd_lt hb (by decide)) rfl (by rw [up1_ne (kd_ne hb (kd_c0_1 hb) (by decide)), up1_same]) (cellF_0 _ hb) 1 (by decide) mk_X0_comeWith_15 rfl rfl dX0_comeWith_79 ?_
      refine v_icmp_ge (tgt := 92) ok (by decide) (by decide) dX0_comeWith_82 (by decide) (fun c33 => absurd c33 (by decide)) (fun c33 => ?_)
      refine v_iload_n ok 1 dX0_comeWith_85 rfl rfl ?_
      refine v_bipush (n := 10) ok rfl dX0_comeWith_86 ?_
      refine v_idiv ok (by omega) (by omega) dX0_comeWith_88 ?_
      refine v_goto (tgt := 93) ok dX0_comeWith_89 (by decide) ?_
      refine v_istore_n ok [(2, iv (v / 10)), (3, iv 1), (0, rf g b), (1, iv v)] dX0_comeWith_93 rfl (by decide) rfl ?_
      refine v_iinc ok 1 [(3, iv 0), (2, iv (v / 10)), (0, rf g b), (1, iv v)] dX0_comeWith_94 rfl (by decide) rfl ?_
      refine v_goto (tgt := 51) ok dX0_comeWith_97 (by decide) ?_
      refine v_iload_n ok 0 dX0_comeWith_51 rfl rfl ?_
      refine v_if_lt (tgt := 100) ok (by decide) dX0_comeWith_52 (by decide) (fun c34 => absurd c34 (by decide)) (fun c34 => ?_)
      refine v_aload_n ok 2 dX0_comeWith_55 rfl rfl ?_
      refine v_get (T := TX0) (N := 4) (f0 := up (M b) 1 2) (v := rf g (b + 1)) ok mi_X0_comeWith_0 (kd_lt hb (by decide)) rfl (by rw [up1_ne (kd_ne hb (kd_c0_1 hb) (by decide)), up1_same]) (cellF_0 _ hb) 0 (by decide) mk_X0_comeWith_9 rfl rfl dX0_comeWith_56 ?_
      refine v_iload_n ok 0 dX0_comeWith_59 rfl rfl ?_
      refine v_iload_n ok 0 dX0_comeWith_60 rfl rfl ?_
      refine v_aload_n ok 2 dX0_comeWith_61 rfl rfl ?_
      refine v_get (T := TX0) (N := 4) (f0 := up (M b) 1 2) (v := iv 2) ok mi_X0_comeWith_0 (kd_lt hb (by decide)) rfl (by rw [up1_ne (kd_ne hb (kd_c0_1 hb) (by decide)), up1_same]) (cellF_0 _ hb) 1 (by decide) mk_X0_comeWith_15 rfl rfl dX0_comeWith_62 ?_
      refine v_icmp_ge (tgt := 75) ok (by decide) (by decide) dX0_comeWith_65 (by decide) (fun c35 => absurd c35 (by decide)) (fun c35 => ?_)
      refine v_iload_n ok 1 dX0_comeWith_68 rfl rfl ?_
      refine v_bipush (n := 10) ok rfl dX0_comeWith_69 ?_
      refine v_irem ok (by omega) (by omega) dX0_comeWith_71 ?_
      refine v_goto (tgt := 76) ok dX0_comeWith_72 (by decide) ?_
      refine v_iast (n := 5) (f0 := up (up (up (up (M (b + 1)) 4 0) 3 0) 2 0) 1 (v % 10)) ok (kd_c0_1 hb) (ln_c0_1 hb) (by omega) (by rw [up1_same]) dX0_comeWith_76 ?_
      rw [up1_up1]
      refine v_iload_n ok 0 dX0_comeWith_77 rfl rfl ?_
      refine v_aload_n ok 2 dX0_comeWith_78 rfl rfl ?_
      refine v_get (T := TX0) (N := 4) (f0 := up (M b) 1 2) (v := iv 2) ok mi_X0_comeWith_0 (kd_lt hb (by decide)) rfl (by rw [up1_ne (kd_ne hb (kd_c0_1 hb) (by decide)), up1_same]) (cellF_0 _ hb) 1 (by decide) mk_X0_comeWith_15 rfl rfl dX0_comeWith_79 ?_
      refine v_icmp_ge (tgt := 92) ok (by decide) (by decide) dX0_comeWith_82 (by decide) (fun c36 => absurd c36 (by decide)) (fun c36 => ?_)
      refine v_iload_n ok 1 dX0_comeWith_85 rfl rfl ?_
      refine v_bipush (n := 10) ok rfl dX0_comeWith_86 ?_
      refine v_idiv ok (by omega) (by omega) dX0_comeWith_88 ?_
      refine v_goto (tgt := 93) ok dX0_comeWith_89 (by decide) ?_
      refine v_istore_n ok [(2, iv ((v / 10) / 10)), (3, iv 0), (0, rf g b), (1, iv v)] dX0_comeWith_93 rfl (by decide) rfl ?_
      refine v_iinc ok 1 [(3, iv (-1)), (2, iv ((v / 10) / 10)), (0, rf g b), (1, iv v)] dX0_comeWith_94 rfl (by decide) rfl ?_
      refine v_goto (tgt := 51) ok dX0_comeWith_97 (by decide) ?_
      refine v_iload_n ok 0 dX0_comeWith_51 rfl rfl ?_
      refine v_if_lt (tgt := 100) ok (by decide) dX0_comeWith_52 (by decide) (fun c37 => ?_) (fun c37 => absurd c37 (by decide))
      refine v_aload_n ok 2 dX0_comeWith_100 rfl rfl ?_
      refine v_iconst (n := 0) ok dX0_comeWith_101 ?_
      refine v_put (T := TX0) (N := 4) (f0 := up (M b) 1 2) (f' := up (up (M b) 1 2) 2 0) (ty := .int) ok mi_X0_comeWith_0 (kd_lt hb (by decide)) rfl (by rw [up1_ne (kd_ne hb (kd_c0_1 hb) (by decide)), up1_same]) (cellF_0 _ hb) tyX0 tyX0_ok nmX0 2 (by decide) mk_X0_comeWith_19 rfl rfl (by decide +kernel) rfl rfl (Nat.le_of_ble_eq_true rfl) ((cellF_0 _ hb).trans rfl) dX0_comeWith_102 ?_
      rw [show (up1 (up1 (up1 M b (up (M b) 1 2)) (b + 1) (up (up (up (up (up (M (b + 1)) 4 0) 3 0) 2 0) 1 (v % 10)) 0 ((v / 10) % 10))) b (up (up (M b) 1 2) 2 0) : Mem) = (up1 (up1 M b (up (up (M b) 1 2) 2 0)) (b + 1) (up (up (up (up (up (M (b + 1)) 4 0) 3 0) 2 0) 1 (v % 10)) 0 ((v / 10) % 10))) from (by
            funext j
            by_cases hj0 : j = b
            · simp_all [up1, up1_self]
            by_cases hj1 : j = (b + 1)
            · simp_all [up1, up1_self]
            simp [up1, hj0, hj1])]
      refine v_aload_n ok 2 dX0_comeWith_105 rfl rfl ?_
      refine v_iconst (n := 0) ok dX0_comeWith_106 ?_
      refine v_put (T := TX0) (N := 4) (f0 := up (up (M b) 1 2) 2 0) (f' := up (up (up (M b) 1 2) 2 0) 3 0) (ty := .int) ok mi_X0_comeWith_0 (kd_lt hb (by decide)) rfl (by rw [up1_ne (kd_ne hb (kd_c0_1 hb) (by decide)), up1_same]) (cellF_0 _ hb) tyX0 tyX0_ok nmX0 3 (by decide) mk_X0_comeWith_22 rfl rfl (by decide +kernel) rfl rfl (Nat.le_of_ble_eq_true rfl) ((cellF_0 _ hb).trans rfl) dX0_comeWith_107 ?_
      rw [show (up1 (up1 (up1 M b (up (up (M b) 1 2) 2 0)) (b + 1) (up (up (up (up (up (M (b + 1)) 4 0) 3 0) 2 0) 1 (v % 10)) 0 ((v / 10) % 10))) b (up (up (up (M b) 1 2) 2 0) 3 0) : Mem) = (up1 (up1 M b (up (up (up (M b) 1 2) 2 0) 3 0)) (b + 1) (up (up (up (up (up (M (b + 1)) 4 0) 3 0) 2 0) 1 (v % 10)) 0 ((v / 10) % 10))) from (by
            funext j
            by_cases hj0 : j = b
            · simp_all [up1, up1_self]
            by_cases hj1 : j = (b + 1)
            · simp_all [up1, up1_self]
            simp [up1, hj0, hj1])]
      have hd : dgn v = 2 := by unfold dgn; (repeat' split) <;> omega
      refine v_cong (n := 5) (dgt v (dgn v)) (Or.inl (kd_c0_1 hb)) (ln_c0_1 hb) (fun k k0 k1 => by
          rw [hd]
          have e : k = 0 ∨ k = 1 ∨ k = 2 ∨ k = 3 ∨ k = 4 := by omega
          rcases e with rfl | rfl | rfl | rfl | rfl <;> simp [up, dgt, p10] <;> omega) ?_
      exact v_vret ok rt dX0_comeWith_110 (⟨rfl, (by rw [hd])⟩)
    · skip
      refine v_aload_n ok 1 dX0_comeWith_11 rfl rfl ?_
      refine v_get (T := TX0) (N := 4) (f0 := up (M b) 1 2) (v := iv 2) ok mi_X0_comeWith_0 (kd_lt hb (by decide)) rfl (by rw [up1_same]) (cellF_0 _ hb) 1 (by decide) mk_X0_comeWith_15 rfl rfl dX0_comeWith_12 ?_
      refine v_aload_n ok 1 dX0_comeWith_15 rfl rfl ?_
      refine v_get (T := TX0) (N := 4) (f0 := up (M b) 1 2) (v := rf g (b + 1)) ok mi_X0_comeWith_0 (kd_lt hb (by decide)) rfl (by rw [up1_same]) (cellF_0 _ hb) 0 (by decide) mk_X0_comeWith_9 rfl rfl dX0_comeWith_16 ?_
      refine v_alen (n := 5) ok (Or.inl (kd_c0_1 hb)) (ln_c0_1 hb) dX0_comeWith_19 ?_
      refine v_icmp_ge (tgt := 41) ok (by decide) (by decide) dX0_comeWith_20 (by decide) (fun c38 => absurd c38 (by decide)) (fun c38 => ?_)
      refine v_aload_n ok 1 dX0_comeWith_23 rfl rfl ?_
      refine v_dup ok rfl dX0_comeWith_24 ?_
      refine v_get (T := TX0) (N := 4) (f0 := up (M b) 1 2) (v := iv 2) ok mi_X0_comeWith_0 (kd_lt hb (by decide)) rfl (by rw [up1_same]) (cellF_0 _ hb) 1 (by decide) mk_X0_comeWith_15 rfl rfl dX0_comeWith_25 ?_
      refine v_iconst (n := 1) ok dX0_comeWith_28 ?_
      refine v_iadd ok dX0_comeWith_29 ?_
      show V z g 4 (up1 M b (up (M b) 1 2)) [(2, iv ((v / 10) / 10)), (0, rf g b), (1, iv v)] [iv 3, rf g b] 30
      refine v_put (T := TX0) (N := 4) (f0 := up (M b) 1 2) (f' := up (up (M b) 1 2) 1 3) (ty := .int) ok mi_X0_comeWith_0 (kd_lt hb (by decide)) rfl (by rw [up1_same]) (cellF_0 _ hb) tyX0 tyX0_ok nmX0 1 (by decide) mk_X0_comeWith_15 rfl rfl (by decide +kernel) rfl rfl (Nat.le_of_ble_eq_true rfl) ((cellF_0 _ hb).trans rfl) dX0_comeWith_30 ?_
      rw [up_up]
      rw [up1_up1]
      refine v_iload_n ok 0 dX0_comeWith_33 rfl rfl ?_
      refine v_bipush (n := 10) ok rfl dX0_comeWith_34 ?_
      refine v_idiv ok (by omega) (by omega) dX0_comeWith_36 ?_
      refine v_istore_n ok [(2, iv (((v / 10) / 10) / 10)), (0, rf g b), (1, iv v)] dX0_comeWith_37 rfl (by decide) rfl ?_
      refine v_goto (tgt := 7) ok dX0_comeWith_38 (by decide) ?_
      refine v_iload_n ok 0 dX0_comeWith_7 rfl rfl ?_
      refine v_if_le (tgt := 41) ok ⟨by omega, by omega⟩ dX0_comeWith_8 (by decide) (fun c39 => ?_) (fun c39 => ?_)
      · skip
        refine v_iload_n ok 2 dX0_comeWith_41 rfl rfl ?_
        refine v_istore_n ok [(2, iv v), (0, rf g b), (1, iv v)] dX0_comeWith_42 rfl (by decide) rfl ?_
        refine v_aload_n ok 1 dX0_comeWith_43 rfl rfl ?_
        refine v_get (T := TX0) (N := 4) (f0 := up (M b) 1 3) (v := rf g (b + 1)) ok mi_X0_comeWith_0 (kd_lt hb (by decide)) rfl (by rw [up1_same]) (cellF_0 _ hb) 0 (by decide) mk_X0_comeWith_9 rfl rfl dX0_comeWith_44 ?_
        refine v_alen (n := 5) ok (Or.inl (kd_c0_1 hb)) (ln_c0_1 hb) dX0_comeWith_47 ?_
        refine v_iconst (n := 1) ok dX0_comeWith_48 ?_
        refine v_isub ok dX0_comeWith_49 ?_
        show V z g 4 (up1 M b (up (M b) 1 3)) [(2, iv v), (0, rf g b), (1, iv v)] [iv 4] 50
        refine v_istore_n ok [(3, iv 4), (2, iv v), (0, rf g b), (1, iv v)] dX0_comeWith_50 rfl (by decide) rfl ?_
        refine v_iload_n ok 0 dX0_comeWith_51 rfl rfl ?_
        refine v_if_lt (tgt := 100) ok (by decide) dX0_comeWith_52 (by decide) (fun c40 => absurd c40 (by decide)) (fun c40 => ?_)
        refine v_aload_n ok 2 dX0_comeWith_55 rfl rfl ?_
        refine v_get (T := TX0) (N := 4) (f0 := up (M b) 1 3) (v := rf g (b + 1)) ok mi_X0_comeWith_0 (kd_lt hb (by decide)) rfl (by rw [up1_same]) (cellF_0 _ hb) 0 (by decide) mk_X0_comeWith_9 rfl rfl dX0_comeWith_56 ?_
        refine v_iload_n ok 0 dX0_comeWith_59 rfl rfl ?_
        refine v_iload_n ok 0 dX0_comeWith_60 rfl rfl ?_
        refine v_aload_n ok 2 dX0_comeWith_61 rfl rfl ?_
        refine v_get (T := TX0) (N := 4) (f0 := up (M b) 1 3) (v := iv 3) ok mi_X0_comeWith_0 (kd_lt hb (by decide)) rfl (by rw [up1_same]) (cellF_0 _ hb) 1 (by decide) mk_X0_comeWith_15 rfl rfl dX0_comeWith_62 ?_
        refine v_icmp_ge (tgt := 75) ok (by decide) (by decide) dX0_comeWith_65 (by decide) (fun c41 => ?_) (fun c41 => absurd c41 (by decide))
        refine v_iconst (n := 0) ok dX0_comeWith_75 ?_
        refine v_iast (n := 5) (f0 := (M (b + 1))) ok (kd_c0_1 hb) (ln_c0_1 hb) (by omega) (by rw [up1_ne (kd_ne (kd_c0_1 hb) hb (by decide))]) dX0_comeWith_76 ?_
        refine v_iload_n ok 0 dX0_comeWith_77 rfl rfl ?_
        refine v_aload_n ok 2 dX0_comeWith_78 rfl rfl ?_
        refine v_get (T := TX0) (N := 4) (f0 := up (M b) 1 3) (v := iv 3) ok mi_X0_comeWith_0 (kd_lt hb (by decide)) rfl (by rw [up1_ne (kd_ne hb (kd_c0_1 hb) (by decide)), up1_same]) (cellF_0 _ hb) 1 (by decide) mk_X0_comeWith_15 rfl rfl dX0_comeWith_79 ?_
        refine v_icmp_ge (tgt := 92) ok (by decide) (by decide) dX0_comeWith_82 (by decide) (fun c42 => ?_) (fun c42 => absurd c42 (by decide))
        refine v_iload_n ok 1 dX0_comeWith_92 rfl rfl ?_
        refine v_istore_n ok [(2, iv v), (3, iv 4), (0, rf g b), (1, iv v)] dX0_comeWith_93 rfl (by decide) rfl ?_
        refine v_iinc ok 1 [(3, iv 3), (2, iv v), (0, rf g b), (1, iv v)] dX0_comeWith_94 rfl (by decide) rfl ?_
        refine v_goto (tgt := 51) ok dX0_comeWith_97 (by decide) ?_
        refine v_iload_n ok 0 dX0_comeWith_51 rfl rfl ?_
        refine v_if_lt (tgt := 100) ok (by decide) dX0_comeWith_52 (by decide) (fun c43 => absurd c43 (by decide)) (fun c43 => ?_)
        refine v_aload_n ok 2 dX0_comeWith_55 rfl rfl ?_
        refine v_get (T := TX0) (N := 4) (f0 := up (M b) 1 3) (v := rf g (b + 1)) ok mi_X0_comeWith_0 (kd_lt hb (by decide)) rfl (by rw [up1_ne (kd_ne hb (kd_c0_1 hb) (by decide)), up1_same]) (cellF_0 _ hb) 0 (by decide) mk_X0_comeWith_9 rfl rfl dX0_comeWith_56 ?_
        refine v_iload_n ok 0 dX0_comeWith_59 rfl rfl ?_
        refine v_iload_n ok 0 dX0_comeWith_60 rfl rfl ?_
        refine v_aload_n ok 2 dX0_comeWith_61 rfl rfl ?_
        refine v_get (T := TX0) (N := 4) (f0 := up (M b) 1 3) (v := iv 3) ok mi_X0_comeWith_0 (kd_lt hb (by decide)) rfl (by rw [up1_ne (kd_ne hb (kd_c0_1 hb) (by decide)), up1_same]) (cellF_0 _ hb) 1 (by decide) mk_X0_comeWith_15 rfl rfl dX0_comeWith_62 ?_
        refine v_icmp_ge (tgt := 75) ok (by decide) (by decide) dX0_comeWith_65 (by decide) (fun c44 => ?_) (fun c44 => absurd c44 (by decide))
        refine v_iconst (n := 0) ok dX0_comeWith_75 ?_
        refine v_iast (n := 5) (f0 := up (M (b + 1)) 4 0) ok (kd_c0_1 hb) (ln_c0_1 hb) (by omega) (by rw [up1_same]) dX0_comeWith_76 ?_
        rw [up1_up1]
        refine v_iload_n ok 0 dX0_comeWith_77 rfl rfl ?_
        refine v_aload_n ok 2 dX0_comeWith_78 rfl rfl ?_
        refine v_get (T := TX0) (N := 4) (f0 := up (M b) 1 3) (v := iv 3) ok mi_X0_comeWith_0 (kd_lt hb (by decide)) rfl (by rw [up1_ne (kd_ne hb (kd_c0_1 hb) (by decide)), up1_same]) (cellF_0 _ hb) 1 (by decide) mk_X0_comeWith_15 rfl rfl dX0_comeWith_79 ?_
        refine v_icmp_ge (tgt := 92) ok (by decide) (by decide) dX0_comeWith_82 (by decide) (fun c45 => ?_) (fun c45 => absurd c45 (by decide))
        refine v_iload_n ok 1 dX0_comeWith_92 rfl rfl ?_
        refine v_istore_n ok [(2, iv v), (3, iv 3), (0, rf g b), (1, iv v)] dX0_comeWith_93 rfl (by decide) rfl ?_
        refine v_iinc ok 1 [(3, iv 2), (2, iv v), (0, rf g b), (1, iv v)] dX0_comeWith_94 rfl (by decide) rfl ?_
        refine v_goto (tgt := 51) ok dX0_comeWith_97 (by decide) ?_
        refine v_iload_n ok 0 dX0_comeWith_51 rfl rfl ?_
        refine v_if_lt (tgt := 100) ok (by decide) dX0_comeWith_52 (by decide) (fun c46 => absurd c46 (by decide)) (fun c46 => ?_)
        refine v_aload_n ok 2 dX0_comeWith_55 rfl rfl ?_
        refine v_get (T := TX0) (N := 4) (f0 := up (M b) 1 3) (v := rf g (b + 1)) ok mi_X0_comeWith_0 (kd_lt hb (by decide)) rfl (by rw [up1_ne (kd_ne hb (kd_c0_1 hb) (by decide)), up1_same]) (cellF_0 _ hb) 0 (by decide) mk_X0_comeWith_9 rfl rfl dX0_comeWith_56 ?_
        refine v_iload_n ok 0 dX0_comeWith_59 rfl rfl ?_
        refine v_iload_n ok 0 dX0_comeWith_60 rfl rfl ?_
        refine v_aload_n ok 2 dX0_comeWith_61 rfl rfl ?_
        refine v_get (T := TX0) (N := 4) (f0 := up (M b) 1 3) (v := iv 3) ok mi_X0_comeWith_0 (kd_lt hb (by decide)) rfl (by rw [up1_ne (kd_ne hb (kd_c0_1 hb) (by decide)), up1_same]) (cellF_0 _ hb) 1 (by decide) mk_X0_comeWith_15 rfl rfl dX0_comeWith_62 ?_
        refine v_icmp_ge (tgt := 75) ok (by decide) (by decide) dX0_comeWith_65 (by decide) (fun c47 => absurd c47 (by decide)) (fun c47 => ?_)
        refine v_iload_n ok 1 dX0_comeWith_68 rfl rfl ?_
        refine v_bipush (n := 10) ok rfl dX0_comeWith_69 ?_
        refine v_irem ok (by omega) (by omega) dX0_comeWith_71 ?_
        refine v_goto (tgt := 76) ok dX0_comeWith_72 (by decide) ?_
        refine v_iast (n := 5) (f0 := up (up (M (b + 1)) 4 0) 3 0) ok (kd_c0_1 hb) (ln_c0_1 hb) (by omega) (by rw [up1_same]) dX0_comeWith_76 ?_
        rw [up1_up1]
        refine v_iload_n ok 0 dX0_comeWith_77 rfl rfl ?_
        refine v_aload_n ok 2 dX0_comeWith_78 rfl rfl ?_
        refine v_get (T := TX0) (N := 4) (f0 := up (M b) 1 3) (v := iv 3) ok mi_X0_comeWith_0 (kd_lt hb (by decide)) rfl (by rw [up1_ne (kd_ne hb (kd_c0_1 hb) (by decide)), up1_same]) (cellF_0 _ hb) 1 (by decide) mk_X0_comeWith_15 rfl rfl dX0_comeWith_79 ?_
        refine v_icmp_ge (tgt := 92) ok (by decide) (by decide) dX0_comeWith_82 (by decide) (fun c48 => absurd c48 (by decide)) (fun c48 => ?_)
        refine v_iload_n ok 1 dX0_comeWith_85 rfl rfl ?_
        refine v_bipush (n := 10) ok rfl dX0_comeWith_86 ?_
        refine v_idiv ok (by omega) (by omega) dX0_comeWith_88 ?_
        refine v_goto (tgt := 93) ok dX0_comeWith_89 (by decide) ?_
        refine v_istore_n ok [(2, iv (v / 10)), (3, iv 2), (0, rf g b), (1, iv v)] dX0_comeWith_93 rfl (by decide) rfl ?_
        refine v_iinc ok 1 [(3, iv 1), (2, iv (v / 10)), (0, rf g b), (1, iv v)] dX0_comeWith_94 rfl (by decide) rfl ?_
        refine v_goto (tgt := 51) ok dX0_comeWith_97 (by decide) ?_
        refine v_iload_n ok 0 dX0_comeWith_51 rfl rfl ?_
        refine v_if_lt (tgt := 100) ok (by decide) dX0_comeWith_52 (by decide) (fun c49 => absurd c49 (by decide)) (fun c49 => ?_)
        refine v_aload_n ok 2 dX0_comeWith_55 rfl rfl ?_
        refine v_get (T := TX0) (N := 4) (f0 := up (M b) 1 3) (v := rf g (b + 1)) ok mi_X0_comeWith_0 (kd_lt hb (by decide)) rfl (by rw [up1_ne (kd_ne hb (kd_c0_1 hb) (by decide)), up1_same]) (cellF_0 _ hb) 0 (by decide) mk_X0_comeWith_9 rfl rfl dX0_comeWith_56 ?_
        refine v_iload_n ok 0 dX0_comeWith_59 rfl rfl ?_
        refine v_iload_n ok 0 dX0_comeWith_60 rfl rfl ?_
        refine v_aload_n ok 2 dX0_comeWith_61 rfl rfl ?_
        refine v_get (T := TX0) (N := 4) (f0 := up (M b) 1 3) (v := iv 3) ok mi_X0_comeWith_0 (kd_lt hb (by decide)) rfl (by rw [up1_ne (kd_ne hb (kd_c0_1 hb) (by decide)), up1_same]) (cellF_0 _ hb) 1 (by decide) mk_X0_comeWith_15 rfl rfl dX0_comeWith_62 ?_
        refine v_icmp_ge (tgt := 75) ok (by decide) (by decide) dX0_comeWith_65 (by decide) (fun c50 => absurd c50 (by decide)) (fun c50 => ?_)
        refine v_iload_n ok 1 dX0_comeWith_68 rfl rfl ?_
        refine v_bipush (n := 10) ok rfl dX0_comeWith_69 ?_
        refine v_irem ok (by omega) (by omega) dX0_comeWith_71 ?_
        refine v_goto (tgt := 76) ok dX0_comeWith_72 (by decide) ?_
        refine v_iast (n := 5) (f0 := up (up (up (M (b + 1)) 4 0) 3 0) 2 (v % 10)) ok (kd_c0_1 hb) (ln_c0_1 hb) (by omega) (by rw [up1_same]) dX0_comeWith_76 ?_
        rw [up1_up1]
        refine v_iload_n ok 0 dX0_comeWith_77 rfl rfl ?_
        refine v_aload_n ok 2 dX0_comeWith_78 rfl rfl ?_
        refine v_get (T := TX0) (N := 4) (f0 := up (M b) 1 3) (v := iv 3) ok mi_X0_comeWith_0 (kd_lt hb (by decide)) rfl (by rw [up1_ne (kd_ne hb (kd_c0_1 hb) (by decide)), up1_same]) (cellF_0 _ hb) 1 (by decide) mk_X0_comeWith_15 rfl rfl dX0_comeWith_79 ?_
        refine v_icmp_ge (tgt := 92) ok (by decide) (by decide) dX0_comeWith_82 (by decide) (fun c51 => absurd c51 (by decide)) (fun c51 => ?_)
        refine v_iload_n ok 1 dX0_comeWith_85 rfl rfl ?_
        refine v_bipush (n := 10) ok rfl dX0_comeWith_86 ?_
        refine v_idiv ok (by omega) (by omega) dX0_comeWith_88 ?_
        refine v_goto (tgt := 93) ok dX0_comeWith_89 (by decide) ?_
        refine v_istore_n ok [(2, iv ((v / 10) / 10)), (3, iv 1), (0, rf g b), (1, iv v)] dX0_comeWith_93 rfl (by decide) rfl ?_
        refine v_iinc ok 1 [(3, iv 0), (2, iv ((v / 10) / 10)), (0, rf g b), (1, iv v)] dX0_comeWith_94 rfl (by decide) rfl ?_
        refine v_goto (tgt := 51) ok dX0_comeWith_97 (by decide) ?_
        refine v_iload_n ok 0 dX0_comeWith_51 rfl rfl ?_
        refine v_if_lt (tgt := 100) ok (by decide) dX0_comeWith_52 (by decide) (fun c52 => absurd c52 (by decide)) (fun c52 => ?_)
        refine v_aload_n ok 2 dX0_comeWith_55 rfl rfl ?_
        refine v_get (T := TX0) (N := 4) (f0 := up (M b) 1 3) (v := rf g (b + 1)) ok mi_X0_comeWith_0 (kd_lt hb (by decide)) rfl (by rw [up1_ne (kd_ne hb (kd_c0_1 hb) (by decide)), up1_same]) (cellF_0 _ hb) 0 (by decide) mk_X0_comeWith_9 rfl rfl dX0_comeWith_56 ?_
        refine v_iload_n ok 0 dX0_comeWith_59 rfl rfl ?_
        refine v_iload_n ok 0 dX0_comeWith_60 rfl rfl ?_
        refine v_aload_n ok 2 dX0_comeWith_61 rfl rfl ?_
        refine v_get (T := TX0) (N := 4) (f0 := up (M b) 1 3) (v := iv 3) ok mi_X0_comeWith_0 (kd_lt hb (by decide)) rfl (by rw [up1_ne (kd_ne hb (kd_c0_1 hb) (by decide)), up1_same]) (cellF_0 _ hb) 1 (by decide) mk_X0_comeWith_15 rfl rfl dX0_comeWith_62 ?_
        refine v_icmp_ge (tgt := 75) ok (by decide) (by decide) dX0_comeWith_65 (by decide) (fun c53 => absurd c53 (by decide)) (fun c53 => ?_)
        refine v_iload_n ok 1 dX0_comeWith_68 rfl rfl ?_
        refine v_bipush (n := 10) ok rfl dX0_comeWith_69 ?_
        refine v_irem ok (by omega) (by omega) dX0_comeWith_71 ?_
        refine v_goto (tgt := 76) ok dX0_comeWith_72 (by decide) ?_
        refine v_iast (n := 5) (f0 := up (up (up (up (M (b + 1)) 4 0) 3 0) 2 (v % 10)) 1 ((v / 10) % 10)) ok (kd_c0_1 hb) (ln_c0_1 hb) (by omega) (by rw [up1_same]) dX0_comeWith_76 ?_
        rw [up1_up1]
        refine v_iload_n ok 0 dX0_comeWith_77 rfl rfl ?_
        refine v_aload_n ok 2 dX0_comeWith_78 rfl rfl ?_
        refine v_get (T := TX0) (N := 4) (f0 := up (M b) 1 3) (v := iv 3) ok mi_X0_comeWith_0 (kd_lt hb (by decide)) rfl (by rw [up1_ne (kd_ne hb (kd_c0_1 hb) (by decide)), up1_same]) (cellF_0 _ hb) 1 (by decide) mk_X0_comeWith_15 rfl rfl dX0_comeWith_79 ?_
        refine v_icmp_ge (tgt := 92) ok (by decide) (by decide) dX0_comeWith_82 (by decide) (fun c54 => absurd c54 (by decide)) (fun c54 => ?_)
        refine v_iload_n ok 1 dX0_comeWith_85 rfl rfl ?_
        refine v_bipush (n := 10) ok rfl dX0_comeWith_86 ?_
        refine v_idiv ok (by omega) (by omega) dX0_comeWith_88 ?_
        refine v_goto (tgt := 93) ok dX0_comeWith_89 (by decide) ?_
        refine v_istore_n ok [(2, iv (((v / 10) / 10) / 10)), (3, iv 0), (0, rf g b), (1, iv v)] dX0_comeWith_93 rfl (by decide) rfl ?_
        refine v_iinc ok 1 [(3, iv (-1)), (2, iv (((v / 10) / 10) / 10)), (0, rf g b), (1, iv v)] dX0_comeWith_94 rfl (by decide) rfl ?_
        refine v_goto (tgt := 51) ok dX0_comeWith_97 (by decide) ?_
        refine v_iload_n ok 0 dX0_comeWith_51 rfl rfl ?_
        refine v_if_lt (tgt := 100) ok (by decide) dX0_comeWith_52 (by decide) (fun c55 => ?_) (fun c55 => absurd c55 (by decide))
        refine v_aload_n ok 2 dX0_comeWith_100 rfl rfl ?_
        refine v_iconst (n := 0) ok dX0_comeWith_101 ?_
        refine v_put (T := TX0) (N := 4) (f0 := up (M b) 1 3) (f' := up (up (M b) 1 3) 2 0) (ty := .int) ok mi_X0_comeWith_0 (kd_lt hb (by decide)) rfl (by rw [up1_ne (kd_ne hb (kd_c0_1 hb) (by decide)), up1_same]) (cellF_0 _ hb) tyX0 tyX0_ok nmX0 2 (by decide) mk_X0_comeWith_19 rfl rfl (by decide +kernel) rfl rfl (Nat.le_of_ble_eq_true rfl) ((cellF_0 _ hb).trans rfl) dX0_comeWith_102 ?_
        rw [show (up1 (up1 (up1 M b (up (M b) 1 3)) (b + 1) (up (up (up (up (up (M (b + 1)) 4 0) 3 0) 2 (v % 10)) 1 ((v / 10) % 10)) 0 (((v / 10) / 10) % 10))) b (up (up (M b) 1 3) 2 0) : Mem) = (up1 (up1 M b (up (up (M b) 1 3) 2 0)) (b + 1) (up (up (up (up (up (M (b + 1)) 4 0) 3 0) 2 (v % 10)) 1 ((v / 10) % 10)) 0 (((v / 10) / 10) % 10))) from (by
              funext j
              by_cases hj0 : j = b
              · simp_all [up1, up1_self]
              by_cases hj1 : j = (b + 1)
              · simp_all [up1, up1_self]
              simp [up1, hj0, hj1])]
        refine v_aload_n ok 2 dX0_comeWith_105 rfl rfl ?_
        refine v_iconst (n := 0) ok dX0_comeWith_106 ?_
        refine v_put (T := TX0) (N := 4) (f0 := up (up (M b) 1 3) 2 0) (f' := up (up (up (M b) 1 3) 2 0) 3 0) (ty := .int) ok mi_X0_comeWith_0 (kd_lt hb (by decide)) rfl (by rw [up1_ne (kd_ne hb (kd_c0_1 hb) (by decide)), up1_same]) (cellF_0 _ hb) tyX0 tyX0_ok nmX0 3 (by decide) mk_X0_comeWith_22 rfl rfl (by decide +kernel) rfl rfl (Nat.le_of_ble_eq_true rfl) ((cellF_0 _ hb).trans rfl) dX0_comeWith_107 ?_
        rw [show (up1 (up1 (up1 M b (up (up (M b) 1 3) 2 0)) (b + 1) (up (up (up (up (up (M (b + 1)) 4 0) 3 0) 2 (v % 10)) 1 ((v / 10) % 10)) 0 (((v / 10) / 10) % 10))) b (up (up (up (M b) 1 3) 2 0) 3 0) : Mem) = (up1 (up1 M b (up (up (up (M b) 1 3) 2 0) 3 0)) (b + 1) (up (up (up (up (up (M (b + 1)) 4 0) 3 0) 2 (v % 10)) 1 ((v / 10) % 10)) 0 (((v / 10) / 10) % 10))) from (by
              funext j
              by_cases hj0 : j = b
              · simp_all [up1, up1_self]
              by_cases hj1 : j = (b + 1)
              · simp_all [up1, up1_self]
              simp [up1, hj0, hj1])]
        have hd : dgn v = 3 := by unfold dgn; (repeat' split) <;> omega
        refine v_cong (n := 5) (dgt v (dgn v)) (Or.inl (kd_c0_1 hb)) (ln_c0_1 hb) (fun k k0 k1 => by
            rw [hd]
            have e : k = 0 ∨ k = 1 ∨ k = 2 ∨ k = 3 ∨ k = 4 := by omega
            rcases e with rfl | rfl | rfl | rfl | rfl <;> simp [up, dgt, p10] <;> omega) ?_
        exact v_vret ok rt dX0_comeWith_110 (⟨rfl, (by rw [hd])⟩)
      · skip
        refine v_aload_n ok 1 dX0_comeWith_11 rfl rfl ?_
        refine v_get (T := TX0) (N := 4) (f0 := up (M b) 1 3) (v := iv 3) ok mi_X0_comeWith_0 (kd_lt hb (by decide)) rfl (by rw [up1_same]) (cellF_0 _ hb) 1 (by decide) mk_X0_comeWith_15 rfl rfl dX0_comeWith_12 ?_
        refine v_aload_n ok 1 dX0_comeWith_15 rfl rfl ?_
        refine v_get (T := TX0) (N := 4) (f0 := up (M b) 1 3) (v := rf g (b + 1)) ok mi_X0_comeWith_0 (kd_lt hb (by decide)) rfl (by rw [up1_same]) (cellF_0 _ hb) 0 (by decide) mk_X0_comeWith_9 rfl rfl dX0_comeWith_16 ?_
        refine v_alen (n := 5) ok (Or.inl (kd_c0_1 hb)) (ln_c0_1 hb) dX0_comeWith_19 ?_
        refine v_icmp_ge (tgt := 41) ok (by decide) (by decide) dX0_comeWith_20 (by decide) (fun c56 => absurd c56 (by decide)) (fun c56 => ?_)
        refine v_aload_n ok 1 dX0_comeWith_23 rfl rfl ?_
        refine v_dup ok rfl dX0_comeWith_24 ?_
        refine v_get (T := TX0) (N := 4) (f0 := up (M b) 1 3) (v := iv 3) ok mi_X0_comeWith_0 (kd_lt hb (by decide)) rfl (by rw [up1_same]) (cellF_0 _ hb) 1 (by decide) mk_X0_comeWith_15 rfl rfl dX0_comeWith_25 ?_
        refine v_iconst (n := 1) ok dX0_comeWith_28 ?_
        refine v_iadd ok dX0_comeWith_29 ?_
        show V z g 4 (up1 M b (up (M b) 1 3)) [(2, iv (((v / 10) / 10) / 10)), (0, rf g b), (1, iv v)] [iv 4, rf g b] 30
        refine v_put (T := TX0) (N := 4) (f0 := up (M b) 1 3) (f' := up (up (M b) 1 3) 1 4) (ty := .int) ok mi_X0_comeWith_0 (kd_lt hb (by decide)) rfl (by rw [up1_same]) (cellF_0 _ hb) tyX0 tyX0_ok nmX0 1 (by decide) mk_X0_comeWith_15 rfl rfl (by decide +kernel) rfl rfl (Nat.le_of_ble_eq_true rfl) ((cellF_0 _ hb).trans rfl) dX0_comeWith_30 ?_
        rw [up_up]
        rw [up1_up1]
        refine v_iload_n ok 0 dX0_comeWith_33 rfl rfl ?_
        refine v_bipush (n := 10) ok rfl dX0_comeWith_34 ?_
        refine v_idiv ok (by omega) (by omega) dX0_comeWith_36 ?_
        refine v_istore_n ok [(2, iv ((((v / 10) / 10) / 10) / 10)), (0, rf g b), (1, iv v)] dX0_comeWith_37 rfl (by decide) rfl ?_
        refine v_goto (tgt := 7) ok dX0_comeWith_38 (by decide) ?_
        refine v_iload_n ok 0 dX0_comeWith_7 rfl rfl ?_
        refine v_if_le (tgt := 41) ok ⟨by omega, by omega⟩ dX0_comeWith_8 (by decide) (fun c57 => ?_) (fun c57 => ?_)
        · skip
          refine v_iload_n ok 2 dX0_comeWith_41 rfl rfl ?_
          refine v_istore_n ok [(2, iv v), (0, rf g b), (1, iv v)] dX0_comeWith_42 rfl (by decide) rfl ?_
          refine v_aload_n ok 1 dX0_comeWith_43 rfl rfl ?_
          refine v_get (T := TX0) (N := 4) (f0 := up (M b) 1 4) (v := rf g (b + 1)) ok mi_X0_comeWith_0 (kd_lt hb (by decide)) rfl (by rw [up1_same]) (cellF_0 _ hb) 0 (by decide) mk_X0_comeWith_9 rfl rfl dX0_comeWith_44 ?_
          refine v_alen (n := 5) ok (Or.inl (kd_c0_1 hb)) (ln_c0_1 hb) dX0_comeWith_47 ?_
          refine v_iconst (n := 1) ok dX0_comeWith_48 ?_
          refine v_isub ok dX0_comeWith_49 ?_
          show V z g 4 (up1 M b (up (M b) 1 4)) [(2, iv v), (0, rf g b), (1, iv v)] [iv 4] 50
          refine v_istore_n ok [(3, iv 4), (2, iv v), (0, rf g b), (1, iv v)] dX0_comeWith_50 rfl (by decide) rfl ?_
          refine v_iload_n ok 0 dX0_comeWith_51 rfl rfl ?_
          refine v_if_lt (tgt := 100) ok (by decide) dX0_comeWith_52 (by decide) (fun c58 => absurd c58 (by decide)) (fun c58 => ?_)
          refine v_aload_n ok 2 dX0_comeWith_55 rfl rfl ?_
          refine v_get (T := TX0) (N := 4) (f0 := up (M b) 1 4) (v := rf g (b + 1)) ok mi_X0_comeWith_0 (kd_lt hb (by decide)) rfl (by rw [up1_same]) (cellF_0 _ hb) 0 (by decide) mk_X0_comeWith_9 rfl rfl dX0_comeWith_56 ?_
          refine v_iload_n ok 0 dX0_comeWith_59 rfl rfl ?_
          refine v_iload_n ok 0 dX0_comeWith_60 rfl rfl ?_
          refine v_aload_n ok 2 dX0_comeWith_61 rfl rfl ?_
          refine v_get (T := TX0) (N := 4) (f0 := up (M b) 1 4) (v := iv 4) ok mi_X0_comeWith_0 (kd_lt hb (by decide)) rfl (by rw [up1_same]) (cellF_0 _ hb) 1 (by decide) mk_X0_comeWith_15 rfl rfl dX0_comeWith_62 ?_
          refine v_icmp_ge (tgt := 75) ok (by decide) (by decide) dX0_comeWith_65 (by decide) (fun c59 => ?_) (fun c59 => absurd c59 (by decide))
          refine v_iconst (n := 0) ok dX0_comeWith_75 ?_
          refine v_iast (n := 5) (f0 := (M (b + 1))) ok (kd_c0_1 hb) (ln_c0_1 hb) (by omega) (by rw [up1_ne (kd_ne (kd_c0_1 hb) hb (by decide))]) dX0_comeWith_76 ?_
          refine v_iload_n ok 0 dX0_comeWith_77 rfl rfl ?_
          refine v_aload_n ok 2 dX0_comeWith_78 rfl rfl ?_
          refine v_get (T := TX0) (N := 4) (f0 := up (M b) 1 4) (v := iv 4) ok mi_X0_comeWith_0 (kd_lt hb (by decide)) rfl (by rw [up1_ne (kd_ne hb (kd_c0_1 hb) (by decide)), up1_same]) (cellF_0 _ hb) 1 (by decide) mk_X0_comeWith_15 rfl rfl dX0_comeWith_79 ?_
          refine v_icmp_ge (tgt := 92) ok (by decide) (by decide) dX0_comeWith_82 (by decide) (fun c60 => ?_) (fun c60 => absurd c60 (by decide))
          refine v_iload_n ok 1 dX0_comeWith_92 rfl rfl ?_
          refine v_istore_n ok [(2, iv v), (3, iv 4), (0, rf g b), (1, iv v)] dX0_comeWith_93 rfl (by decide) rfl ?_
          refine v_iinc ok 1 [(3, iv 3), (2, iv v), (0, rf g b), (1, iv v)] dX0_comeWith_94 rfl (by decide) rfl ?_
          refine v_goto (tgt := 51) ok dX0_comeWith_97 (by decide) ?_
          refine v_iload_n ok 0 dX0_comeWith_51 rfl rfl ?_
          refine v_if_lt (tgt := 100) ok (by decide) dX0_comeWith_52 (by decide) (fun c61 => absurd c61 (by decide)) (fun c61 => ?_)
          refine v_aload_n ok 2 dX0_comeWith_55 rfl rfl ?_
          refine v_get (T := TX0) (N := 4) (f0 := up (M b) 1 4) (v := rf g (b + 1)) ok mi_X0_comeWith_0 (kd_lt hb (by decide)) rfl (by rw [up1_ne (kd_ne hb (kd_c0_1 hb) (by decide)), up1_same]) (cellF_0 _ hb) 0 (by decide) mk_X0_comeWith_9 rfl rfl dX0_comeWith_56 ?_
          refine v_iload_n ok 0 dX0_comeWith_59 rfl rfl ?_
          refine v_iload_n ok 0 dX0_comeWith_60 rfl rfl ?_
          refine v_aload_n ok 2 dX0_comeWith_61 rfl rfl ?_
          refine v_get (T := TX0) (N := 4) (f0 := up (M b) 1 4) (v := iv 4) ok mi_X0_comeWith_0 (kd_lt hb (by decide)) rfl (by rw [up1_ne (kd_ne hb (kd_c0_1 hb) (by decide)), up1_same]) (cellF_0 _ hb) 1 (by decide) mk_X0_comeWith_15 rfl rfl dX0_comeWith_62 ?_
          refine v_icmp_ge (tgt := 75) ok (by decide) (by decide) dX0_comeWith_65 (by decide) (fun c62 => absurd c62 (by decide)) (fun c62 => ?_)
          refine v_iload_n ok 1 dX0_comeWith_68 rfl rfl ?_
          refine v_bipush (n := 10) ok rfl dX0_comeWith_69 ?_
          refine v_irem ok (by omega) (by omega) dX0_comeWith_71 ?_
          refine v_goto (tgt := 76) ok dX0_comeWith_72 (by decide) ?_
          refine v_iast (n := 5) (f0 := up (M (b + 1)) 4 0) ok (kd_c0_1 hb) (ln_c0_1 hb) (by omega) (by rw [up1_same]) dX0_comeWith_76 ?_
          rw [up1_up1]
          refine v_iload_n ok 0 dX0_comeWith_77 rfl rfl ?_
          refine v_aload_n ok 2 dX0_comeWith_78 rfl rfl ?_
          refine v_get (T := TX0) (N := 4) (f0 := up (M b) 1 4) (v := iv 4) ok mi_X0_comeWith_0 (kd_lt hb (by decide)) rfl (by rw [up1_ne (kd_ne hb (kd_c0_1 hb) (by decide)), up1_same]) (cellF_0 _ hb) 1 (by decide) mk_X0_comeWith_15 rfl rfl dX0_comeWith_79 ?_
          refine v_icmp_ge (tgt := 92) ok (by decide) (by decide) dX0_comeWith_82 (by decide) (fun c63 => absurd c63 (by decide)) (fun c63 => ?_)
          refine v_iload_n ok 1 dX0_comeWith_85 rfl rfl ?_
          refine v_bipush (n := 10) ok rfl dX0_comeWith_86 ?_
          refine v_idiv ok (by omega) (by omega) dX0_comeWith_88 ?_
          refine v_goto (tgt := 93) ok dX0_comeWith_89 (by decide) ?_
          refine v_istore_n ok [(2, iv (v / 10)), (3, iv 3), (0, rf g b), (1, iv v)] dX0_comeWith_93 rfl (by decide) rfl ?_
          refine v_iinc ok 1 [(3, iv 2), (2, iv (v / 10)), (0, rf g b), (1, iv v)] dX0_comeWith_94 rfl (by decide) rfl ?_
          refine v_goto (tgt := 51) ok dX0_comeWith_97 (by decide) ?_
          refine v_iload_n ok 0 dX0_comeWith_51 rfl rfl ?_
          refine v_if_lt (tgt := 100) ok (by decide) dX0_comeWith_52 (by decide) (fun c64 => absurd c64 (by decide)) (fun c64 => ?_)
          refine v_aload_n ok 2 dX0_comeWith_55 rfl rfl ?_
          refine v_get (T := TX0) (N := 4) (f0 := up (M b) 1 4) (v := rf g (b + 1)) ok mi_X0_comeWith_0 (kd_lt hb (by decide)) rfl (by rw [up1_ne (kd_ne hb (kd_c0_1 hb) (by decide)), up1_same]) (cellF_0 _ hb) 0 (by decide) mk_X0_comeWith_9 rfl rfl dX0_comeWith_56 ?_
          refine v_iload_n ok 0 dX0_comeWith_59 rfl rfl ?_
          refine v_iload_n ok 0 dX0_comeWith_60 rfl rfl ?_
          refine v_aload_n ok 2 dX0_comeWith_61 rfl rfl ?_
          refine v_get (T := TX0) (N := 4) (f0 := up (M b) 1 4) (v := iv 4) ok mi_X0_comeWith_0 (kd_lt hb (by decide)) rfl (by rw [up1_ne (kd_ne hb (kd_c0_1 hb) (by decide)), up1_same]) (cellF_0 _ hb) 1 (by decide) mk_X0_comeWith_15 rfl rfl dX0_comeWith_62 ?_
          refine v_icmp_ge (tgt := 75) ok (by decide) (by decide) dX0_comeWith_65 (by decide) (fun c65 => absurd c65 (by decide)) (fun c65 => ?_)
          refine v_iload_n ok 1 dX0_comeWith_68 rfl rfl ?_
          refine v_bipush (n := 10) ok rfl dX0_comeWith_69 ?_
          refine v_irem ok (by omega) (by omega) dX0_comeWith_71 ?_
          refine v_goto (tgt := 76) ok dX0_comeWith_72 (by decide) ?_
          refine v_iast (n := 5) (f0 := up (up (M (b + 1)) 4 0) 3 (v % 10)) ok (kd_c0_1 hb) (ln_c0_1 hb) (by omega) (by rw [up1_same]) dX0_comeWith_76 ?_
          rw [up1_up1]
          refine v_iload_n ok 0 dX0_comeWith_77 rfl rfl ?_
          refine v_aload_n ok 2 dX0_comeWith_78 rfl rfl ?_
          refine v_get (T := TX0) (N := 4) (f0 := up (M b) 1 4) (v := iv 4) ok mi_X0_comeWith_0 (kd_lt hb (by decide)) rfl (by rw [up1_ne (kd_ne hb (kd_c0_1 hb) (by decide)), up1_same]) (cellF_0 _ hb) 1 (by decide) mk_X0_comeWith_15 rfl rfl dX0_comeWith_79 ?_
          refine v_icmp_ge (tgt := 92) ok (by decide) (by decide) dX0_comeWith_82 (by decide) (fun c66 => absurd c66 (by decide)) (fun c66 => ?_)
          refine v_iload_n ok 1 dX0_comeWith_85 rfl rfl ?_
          refine v_bipush (n := 10) ok rfl dX0_comeWith_86 ?_
          refine v_idiv ok (by omega) (by omega) dX0_comeWith_88 ?_
          refine v_goto (tgt := 93) ok dX0_comeWith_89 (by decide) ?_
          refine v_istore_n ok [(2, iv ((v / 10) / 10)), (3, iv 2), (0, rf g b), (1, iv v)] dX0_comeWith_93 rfl (by decide) rfl ?_
          refine v_iinc ok 1 [(3, iv 1), (2, iv ((v / 10) / 10)), (0, rf g b), (1, iv v)] dX0_comeWith_94 rfl (by decide) rfl ?_
          refine v_goto (tgt := 51) ok dX0_comeWith_97 (by decide) ?_
          refine v_iload_n ok 0 dX0_comeWith_51 rfl rfl ?_
          refine v_if_lt (tgt := 100) ok (by decide) dX0_comeWith_52 (by decide) (fun c67 => absurd c67 (by decide)) (fun c67 => ?_)
          refine v_aload_n ok 2 dX0_comeWith_55 rfl rfl ?_
          refine v_get (T := TX0) (N := 4) (f0 := up (M b) 1 4) (v := rf g (b + 1)) ok mi_X0_comeWith_0 (kd_lt hb (by decide)) rfl (by rw [up1_ne (kd_ne hb (kd_c0_1 hb) (by decide)), up1_same]) (cellF_0 _ hb) 0 (by decide) mk_X0_comeWith_9 rfl rfl dX0_comeWith_56 ?_
          refine v_iload_n ok 0 dX0_comeWith_59 rfl rfl ?_
          refine v_iload_n ok 0 dX0_comeWith_60 rfl rfl ?_
          refine v_aload_n ok 2 dX0_comeWith_61 rfl rfl ?_
          refine v_get (T := TX0) (N := 4) (f0 := up (M b) 1 4) (v := iv 4) ok mi_X0_comeWith_0 (kd_lt hb (by decide)) rfl (by rw [up1_ne (kd_ne hb (kd_c0_1 hb) (by decide)), up1_same]) (cellF_0 _ hb) 1 (by decide) mk_X0_comeWith_15 rfl rfl dX0_comeWith_62 ?_
          refine v_icmp_ge (tgt := 75) ok (by decide) (by decide) dX0_comeWith_65 (by decide) (fun c68 => absurd c68 (by decide)) (fun c68 => ?_)
          refine v_iload_n ok 1 dX0_comeWith_68 rfl rfl ?_
          refine v_bipush (n := 10) ok rfl dX0_comeWith_69 ?_
          refine v_irem ok (by omega) (by omega) dX0_comeWith_71 ?_
          refine v_goto (tgt := 76) ok dX0_comeWith_72 (by decide) ?_
          refine v_iast (n := 5) (f0 := up (up (up (M (b + 1)) 4 0) 3 (v % 10)) 2 ((v / 10) % 10)) ok (kd_c0_1 hb) (ln_c0_1 hb) (by omega) (by rw [up1_same]) dX0_comeWith_76 ?_
          rw [up1_up1]
          refine v_iload_n ok 0 dX0_comeWith_77 rfl rfl ?_
          refine v_aload_n ok 2 dX0_comeWith_78 rfl rfl ?_
          refine v_get (T := TX0) (N := 4) (f0 := up (M b) 1 4) (v := iv 4) ok mi_X0_comeWith_0 (kd_lt hb (by decide)) rfl (by rw [up1_ne (kd_ne hb (kd_c0_1 hb) (by decide)), up1_same]) (cellF_0 _ hb) 1 (by decide) mk_X0_comeWith_15 rfl rfl dX0_comeWith_79 ?_
          refine v_icmp_ge (tgt := 92) ok (by decide) (by decide) dX0_comeWith_82 (by decide) (fun c69 => absurd c69 (by decide)) (fun c69 => ?_)
          refine v_iload_n ok 1 dX0_comeWith_85 rfl rfl ?_
          refine v_bipush (n := 10) ok rfl dX0_comeWith_86 ?_
          refine v_idiv ok (by omega) (by omega) dX0_comeWith_88 ?_
          refine v_goto (tgt := 93) ok dX0_comeWith_89 (by decide) ?_
          refine v_istore_n ok [(2, iv (((v / 10) / 10) / 10)), (3, iv 1), (0, rf g b), (1, iv v)] dX0_comeWith_93 rfl (by decide) rfl ?_
          refine v_iinc ok 1 [(3, iv 0), (2, iv (((v / 10) / 10) / 10)), (0, rf g b), (1, iv v)] dX0_comeWith_94 rfl (by decide) rfl ?_
          refine v_goto (tgt := 51) ok dX0_comeWith_97 (by decide) ?_
          refine v_iload_n ok 0 dX0_comeWith_51 rfl rfl ?_
          refine v_if_lt (tgt := 100) ok (by decide) dX0_comeWith_52 (by decide) (fun c70 => absurd c70 (by decide)) (fun c70 => ?_)
          refine v_aload_n ok 2 dX0_comeWith_55 rfl rfl ?_
          refine v_get (T := TX0) (N := 4) (f0 := up (M b) 1 4) (v := rf g (b + 1)) ok mi_X0_comeWith_0 (kd_lt hb (by decide)) rfl (by rw [up1_ne (kd_ne hb (kd_c0_1 hb) (by decide)), up1_same]) (cellF_0 _ hb) 0 (by decide) mk_X0_comeWith_9 rfl rfl dX0_comeWith_56 ?_
          refine v_iload_n ok 0 dX0_comeWith_59 rfl rfl ?_
          refine v_iload_n ok 0 dX0_comeWith_60 rfl rfl ?_
          refine v_aload_n ok 2 dX0_comeWith_61 rfl rfl ?_
          refine v_get (T := TX0) (N := 4) (f0 := up (M b) 1 4) (v := iv 4) ok mi_X0_comeWith_0 (kd_lt hb (by decide)) rfl (by rw [up1_ne (kd_ne hb (kd_c0_1 hb) (by decide)), up1_same]) (cellF_0 _ hb) 1 (by decide) mk_X0_comeWith_15 rfl rfl dX0_comeWith_62 ?_
          refine v_icmp_ge (tgt := 75) ok (by decide) (by decide) dX0_comeWith_65 (by decide) (fun c71 => absurd c71 (by decide)) (fun c71 => ?_)
          refine v_iload_n ok 1 dX0_comeWith_68 rfl rfl ?_
          refine v_bipush (n := 10) ok rfl dX0_comeWith_69 ?_
          refine v_irem ok (by omega) (by omega) dX0_comeWith_71 ?_
          refine v_goto (tgt := 76) ok dX0_comeWith_72 (by decide) ?_
          refine v_iast (n := 5) (f0 := up (up (up (up (M (b + 1)) 4 0) 3 (v % 10)) 2 ((v / 10) % 10)) 1 (((v / 10) / 10) % 10)) ok (kd_c0_1 hb) (ln_c0_1 hb) (by omega) (by rw [up1_same]) dX0_comeWith_76 ?_
          rw [up1_up1]
          refine v_iload_n ok 0 dX0_comeWith_77 rfl rfl ?_
          refine v_aload_n ok 2 dX0_comeWith_78 rfl rfl ?_
          refine v_get (T := TX0) (N := 4) (f0 := up (M b) 1 4) (v := iv 4) ok mi_X0_comeWith_0 (kd_lt hb (by decide)) rfl (by rw [up1_ne (kd_ne hb (kd_c0_1 hb) (by decide)), up1_same]) (cellF_0 _ hb) 1 (by decide) mk_X0_comeWith_15 rfl rfl dX0_comeWith_79 ?_
          refine v_icmp_ge (tgt := 92) ok (by decide) (by decide) dX0_comeWith_82 (by decide) (fun c72 => absurd c72 (by decide)) (fun c72 => ?_)
          refine v_iload_n ok 1 dX0_comeWith_85 rfl rfl ?_
          refine v_bipush (n := 10) ok rfl dX0_comeWith_86 ?_
          refine v_idiv ok (by omega) (by omega) dX0_comeWith_88 ?_
          refine v_goto (tgt := 93) ok dX0_comeWith_89 (by decide) ?_
          refine v_istore_n ok [(2, iv ((((v / 10) / 10) / 10) / 10)), (3, iv 0), (0, rf g b), (1, iv v)] dX0_comeWith_93 rfl (by decide) rfl ?_
          refine v_iinc ok 1 [(3, iv (-1)), (2, iv ((((v / 10) / 10) / 10) / 10)), (0, rf g b), (1, iv v)] dX0_comeWith_94 rfl (by decide) rfl ?_
          refine v_goto (tgt := 51) ok dX0_comeWith_97 (by decide) ?_
          refine v_iload_n ok 0 dX0_comeWith_51 rfl rfl ?_
          refine v_if_lt (tgt := 100) ok (by decide) dX0_comeWith_52 (by decide) (fun c73 => ?_) (fun c73 => absurd c73 (by decide))
          refine v_aload_n ok 2 dX0_comeWith_100 rfl rfl ?_
          refine v_iconst (n := 0) ok dX0_comeWith_101 ?_
          refine v_put (T := TX0) (N := 4) (f0 := up (M b) 1 4) (f' := up (up (M b) 1 4) 2 0) (ty := .int) ok mi_X0_comeWith_0 (kd_lt hb (by decide)) rfl (by rw [up1_ne (kd_ne hb (kd_c0_1 hb) (by decide)), up1_same]) (cellF_0 _ hb) tyX0 tyX0_ok nmX0 2 (by decide) mk_X0_comeWith_19 rfl rfl (by decide +kernel) rfl rfl (Nat.le_of_ble_eq_true rfl) ((cellF_0 _ hb).trans rfl) dX0_comeWith_102 ?_
          rw [show (up1 (up1 (up1 M b (up (M b) 1 4)) (b + 1) (up (up (up (up (up (M (b + 1)) 4 0) 3 (v % 10)) 2 ((v / 10) % 10)) 1 (((v / 10) / 10) % 10)) 0 ((((v / 10) / 10) / 10) % 10))) b (up (up (M b) 1 4) 2 0) : Mem) = (up1 (up1 M b (up (up (M b) 1 4) 2 0)) (b + 1) (up (up (up (up (up (M (b + 1)) 4 0) 3 (v % 10)) 2 ((v / 10) % 10)) 1 (((v / 10) / 10) % 10)) 0 ((((v / 10) / 10) / 10) % 10))) from (by
                funext j
                by_cases hj0 : j = b
                · simp_all [up1, up1_self]
                by_cases hj1 : j = (b + 1)
                · simp_all [up1, up1_self]
                simp [up1, hj0, hj1])]
          refine v_aload_n ok 2 dX0_comeWith_105 rfl rfl ?_
          refine v_iconst (n := 0) ok dX0_comeWith_106 ?_
          refine v_put (T := TX0) (N := 4) (f0 := up (up (M b) 1 4) 2 0) (f' := up (up (up (M b) 1 4) 2 0) 3 0) (ty := .int) ok mi_X0_comeWith_0 (kd_lt hb (by decide)) rfl (by rw [up1_ne (kd_ne hb (kd_c0_1 hb) (by decide)), up1_same]) (cellF_0 _ hb) tyX0 tyX0_ok nmX0 3 (by decide) mk_X0_comeWith_22 rfl rfl (by decide +kernel) rfl rfl (Nat.le_of_ble_eq_true rfl) ((cellF_0 _ hb).trans rfl) dX0_comeWith_107 ?_
          rw [show (up1 (up1 (up1 M b (up (up (M b) 1 4) 2 0)) (b + 1) (up (up (up (up (up (M (b + 1)) 4 0) 3 (v % 10)) 2 ((v / 10) % 10)) 1 (((v / 10) / 10) % 10)) 0 ((((v / 10) / 10) / 10) % 10))) b (up (up (up (M b) 1 4) 2 0) 3 0) : Mem) = (up1 (up1 M b (up (up (up (M b) 1 4) 2 0) 3 0)) (b + 1) (up (up (up (up (up (M (b + 1)) 4 0) 3 (v % 10)) 2 ((v / 10) % 10)) 1 (((v / 10) / 10) % 10)) 0 ((((v / 10) / 10) / 10) % 10))) from (by
                funext j
                by_cases hj0 : j = b
                · simp_all [up1, up1_self]
                by_cases hj1 : j = (b + 1)
                · simp_all [up1, up1_self]
                simp [up1, hj0, hj1])]
          have hd : dgn v = 4 := by unfold dgn; (repeat' split) <;> omega
          refine v_cong (n := 5) (dgt v (dgn v)) (Or.inl (kd_c0_1 hb)) (ln_c0_1 hb) (fun k k0 k1 => by
              rw [hd]
              have e : k = 0 ∨ k = 1 ∨ k = 2 ∨ k = 3 ∨ k = 4 := by omega
              rcases e with rfl | rfl | rfl | rfl | rfl <;> simp [up, dgt, p10] <;> omega) ?_
          exact v_vret ok rt dX0_comeWith_110 (⟨rfl, (by rw [hd])⟩)
        · skip
          refine v_aload_n ok 1 dX0_comeWith_11 rfl rfl ?_
          refine v_get (T := TX0) (N := 4) (f0 := up (M b) 1 4) (v := iv 4) ok mi_X0_comeWith_0 (kd_lt hb (by decide)) rfl (by rw [up1_same]) (cellF_0 _ hb) 1 (by decide) mk_X0_comeWith_15 rfl rfl dX0_comeWith_12 ?_
          refine v_aload_n ok 1 dX0_comeWith_15 rfl rfl ?_
          refine v_get (T := TX0) (N := 4) (f0 := up (M b) 1 4) (v := rf g (b + 1)) ok mi_X0_comeWith_0 (kd_lt hb (by decide)) rfl (by rw [up1_same]) (cellF_0 _ hb) 0 (by decide) mk_X0_comeWith_9 rfl rfl dX0_comeWith_16 ?_
          refine v_alen (n := 5) ok (Or.inl (kd_c0_1 hb)) (ln_c0_1 hb) dX0_comeWith_19 ?_
          refine v_icmp_ge (tgt := 41) ok (by decide) (by decide) dX0_comeWith_20 (by decide) (fun c74 => absurd c74 (by decide)) (fun c74 => ?_)
          refine v_aload_n ok 1 dX0_comeWith_23 rfl rfl ?_
          refine v_dup ok rfl dX0_comeWith_24 ?_
          refine v_get (T := TX0) (N := 4) (f0 := up (M b) 1 4) (v := iv 4) ok mi_X0_comeWith_0 (kd_lt hb (by decide)) rfl (by rw [up1_same]) (cellF_0 _ hb) 1 (by decide) mk_X0_comeWith_15 rfl rfl dX0_comeWith_25 ?_
          refine v_iconst (n := 1) ok dX0_comeWith_28 ?_
          refine v_iadd ok dX0_comeWith_29 ?_
          show V z g 4 (up1 M b (up (M b) 1 4)) [(2, iv ((((v / 10) / 10) / 10) / 10)), (0, rf g b), (1, iv v)] [iv 5, rf g b] 30
          refine v_put (T := TX0) (N := 4) (f0 := up (M b) 1 4) (f' := up (up (M b) 1 4) 1 5) (ty := .int) ok mi_X0_comeWith_0 (kd_lt hb (by decide)) rfl (by rw [up1_same]) (cellF_0 _ hb) tyX0 tyX0_ok nmX0 1 (by decide) mk_X0_comeWith_15 rfl rfl (by decide +kernel) rfl rfl (Nat.le_of_ble_eq_true rfl) ((cellF_0 _ hb).trans rfl) dX0_comeWith_30 ?_
          rw [up_up]
          rw [up1_up1]
          refine v_iload_n ok 0 dX0_comeWith_33 rfl rfl ?_
          refine v_bipush (n := 10) ok rfl dX0_comeWith_34 ?_
          refine v_idiv ok (by omega) (by omega) dX0_comeWith_36 ?_
          refine v_istore_n ok [(2, iv (((((v / 10) / 10) / 10) / 10) / 10)), (0, rf g b), (1, iv v)] dX0_comeWith_37 rfl (by decide) rfl ?_
          refine v_goto (tgt := 7) ok dX0_comeWith_38 (by decide) ?_
          refine v_iload_n ok 0 dX0_comeWith_7 rfl rfl ?_
          refine v_if_le (tgt := 41) ok ⟨by omega, by omega⟩ dX0_comeWith_8 (by decide) (fun c75 => ?_) (fun c75 => ?_)
          · skip
            refine v_iload_n ok 2 dX0_comeWith_41 rfl rfl ?_
            refine v_istore_n ok [(2, iv v), (0, rf g b), (1, iv v)] dX0_comeWith_42 rfl (by decide) rfl ?_
            refine v_aload_n ok 1 dX0_comeWith_43 rfl rfl ?_
            refine v_get (T := TX0) (N := 4) (f0 := up (M b) 1 5) (v := rf g (b + 1)) ok mi_X0_comeWith_0 (kd_lt hb (by decide)) rfl (by rw [up1_same]) (cellF_0 _ hb) 0 (by decide) mk_X0_comeWith_9 rfl rfl dX0_comeWith_44 ?_
            refine v_alen (n := 5) ok (Or.inl (kd_c0_1 hb)) (ln_c0_1 hb) dX0_comeWith_47 ?_
            refine v_iconst (n := 1) ok dX0_comeWith_48 ?_
            refine v_isub ok dX0_comeWith_49 ?_
            show V z g 4 (up1 M b (up (M b) 1 5)) [(2, iv v), (0, rf g b), (1, iv v)] [iv 4] 50
            refine v_istore_n ok [(3, iv 4), (2, iv v), (0, rf g b), (1, iv v)] dX0_comeWith_50 rfl (by decide) rfl ?_
            refine v_iload_n ok 0 dX0_comeWith_51 rfl rfl ?_
            refine v_if_lt (tgt := 100) ok (by decide) dX0_comeWith_52 (by decide) (fun c76 => absurd c76 (by decide)) (fun c76 => ?_)
            refine v_aload_n ok 2 dX0_comeWith_55 rfl rfl ?_
            refine v_get (T := TX0) (N := 4) (f0 := up (M b) 1 5) (v := rf g (b + 1)) ok mi_X0_comeWith_0 (kd_lt hb (by decide)) rfl (by rw [up1_same]) (cellF_0 _ hb) 0 (by decide) mk_X0_comeWith_9 rfl rfl dX0_comeWith_56 ?_
            refine v_iload_n ok 0 dX0_comeWith_59 rfl rfl ?_
            refine v_iload_n ok 0 dX0_comeWith_60 rfl rfl ?_
            refine v_aload_n ok 2 dX0_comeWith_61 rfl rfl ?_
            refine v_get (T := TX0) (N := 4) (f0 := up (M b) 1 5) (v := iv 5) ok mi_X0_comeWith_0 (kd_lt hb (by decide)) rfl (by rw [up1_same]) (cellF_0 _ hb) 1 (by decide) mk_X0_comeWith_15 rfl rfl dX0_comeWith_62 ?_
            refine v_icmp_ge (tgt := 75) ok (by decide) (by decide) dX0_comeWith_65 (by decide) (fun c77 => absurd c77 (by decide)) (fun c77 => ?_)
            refine v_iload_n ok 1 dX0_comeWith_68 rfl rfl ?_
            refine v_bipush (n := 10) ok rfl dX0_comeWith_69 ?_
            refine v_irem ok (by omega) (by omega) dX0_comeWith_71 ?_
            refine v_goto (tgt := 76) ok dX0_comeWith_72 (by decide) ?_
            refine v_iast (n := 5) (f0 := (M (b + 1))) ok (kd_c0_1 hb) (ln_c0_1 hb) (by omega) (by rw [up1_ne (kd_ne (kd_c0_1 hb) hb (by decide))]) dX0_comeWith_76 ?_
            refine v_iload_n ok 0 dX0_comeWith_77 rfl rfl ?_
            refine v_aload_n ok 2 dX0_comeWith_78 rfl rfl ?_
            refine v_get (T := TX0) (N := 4) (f0 := up (M b) 1 5) (v := iv 5) ok mi_X0_comeWith_0 (kd_lt hb (by decide)) rfl (by rw [up1_ne (kd_ne hb (kd_c0_1 hb) (by decide)), up1_same]) (cellF_0 _ hb) 1 (by decide) mk_X0_comeWith_15 rfl rfl dX0_comeWith_79 ?_
            refine v_icmp_ge (tgt := 92) ok (by decide) (by decide) dX0_comeWith_82 (by decide) (fun c78 => absurd c78 (by decide)) (fun c78 => ?_)
            refine v_iload_n ok 1 dX0_comeWith_85 rfl rfl ?_
            refine v_bipush (n := 10) ok rfl dX0_comeWith_86 ?_
            refine v_idiv ok (by omega) (by omega) dX0_comeWith_88 ?_
            refine v_goto (tgt := 93) ok dX0_comeWith_89 (by decide) ?_
            refine v_istore_n ok [(2, iv (v / 10)), (3, iv 4), (0, rf g b), (1, iv v)] dX0_comeWith_93 rfl (by decide) rfl ?_
            refine v_iinc ok 1 [(3, iv 3), (2, iv (v / 10)), (0, rf g b), (1, iv v)] dX0_comeWith_94 rfl (by decide) rfl ?_
            refine v_goto (tgt := 51) ok dX0_comeWith_97 (by decide) ?_
            refine v_iload_n ok 0 dX0_comeWith_51 rfl rfl ?_
            refine v_if_lt (tgt := 100) ok (by decide) dX0_comeWith_52 (by decide) (fun c79 => absurd c79 (by decide)) (fun c79 => ?_)
            refine v_aload_n ok 2 dX0_comeWith_55 rfl rfl ?_
            refine v_get (T := TX0) (N := 4) (f0 := up (M b) 1 5) (v := rf g (b + 1)) ok mi_X0_comeWith_0 (kd_lt hb (by decide)) rfl (by rw [up1_ne (kd_ne hb (kd_c0_1 hb) (by decide)), up1_same]) (cellF_0 _ hb) 0 (by decide) mk_X0_comeWith_9 rfl rfl dX0_comeWith_56 ?_
            refine v_iload_n ok 0 dX0_comeWith_59 rfl rfl ?_
            refine v_iload_n ok 0 dX0_comeWith_60 rfl rfl ?_
            refine v_aload_n ok 2 dX0_comeWith_61 rfl rfl ?_
            refine v_get (T := TX0) (N := 4) (f0 := up (M b) 1 5) (v := iv 5) ok mi_X0_comeWith_0 (kd_lt hb (by decide)) rfl (by rw [up1_ne (kd_ne hb (kd_c0_1 hb) (by decide)), up1_same]) (cellF_0 _ hb) 1 (by decide) mk_X0_comeWith_15 rfl rfl dX0_comeWith_62 ?_
            refine v_icmp_ge (tgt := 75) ok (by decide) (by decide) dX0_comeWith_65 (by decide) (fun c80 => absurd c80 (by decide)) (fun c80 => ?_)
            refine v_iload_n ok 1 dX0_comeWith_68 rfl rfl ?_
            refine v_bipush (n := 10) ok rfl dX0_comeWith_69 ?_
            refine v_irem ok (by omega) (by omega) dX0_comeWith_71 ?_
            refine v_goto (tgt := 76) ok dX0_comeWith_72 (by decide) ?_
            refine v_iast (n := 5) (f0 := up (M (b + 1)) 4 (v % 10)) ok (kd_c0_1 hb) (ln_c0_1 hb) (by omega) (by rw [up1_same]) dX0_comeWith_76 ?_
            rw [up1_up1]
            refine v_iload_n ok 0 dX0_comeWith_77 rfl rfl ?_
            refine v_aload_n ok 2 dX0_comeWith_78 rfl rfl ?_
            refine v_get (T := TX0) (N := 4) (f0 := up (M b) 1 5) (v := iv 5) ok mi_X0_comeWith_0 (kd_lt hb (by decide)) rfl (by rw [up1_ne (kd_ne hb (kd_c0_1 hb) (by decide)), up1_same]) (cellF_0 _ hb) 1 (by decide) mk_X0_comeWith_15 rfl rfl dX0_comeWith_79 ?_
            refine v_icmp_ge (tgt := 92) ok (by decide) (by decide) dX0_comeWith_82 (by decide) (fun c81 => absurd c81 (by decide)) (fun c81 => ?_)
            refine v_iload_n ok 1 dX0_comeWith_85 rfl rfl ?_
            refine v_bipush (n := 10) ok rfl dX0_comeWith_86 ?_
            refine v_idiv ok (by omega) (by omega) dX0_comeWith_88 ?_
            refine v_goto (tgt := 93) ok dX0_comeWith_89 (by decide) ?_
            refine v_istore_n ok [(2, iv ((v / 10) / 10)), (3, iv 3), (0, rf g b), (1, iv v)] dX0_comeWith_93 rfl (by decide) rfl ?_
            refine v_iinc ok 1 [(3, iv 2), (2, iv ((v / 10) / 10)), (0, rf g b), (1, iv v)] dX0_comeWith_94 rfl (by decide) rfl ?_
            refine v_goto (tgt := 51) ok dX0_comeWith_97 (by decide) ?_
            refine v_iload_n ok 0 dX0_comeWith_51 rfl rfl ?_
            refine v_if_lt (tgt := 100) ok (by decide) dX0_comeWith_52 (by decide) (fun c82 => absurd c82 (by decide)) (fun c82 => ?_)
            refine v_aload_n ok 2 dX0_comeWith_55 rfl rfl ?_
            refine v_get (T := TX0) (N := 4) (f0 := up (M b) 1 5) (v := rf g (b + 1)) ok mi_X0_comeWith_0 (kd_lt hb (by decide)) rfl (by rw [up1_ne (kd_ne hb (kd_c0_1 hb) (by decide)), up1_same]) (cellF_0 _ hb) 0 (by decide) mk_X0_comeWith_9 rfl rfl dX0_comeWith_56 ?_
            refine v_iload_n ok 0 dX0_comeWith_59 rfl rfl ?_
            refine v_iload_n ok 0 dX0_comeWith_60 rfl rfl ?_
            refine v_aload_n ok 2 dX0_comeWith_61 rfl rfl ?_
            refine v_get (T := TX0) (N := 4) (f0 := up (M b) 1 5) (v := iv 5) ok mi_X0_comeWith_0 (kd_lt hb (by decide)) rfl (by rw [up1_ne (kd_ne hb (kd_c0_1 hb) (by decide)), up1_same]) (cellF_0 _ hb) 1 (by decide) mk_X0_comeWith_15 rfl rfl dX0_comeWith_62 ?_
            refine v_icmp_ge (tgt := 75) ok (by decide) (by decide) dX0_comeWith_65 (by decide) (fun c83 => absurd c83 (by decide)) (fun c83 => ?_)
            refine v_iload_n ok 1 dX0_comeWith_68 rfl rfl ?_
            refine v_bipush (n := 10) ok rfl dX0_comeWith_69 ?_
            refine v_irem ok (by omega) (by omega) dX0_comeWith_71 ?_
            refine v_goto (tgt := 76) ok dX0_comeWith_72 (by decide) ?_
            refine v_iast (n := 5) (f0 := up (up (M (b + 1)) 4 (v % 10)) 3 ((v / 10) % 10)) ok (kd_c0_1 hb) (ln_c0_1 hb) (by omega) (by rw [up1_same]) dX0_comeWith_76 ?_
            rw [up1_up1]
            refine v_iload_n ok 0 dX0_comeWith_77 rfl rfl ?_
            refine v_aload_n ok 2 dX0_comeWith_78 rfl rfl ?_
            refine v_get (T := TX0) (N := 4) (f0 := up (M b) 1 5) (v := iv 5) ok mi_X0_comeWith_0 (kd_lt hb (by decide)) rfl (by rw [up1_ne (kd_ne hb (kd_c0_1 hb) (by decide)), up1_same]) (cellF_0 _ hb) 1 (by decide) mk_X0_comeWith_15 rfl rfl dX0_comeWith_79 ?_
            refine v_icmp_ge (tgt := 92) ok (by decide) (by decide) dX0_comeWith_82 (by decide) (fun c84 => absurd c84 (by decide)) (fun c84 => ?_)
            refine v_iload_n ok 1 dX0_comeWith_85 rfl rfl ?_
            refine v_bipush (n := 10) ok rfl dX0_comeWith_86 ?_
            refine v_idiv ok (by omega) (by omega) dX0_comeWith_88 ?_
            refine v_goto (tgt := 93) ok dX0_comeWith_89 (by decide) ?_
            refine v_istore_n ok [(2, iv (((v / 10) / 10) / 10)), (3, iv 2), (0, rf g b), (1, iv v)] dX0_comeWith_93 rfl (by decide) rfl ?_
            refine v_iinc ok 1 [(3, iv 1), (2, iv (((v / 10) / 10) / 10)), (0, rf g b), (1, iv v)] dX0_comeWith_94 rfl (by decide) rfl ?_
            refine v_goto (tgt := 51) ok dX0_comeWith_97 (by decide) ?_
            refine v_iload_n ok 0 dX0_comeWith_51 rfl rfl ?_
            refine v_if_lt (tgt := 100) ok (by decide) dX0_comeWith_52 (by decide) (fun c85 => absurd c85 (by decide)) (fun c85 => ?_)
            refine v_aload_n ok 2 dX0_comeWith_55 rfl rfl ?_
            refine v_get (T := TX0) (N := 4) (f0 := up (M b) 1 5) (v := rf g (b + 1)) ok mi_X0_comeWith_0 (kd_lt hb (by decide)) rfl (by rw [up1_ne (kd_ne hb (kd_c0_1 hb) (by decide)), up1_same]) (cellF_0 _ hb) 0 (by decide) mk_X0_comeWith_9 rfl rfl dX0_comeWith_56 ?_
            refine v_iload_n ok 0 dX0_comeWith_59 rfl rfl ?_
            refine v_iload_n ok 0 dX0_comeWith_60 rfl rfl ?_
            refine v_aload_n ok 2 dX0_comeWith_61 rfl rfl ?_
            refine v_get (T := TX0) (N := 4) (f0 := up (M b) 1 5) (v := iv 5) ok mi_X0_comeWith_0 (kd_lt hb (by decide)) rfl (by rw [up1_ne (kd_ne hb (kd_c0_1 hb) (by decide)), up1_same]) (cellF_0 _ hb) 1 (by decide) mk_X0_comeWith_15 rfl rfl dX0_comeWith_62 ?_
            refine v_icmp_ge (tgt := 75) ok (by decide) (by decide) dX0_comeWith_65 (by decide) (fun c86 => absurd c86 (by decide)) (fun c86 => ?_)
            refine v_iload_n ok 1 dX0_comeWith_68 rfl rfl ?_
            refine v_bipush (n := 10) ok rfl dX0_comeWith_69 ?_
            refine v_irem ok (by omega) (by omega) dX0_comeWith_71 ?_
            refine v_goto (tgt := 76) ok dX0_comeWith_72 (by decide) ?_
            refine v_iast (n := 5) (f0 := up (up (up (M (b + 1)) 4 (v % 10)) 3 ((v / 10) % 10)) 2 (((v / 10) / 10) % 10)) ok (kd_c0_1 hb) (ln_c0_1 hb) (by omega) (by rw [up1_same]) dX0_comeWith_76 ?_
            rw [up1_up1]
            refine v_iload_n ok 0 dX0_comeWith_77 rfl rfl ?_
            refine v_aload_n ok 2 dX0_comeWith_78 rfl rfl ?_
            refine v_get (T := TX0) (N := 4) (f0 := up (M b) 1 5) (v := iv 5) ok mi_X0_comeWith_0 (kd_lt hb (by decide)) rfl (by rw [up1_ne (kd_ne hb (kd_c0_1 hb) (by decide)), up1_same]) (cellF_0 _ hb) 1 (by decide) mk_X0_comeWith_15 rfl rfl dX0_comeWith_79 ?_
            refine v_icmp_ge (tgt := 92) ok (by decide) (by decide) dX0_comeWith_82 (by decide) (fun c87 => absurd c87 (by decide)) (fun c87 => ?_)
            refine v_iload_n ok 1 dX0_comeWith_85 rfl rfl ?_
            refine v_bipush (n := 10) ok rfl dX0_comeWith_86 ?_
            refine v_idiv ok (by omega) (by omega) dX0_comeWith_88 ?_
            refine v_goto (tgt := 93) ok dX0_comeWith_89 (by decide) ?_
            refine v_istore_n ok [(2, iv ((((v / 10) / 10) / 10) / 10)), (3, iv 1), (0, rf g b), (1, iv v)] dX0_comeWith_93 rfl (by decide) rfl ?_
            refine v_iinc ok 1 [(3, iv 0), (2, iv ((((v / 10) / 10) / 10) / 10)), (0, rf g b), (1, iv v)] dX0_comeWith_94 rfl (by decide) rfl ?_
            refine v_goto (tgt := 51) ok dX0_comeWith_97 (by decide) ?_
            refine v_iload_n ok 0 dX0_comeWith_51 rfl rfl ?_
            refine v_if_lt (tgt := 100) ok (by decide) dX0_comeWith_52 (by decide) (fun c88 => absurd c88 (by decide)) (fun c88 => ?_)
            refine v_aload_n ok 2 dX0_comeWith_55 rfl rfl ?_
            refine v_get (T := TX0) (N := 4) (f0 := up (M b) 1 5) (v := rf g (b + 1)) ok mi_X0_comeWith_0 (kd_lt hb (by decide)) rfl (by rw [up1_ne (kd_ne hb (kd_c0_1 hb) (by decide)), up1_same]) (cellF_0 _ hb) 0 (by decide) mk_X0_comeWith_9 rfl rfl dX0_comeWith_56 ?_
            refine v_iload_n ok 0 dX0_comeWith_59 rfl rfl ?_
            refine v_iload_n ok 0 dX0_comeWith_60 rfl rfl ?_
            refine v_aload_n ok 2 dX0_comeWith_61 rfl rfl ?_
            refine v_get (T := TX0) (N := 4) (f0 := up (M b) 1 5) (v := iv 5) ok mi_X0_comeWith_0 (kd_lt hb (by decide)) rfl (by rw [up1_ne (kd_ne hb (kd_c0_1 hb) (by decide)), up1_same]) (cellF_0 _ hb) 1 (by decide) mk_X0_comeWith_15 rfl rfl dX0_comeWith_62 ?_
            refine v_icmp_ge (tgt := 75) ok (by decide) (by decide) dX0_comeWith_65 (by decide) (fun c89 => absurd c89 (by decide)) (fun c89 => ?_)
            refine v_iload_n ok 1 dX0_comeWith_68 rfl rfl ?_
            refine v_bipush (n := 10) ok rfl dX0_comeWith_69 ?_
            refine v_irem ok (by omega) (by omega) dX0_comeWith_71 ?_
            refine v_goto (tgt := 76) ok dX0_comeWith_72 (by decide) ?_
            refine v_iast (n := 5) (f0 := up (up (up (up (M (b + 1)) 4 (v % 10)) 3 ((v / 10) % 10)) 2 (((v / 10) / 10) % 10)) 1 ((((v / 10) / 10) / 10) % 10)) ok (kd_c0_1 hb) (ln_c0_1 hb) (by omega) (by rw [up1_same]) dX0_comeWith_76 ?_
            rw [up1_up1]
            refine v_iload_n ok 0 dX0_comeWith_77 rfl rfl ?_
            refine v_aload_n ok 2 dX0_comeWith_78 rfl rfl ?_
            refine v_get (T := TX0) (N := 4) (f0 := up (M b) 1 5) (v := iv 5) ok mi_X0_comeWith_0 (kd_lt hb (by decide)) rfl (by rw [up1_ne (kd_ne hb (kd_c0_1 hb) (by decide)), up1_same]) (cellF_0 _ hb) 1 (by decide) mk_X0_comeWith_15 rfl rfl dX0_comeWith_79 ?_
            refine v_icmp_ge (tgt := 92) ok (by decide) (by decide) dX0_comeWith_82 (by decide) (fun c90 => absurd c90 (by decide)) (fun c90 => ?_)
            refine v_iload_n ok 1 dX0_comeWith_85 rfl rfl ?_
            refine v_bipush (n := 10) ok rfl dX0_comeWith_86 ?_
            refine v_idiv ok (by omega) (by omega) dX0_comeWith_88 ?_
            refine v_goto (tgt := 93) ok dX0_comeWith_89 (by decide) ?_
            refine v_istore_n ok [(2, iv (((((v / 10) / 10) / 10) / 10) / 10)), (3, iv 0), (0, rf g b), (1, iv v)] dX0_comeWith_93 rfl (by decide) rfl ?_
            refine v_iinc ok 1 [(3, iv (-1)), (2, iv (((((v / 10) / 10) / 10) / 10) / 10)), (0, rf g b), (1, iv v)] dX0_comeWith_94 rfl (by decide) rfl ?_
            refine v_goto (tgt := 51) ok dX0_comeWith_97 (by decide) ?_
            refine v_iload_n ok 0 dX0_comeWith_51 rfl rfl ?_
            refine v_if_lt (tgt := 100) ok (by decide) dX0_comeWith_52 (by decide) (fun c91 => ?_) (fun c91 => absurd c91 (by decide))
            refine v_aload_n ok 2 dX0_comeWith_100 rfl rfl ?_
            refine v_iconst (n := 0) ok dX0_comeWith_101 ?_
            refine v_put (T := TX0) (N := 4) (f0 := up (M b) 1 5) (f' := up (up (M b) 1 5) 2 0) (ty := .int) ok mi_X0_comeWith_0 (kd_lt hb (by decide)) rfl (by rw [up1_ne (kd_ne hb (kd_c0_1 hb) (by decide)), up1_same]) (cellF_0 _ hb) tyX0 tyX0_ok nmX0 2 (by decide) mk_X0_comeWith_19 rfl rfl (by decide +kernel) rfl rfl (Nat.le_of_ble_eq_true rfl) ((cellF_0 _ hb).trans rfl) dX0_comeWith_102 ?_
            rw [show (up1 (up1 (up1 M b (up (M b) 1 5)) (b + 1) (up (up (up (up (up (M (b + 1)) 4 (v % 10)) 3 ((v / 10) % 10)) 2 (((v / 10) / 10) % 10)) 1 ((((v / 10) / 10) / 10) % 10)) 0 (((((v / 10) / 10) / 10) / 10) % 10))) b (up (up (M b) 1 5) 2 0) : Mem) = (up1 (up1 M b (up (up (M b) 1 5) 2 0)) (b + 1) (up (up (up (up (up (M (b + 1)) 4 (v % 10)) 3 ((v / 10) % 10)) 2 (((v / 10) / 10) % 10)) 1 ((((v / 10) / 10) / 10) % 10)) 0 (((((v / 10) / 10) / 10) / 10) % 10))) from (by
                  funext j
                  by_cases hj0 : j = b
                  · simp_all [up1, up1_self]
                  by_cases hj1 : j = (b + 1)
                  · simp_all [up1, up1_self]
                  simp [up1, hj0, hj1])]
            refine v_aload_n ok 2 dX0_comeWith_105 rfl rfl ?_
            refine v_iconst (n := 0) ok dX0_comeWith_106 ?_
            refine v_put (T := TX0) (N := 4) (f0 := up (up (M b) 1 5) 2 0) (f' := up (up (up (M b) 1 5) 2 0) 3 0) (ty := .int) ok mi_X0_comeWith_0 (kd_lt hb (by decide)) rfl (by rw [up1_ne (kd_ne hb (kd_c0_1 hb) (by decide)), up1_same]) (cellF_0 _ hb) tyX0 tyX0_ok nmX0 3 (by decide) mk_X0_comeWith_22 rfl rfl (by decide +kernel) rfl rfl (Nat.le_of_ble_eq_true rfl) ((cellF_0 _ hb).trans rfl) dX0_comeWith_107 ?_
            rw [show (up1 (up1 (up1 M b (up (up (M b) 1 5) 2 0)) (b + 1) (up (up (up (up (up (M (b + 1)) 4 (v % 10)) 3 ((v / 10) % 10)) 2 (((v / 10) / 10) % 10)) 1 ((((v / 10) / 10) / 10) % 10)) 0 (((((v / 10) / 10) / 10) / 10) % 10))) b (up (up (up (M b) 1 5) 2 0) 3 0) : Mem) = (up1 (up1 M b (up (up (up (M b) 1 5) 2 0) 3 0)) (b + 1) (up (up (up (up (up (M (b + 1)) 4 (v % 10)) 3 ((v / 10) % 10)) 2 (((v / 10) / 10) % 10)) 1 ((((v / 10) / 10) / 10) % 10)) 0 (((((v / 10) / 10) / 10) / 10) % 10))) from (by
                  funext j
                  by_cases hj0 : j = b
                  · simp_all [up1, up1_self]
                  by_cases hj1 : j = (b + 1)
                  · simp_all [up1, up1_self]
                  simp [up1, hj0, hj1])]
            have hd : dgn v = 5 := by unfold dgn; (repeat' split) <;> omega
            refine v_cong (n := 5) (dgt v (dgn v)) (Or.inl (kd_c0_1 hb)) (ln_c0_1 hb) (fun k k0 k1 => by
                rw [hd]
                have e : k = 0 ∨ k = 1 ∨ k = 2 ∨ k = 3 ∨ k = 4 := by omega
                rcases e with rfl | rfl | rfl | rfl | rfl <;> simp [up, dgt, p10] <;> omega) ?_
            exact v_vret ok rt dX0_comeWith_110 (⟨rfl, (by rw [hd])⟩)
          · skip
            refine v_aload_n ok 1 dX0_comeWith_11 rfl rfl ?_
            refine v_get (T := TX0) (N := 4) (f0 := up (M b) 1 5) (v := iv 5) ok mi_X0_comeWith_0 (kd_lt hb (by decide)) rfl (by rw [up1_same]) (cellF_0 _ hb) 1 (by decide) mk_X0_comeWith_15 rfl rfl dX0_comeWith_12 ?_
            refine v_aload_n ok 1 dX0_comeWith_15 rfl rfl ?_
            refine v_get (T := TX0) (N := 4) (f0 := up (M b) 1 5) (v := rf g (b + 1)) ok mi_X0_comeWith_0 (kd_lt hb (by decide)) rfl (by rw [up1_same]) (cellF_0 _ hb) 0 (by decide) mk_X0_comeWith_9 rfl rfl dX0_comeWith_16 ?_
            refine v_alen (n := 5) ok (Or.inl (kd_c0_1 hb)) (ln_c0_1 hb) dX0_comeWith_19 ?_
            refine v_icmp_ge (tgt := 41) ok (by decide) (by decide) dX0_comeWith_20 (by decide) (fun c92 => ?_) (fun c92 => absurd c92 (by decide))
            refine v_iload_n ok 2 dX0_comeWith_41 rfl rfl ?_
            refine v_istore_n ok [(2, iv v), (0, rf g b), (1, iv v)] dX0_comeWith_42 rfl (by decide) rfl ?_
            refine v_aload_n ok 1 dX0_comeWith_43 rfl rfl ?_
            refine v_get (T := TX0) (N := 4) (f0 := up (M b) 1 5) (v := rf g (b + 1)) ok mi_X0_comeWith_0 (kd_lt hb (by decide)) rfl (by rw [up1_same]) (cellF_0 _ hb) 0 (by decide) mk_X0_comeWith_9 rfl rfl dX0_comeWith_44 ?_
            refine v_alen (n := 5) ok (Or.inl (kd_c0_1 hb)) (ln_c0_1 hb) dX0_comeWith_47 ?_
            refine v_iconst (n := 1) ok dX0_comeWith_48 ?_
            refine v_isub ok dX0_comeWith_49 ?_
            show V z g 4 (up1 M b (up (M b) 1 5)) [(2, iv v), (0, rf g b), (1, iv v)] [iv 4] 50
            refine v_istore_n ok [(3, iv 4), (2, iv v), (0, rf g b), (1, iv v)] dX0_comeWith_50 rfl (by decide) rfl ?_
            refine v_iload_n ok 0 dX0_comeWith_51 rfl rfl ?_
            refine v_if_lt (tgt := 100) ok (by decide) dX0_comeWith_52 (by decide) (fun c93 => absurd c93 (by decide)) (fun c93 => ?_)
            refine v_aload_n ok 2 dX0_comeWith_55 rfl rfl ?_
            refine v_get (T := TX0) (N := 4) (f0 := up (M b) 1 5) (v := rf g (b + 1)) ok mi_X0_comeWith_0 (kd_lt hb (by decide)) rfl (by rw [up1_same]) (cellF_0 _ hb) 0 (by decide) mk_X0_comeWith_9 rfl rfl dX0_comeWith_56 ?_
            refine v_iload_n ok 0 dX0_comeWith_59 rfl rfl ?_
            refine v_iload_n ok 0 dX0_comeWith_60 rfl rfl ?_
            refine v_aload_n ok 2 dX0_comeWith_61 rfl rfl ?_
            refine v_get (T := TX0) (N := 4) (f0 := up (M b) 1 5) (v := iv 5) ok mi_X0_comeWith_0 (kd_lt hb (by decide)) rfl (by rw [up1_same]) (cellF_0 _ hb) 1 (by decide) mk_X0_comeWith_15 rfl rfl dX0_comeWith_62 ?_
            refine v_icmp_ge (tgt := 75) ok (by decide) (by decide) dX0_comeWith_65 (by decide) (fun c94 => absurd c94 (by decide)) (fun c94 => ?_)
            refine v_iload_n ok 1 dX0_comeWith_68 rfl rfl ?_
            refine v_bipush (n := 10) ok rfl dX0_comeWith_69 ?_
            refine v_irem ok (by omega) (by omega) dX0_comeWith_71 ?_
            refine v_goto (tgt := 76) ok dX0_comeWith_72 (by decide) ?_
            refine v_iast (n := 5) (f0 := (M (b + 1))) ok (kd_c0_1 hb) (ln_c0_1 hb) (by omega) (by rw [up1_ne (kd_ne (kd_c0_1 hb) hb (by decide))]) dX0_comeWith_76 ?_
            refine v_iload_n ok 0 dX0_comeWith_77 rfl rfl ?_
            refine v_aload_n ok 2 dX0_comeWith_78 rfl rfl ?_
            refine v_get (T := TX0) (N := 4) (f0 := up (M b) 1 5) (v := iv 5) ok mi_X0_comeWith_0 (kd_lt hb (by decide)) rfl (by rw [up1_ne (kd_ne hb (kd_c0_1 hb) (by decide)), up1_same]) (cellF_0 _ hb) 1 (by decide) mk_X0_comeWith_15 rfl rfl dX0_comeWith_79 ?_
            refine v_icmp_ge (tgt := 92) ok (by decide) (by decide) dX0_comeWith_82 (by decide) (fun c95 => absurd c95 (by decide)) (fun c95 => ?_)
            refine v_iload_n ok 1 dX0_comeWith_85 rfl rfl ?_
            refine v_bipush (n := 10) ok rfl dX0_comeWith_86 ?_
            refine v_idiv ok (by omega) (by omega) dX0_comeWith_88 ?_
            refine v_goto (tgt := 93) ok dX0_comeWith_89 (by decide) ?_
            refine v_istore_n ok [(2, iv (v / 10)), (3, iv 4), (0, rf g b), (1, iv v)] dX0_comeWith_93 rfl (by decide) rfl ?_
            refine v_iinc ok 1 [(3, iv 3), (2, iv (v / 10)), (0, rf g b), (1, iv v)] dX0_comeWith_94 rfl (by decide) rfl ?_
            refine v_goto (tgt := 51) ok dX0_comeWith_97 (by decide) ?_
            refine v_iload_n ok 0 dX0_comeWith_51 rfl rfl ?_
            refine v_if_lt (tgt := 100) ok (by decide) dX0_comeWith_52 (by decide) (fun c96 => absurd c96 (by decide)) (fun c96 => ?_)
            refine v_aload_n ok 2 dX0_comeWith_55 rfl rfl ?_
            refine v_get (T := TX0) (N := 4) (f0 := up (M b) 1 5) (v := rf g (b + 1)) ok mi_X0_comeWith_0 (kd_lt hb (by decide)) rfl (by rw [up1_ne (kd_ne hb (kd_c0_1 hb) (by decide)), up1_same]) (cellF_0 _ hb) 0 (by decide) mk_X0_comeWith_9 rfl rfl dX0_comeWith_56 ?_
            refine v_iload_n ok 0 dX0_comeWith_59 rfl rfl ?_
            refine v_iload_n ok 0 dX0_comeWith_60 rfl rfl ?_
            refine v_aload_n ok 2 dX0_comeWith_61 rfl rfl ?_
            refine v_get (T := TX0) (N := 4) (f0 := up (M b) 1 5) (v := iv 5) ok mi_X0_comeWith_0 (kd_lt hb (by decide)) rfl (by rw [up1_ne (kd_ne hb (kd_c0_1 hb) (by decide)), up1_same]) (cellF_0 _ hb) 1 (by decide) mk_X0_comeWith_15 rfl rfl dX0_comeWith_62 ?_
            refine v_icmp_ge (tgt := 75) ok (by decide) (by decide) dX0_comeWith_65 (by decide) (fun c97 => absurd c97 (by decide)) (fun c97 => ?_)
            refine v_iload_n ok 1 dX0_comeWith_68 rfl rfl ?_
            refine v_bipush (n := 10) ok rfl dX0_comeWith_69 ?_
            refine v_irem ok (by omega) (by omega) dX0_comeWith_71 ?_
            refine v_goto (tgt := 76) ok dX0_comeWith_72 (by decide) ?_
            refine v_iast (n := 5) (f0 := up (M (b + 1)) 4 (v % 10)) ok (kd_c0_1 hb) (ln_c0_1 hb) (by omega) (by rw [up1_same]) dX0_comeWith_76 ?_
            rw [up1_up1]
            refine v_iload_n ok 0 dX0_comeWith_77 rfl rfl ?_
            refine v_aload_n ok 2 dX0_comeWith_78 rfl rfl ?_
            refine v_get (T := TX0) (N := 4) (f0 := up (M b) 1 5) (v := iv 5) ok mi_X0_comeWith_0 (kd_lt hb (by decide)) rfl (by rw [up1_ne (kd_ne hb (kd_c0_1 hb) (by decide)), up1_same]) (cellF_0 _ hb) 1 (by decide) mk_X0_comeWith_15 rfl rfl dX0_comeWith_79 ?_
            refine v_icmp_ge (tgt := 92) ok (by decide) (by decide) dX0_comeWith_82 (by decide) (fun c98 => absurd c98 (by decide)) (fun c98 => ?_)
            refine v_iload_n ok 1 dX0_comeWith_85 rfl rfl ?_
            refine v_bipush (n := 10) ok rfl dX0_comeWith_86 ?_
            refine v_idiv ok (by omega) (by omega) dX0_comeWith_88 ?_
            refine v_goto (tgt := 93) ok dX0_comeWith_89 (by decide) ?_
            refine v_istore_n ok [(2, iv ((v / 10) / 10)), (3, iv 3), (0, rf g b), (1, iv v)] dX0_comeWith_93 rfl (by decide) rfl ?_
            refine v_iinc ok 1 [(3, iv 2), (2, iv ((v / 10) / 10)), (0, rf g b), (1, iv v)] dX0_comeWith_94 rfl (by decide) rfl ?_
            refine v_goto (tgt := 51) ok dX0_comeWith_97 (by decide) ?_
            refine v_iload_n ok 0 dX0_comeWith_51 rfl rfl ?_
            refine v_if_lt (tgt := 100) ok (by decide) dX0_comeWith_52 (by decide) (fun c99 => absurd c99 (by decide)) (fun c99 => ?_)
            refine v_aload_n ok 2 dX0_comeWith_55 rfl rfl ?_
            refine v_get (T := TX0) (N := 4) (f0 := up (M b) 1 5) (v := rf g (b + 1)) ok mi_X0_comeWith_0 (kd_lt hb (by decide)) rfl (by rw [up1_ne (kd_ne hb (kd_c0_1 hb) (by decide)), up1_same]) (cellF_0 _ hb) 0 (by decide) mk_X0_comeWith_9 rfl rfl dX0_comeWith_56 ?_
            refine v_iload_n ok 0 dX0_comeWith_59 rfl rfl ?_
            refine v_iload_n ok 0 dX0_comeWith_60 rfl rfl ?_
            refine v_aload_n ok 2 dX0_comeWith_61 rfl rfl ?_
            refine v_get (T := TX0) (N := 4) (f0 := up (M b) 1 5) (v := iv 5) ok mi_X0_comeWith_0 (kd_lt hb (by decide)) rfl (by rw [up1_ne (kd_ne hb (kd_c0_1 hb) (by decide)), up1_same]) (cellF_0 _ hb) 1 (by decide) mk_X0_comeWith_15 rfl rfl dX0_comeWith_62 ?_
            refine v_icmp_ge (tgt := 75) ok (by decide) (by decide) dX0_comeWith_65 (by decide) (fun c100 => absurd c100 (by decide)) (fun c100 => ?_)
            refine v_iload_n ok 1 dX0_comeWith_68 rfl rfl ?_
            refine v_bipush (n := 10) ok rfl dX0_comeWith_69 ?_
            refine v_irem ok (by omega) (by omega) dX0_comeWith_71 ?_
            refine v_goto (tgt := 76) ok dX0_comeWith_72 (by decide) ?_
            refine v_iast (n := 5) (f0 := up (up (M (b + 1)) 4 (v % 10)) 3 ((v / 10) % 10)) ok (kd_c0_1 hb) (ln_c0_1 hb) (by omega) (by rw [up1_same]) dX0_comeWith_76 ?_
            rw [up1_up1]
            refine v_iload_n ok 0 dX0_comeWith_77 rfl rfl ?_
            refine v_aload_n ok 2 dX0_comeWith_78 rfl rfl ?_
            refine v_get (T := TX0) (N := 4) (f0 := up (M b) 1 5) (v := iv 5) ok mi_X0_comeWith_0 (kd_lt hb (by decide)) rfl (by rw [up1_ne (kd_ne hb (kd_c0_1 hb) (by decide)), up1_same]) (cellF_0 _ hb) 1 (by decide) mk_X0_comeWith_15 rfl rfl dX0_comeWith_79 ?_
            refine v_icmp_ge (tgt := 92) ok (by decide) (by decide) dX0_comeWith_82 (by decide) (fun c101 => absurd c101 (by decide)) (fun c101 => ?_)
            refine v_iload_n ok 1 dX0_comeWith_85 rfl rfl ?_
            refine v_bipush (n := 10) ok rfl dX0_comeWith_86 ?_
            refine v_idiv ok (by omega) (by omega) dX0_comeWith_88 ?_
            refine v_goto (tgt := 93) ok dX0_comeWith_89 (by decide) ?_
            refine v_istore_n ok [(2, iv (((v / 10) / 10) / 10)), (3, iv 2), (0, rf g b), (1, iv v)] dX0_comeWith_93 rfl (by decide) rfl ?_
            refine v_iinc ok 1 [(3, iv 1), (2, iv (((v / 10) / 10) / 10)), (0, rf g b), (1, iv v)] dX0_comeWith_94 rfl (by decide) rfl ?_
            refine v_goto (tgt := 51) ok dX0_comeWith_97 (by decide) ?_
            refine v_iload_n ok 0 dX0_comeWith_51 rfl rfl ?_
            refine v_if_lt (tgt := 100) ok (by decide) dX0_comeWith_52 (by decide) (fun c102 => absurd c102 (by decide)) (fun c102 => ?_)
            refine v_aload_n ok 2 dX0_comeWith_55 rfl rfl ?_
            refine v_get (T := TX0) (N := 4) (f0 := up (M b) 1 5) (v := rf g (b + 1)) ok mi_X0_comeWith_0 (kd_lt hb (by decide)) rfl (by rw [up1_ne (kd_ne hb (kd_c0_1 hb) (by decide)), up1_same]) (cellF_0 _ hb) 0 (by decide) mk_X0_comeWith_9 rfl rfl dX0_comeWith_56 ?_
            refine v_iload_n ok 0 dX0_comeWith_59 rfl rfl ?_
            refine v_iload_n ok 0 dX0_comeWith_60 rfl rfl ?_
            refine v_aload_n ok 2 dX0_comeWith_61 rfl rfl ?_
            refine v_get (T := TX0) (N := 4) (f0 := up (M b) 1 5) (v := iv 5) ok mi_X0_comeWith_0 (kd_lt hb (by decide)) rfl (by rw [up1_ne (kd_ne hb (kd_c0_1 hb) (by decide)), up1_same]) (cellF_0 _ hb) 1 (by decide) mk_X0_comeWith_15 rfl rfl dX0_comeWith_62 ?_
            refine v_icmp_ge (tgt := 75) ok (by decide) (by decide) dX0_comeWith_65 (by decide) (fun c103 => absurd c103 (by decide)) (fun c103 => ?_)
            refine v_iload_n ok 1 dX0_comeWith_68 rfl rfl ?_
            refine v_bipush (n := 10) ok rfl dX0_comeWith_69 ?_
            refine v_irem ok (by omega) (by omega) dX0_comeWith_71 ?_
            refine v_goto (tgt := 76) ok dX0_comeWith_72 (by decide) ?_
            refine v_iast (n := 5) (f0 := up (up (up (M (b + 1)) 4 (v % 10)) 3 ((v / 10) % 10)) 2 (((v / 10) / 10) % 10)) ok (kd_c0_1 hb) (ln_c0_1 hb) (by omega) (by rw [up1_same]) dX0_comeWith_76 ?_
            rw [up1_up1]
            refine v_iload_n ok 0 dX0_comeWith_77 rfl rfl ?_
            refine v_aload_n ok 2 dX0_comeWith_78 rfl rfl ?_
            refine v_get (T := TX0) (N := 4) (f0 := up (M b) 1 5) (v := iv 5) ok mi_X0_comeWith_0 (kd_lt hb (by decide)) rfl (by rw [up1_ne (kd_ne hb (kd_c0_1 hb) (by decide)), up1_same]) (cellF_0 _ hb) 1 (by decide) mk_X0_comeWith_15 rfl rfl dX0_comeWith_79 ?_
            refine v_icmp_ge (tgt := 92) ok (by decide) (by decide) dX0_comeWith_82 (by decide) (fun c104 => absurd c104 (by decide)) (fun c104 => ?_)
            refine v_iload_n ok 1 dX0_comeWith_85 rfl rfl ?_
            refine v_bipush (n := 10) ok rfl dX0_comeWith_86 ?_
            refine v_idiv ok (by omega) (by omega) dX0_comeWith_88 ?_
            refine v_goto (tgt := 93) ok dX0_comeWith_89 (by decide) ?_
            refine v_istore_n ok [(2, iv ((((v / 10) / 10) / 10) / 10)), (3, iv 1), (0, rf g b), (1, iv v)] dX0_comeWith_93 rfl (by decide) rfl ?_
            refine v_iinc ok 1 [(3, iv 0), (2, iv ((((v / 10) / 10) / 10) / 10)), (0, rf g b), (1, iv v)] dX0_comeWith_94 rfl (by decide) rfl ?_
            refine v_goto (tgt := 51) ok dX0_comeWith_97 (by decide) ?_
            refine v_iload_n ok 0 dX0_comeWith_51 rfl rfl ?_
            refine v_if_lt (tgt := 100) ok (by decide) dX0_comeWith_52 (by decide) (fun c105 => absurd c105 (by decide)) (fun c105 => ?_)
            refine v_aload_n ok 2 dX0_comeWith_55 rfl rfl ?_
            refine v_get (T := TX0) (N := 4) (f0 := up (M b) 1 5) (v := rf g (b + 1)) ok mi_X0_comeWith_0 (kd_lt hb (by decide)) rfl (by rw [up1_ne (kd_ne hb (kd_c0_1 hb) (by decide)), up1_same]) (cellF_0 _ hb) 0 (by decide) mk_X0_comeWith_9 rfl rfl dX0_comeWith_56 ?_
            refine v_iload_n ok 0 dX0_comeWith_59 rfl rfl ?_
            refine v_iload_n ok 0 dX0_comeWith_60 rfl rfl ?_
            refine v_aload_n ok 2 dX0_comeWith_61 rfl rfl ?_
            refine v_get (T := TX0) (N := 4) (f0 := up (M b) 1 5) (v := iv 5) ok mi_X0_comeWith_0 (kd_lt hb (by decide)) rfl (by rw [up1_ne (kd_ne hb (kd_c0_1 hb) (by decide)), up1_same]) (cellF_0 _ hb) 1 (by decide) mk_X0_comeWith_15 rfl rfl dX0_comeWith_62 ?_
            refine v_icmp_ge (tgt := 75) ok (by decide) (by decide) dX0_comeWith_65 (by decide) (fun c106 => absurd c106 (by decide)) (fun c106 => ?_)
            refine v_iload_n ok 1 dX0_comeWith_68 rfl rfl ?_
            refine v_bipush (n := 10) ok rfl dX0_comeWith_69 ?_
            refine v_irem ok (by omega) (by omega) dX0_comeWith_71 ?_
            refine v_goto (tgt := 76) ok dX0_comeWith_72 (by decide) ?_
            refine v_iast (n := 5) (f0 := up (up (up (up (M (b + 1)) 4 (v % 10)) 3 ((v / 10) % 10)) 2 (((v / 10) / 10) % 10)) 1 ((((v / 10) / 10) / 10) % 10)) ok (kd_c0_1 hb) (ln_c0_1 hb) (by omega) (by rw [up1_same]) dX0_comeWith_76 ?_
            rw [up1_up1]
            refine v_iload_n ok 0 dX0_comeWith_77 rfl rfl ?_
            refine v_aload_n ok 2 dX0_comeWith_78 rfl rfl ?_
            refine v_get (T := TX0) (N := 4) (f0 := up (M b) 1 5) (v := iv 5) ok mi_X0_comeWith_0 (kd_lt hb (by decide)) rfl (by rw [up1_ne (kd_ne hb (kd_c0_1 hb) (by decide)), up1_same]) (cellF_0 _ hb) 1 (by decide) mk_X0_comeWith_15 rfl rfl dX0_comeWith_79 ?_
            refine v_icmp_ge (tgt := 92) ok (by decide) (by decide) dX0_comeWith_82 (by decide) (fun c107 => absurd c107 (by decide)) (fun c107 => ?_)
            refine v_iload_n ok 1 dX0_comeWith_85 rfl rfl ?_
            refine v_bipush (n := 10) ok rfl dX0_comeWith_86 ?_
            refine v_idiv ok (by omega) (by omega) dX0_comeWith_88 ?_
            refine v_goto (tgt := 93) ok dX0_comeWith_89 (by decide) ?_
            refine v_istore_n ok [(2, iv (((((v / 10) / 10) / 10) / 10) / 10)), (3, iv 0), (0, rf g b), (1, iv v)] dX0_comeWith_93 rfl (by decide) rfl ?_
            refine v_iinc ok 1 [(3, iv (-1)), (2, iv (((((v / 10) / 10) / 10) / 10) / 10)), (0, rf g b), (1, iv v)] dX0_comeWith_94 rfl (by decide) rfl ?_
            refine v_goto (tgt := 51) ok dX0_comeWith_97 (by decide) ?_
            refine v_iload_n ok 0 dX0_comeWith_51 rfl rfl ?_
            refine v_if_lt (tgt := 100) ok (by decide) dX0_comeWith_52 (by decide) (fun c108 => ?_) (fun c108 => absurd c108 (by decide))
            refine v_aload_n ok 2 dX0_comeWith_100 rfl rfl ?_
            refine v_iconst (n := 0) ok dX0_comeWith_101 ?_
            refine v_put (T := TX0) (N := 4) (f0 := up (M b) 1 5) (f' := up (up (M b) 1 5) 2 0) (ty := .int) ok mi_X0_comeWith_0 (kd_lt hb (by decide)) rfl (by rw [up1_ne (kd_ne hb (kd_c0_1 hb) (by decide)), up1_same]) (cellF_0 _ hb) tyX0 tyX0_ok nmX0 2 (by decide) mk_X0_comeWith_19 rfl rfl (by decide +kernel) rfl rfl (Nat.le_of_ble_eq_true rfl) ((cellF_0 _ hb).trans rfl) dX0_comeWith_102 ?_
            rw [show (up1 (up1 (up1 M b (up (M b) 1 5)) (b + 1) (up (up (up (up (up (M (b + 1)) 4 (v % 10)) 3 ((v / 10) % 10)) 2 (((v / 10) / 10) % 10)) 1 ((((v / 10) / 10) / 10) % 10)) 0 (((((v / 10) / 10) / 10) / 10) % 10))) b (up (up (M b) 1 5) 2 0) : Mem) = (up1 (up1 M b (up (up (M b) 1 5) 2 0)) (b + 1) (up (up (up (up (up (M (b + 1)) 4 (v % 10)) 3 ((v / 10) % 10)) 2 (((v / 10) / 10) % 10)) 1 ((((v / 10) / 10) / 10) % 10)) 0 (((((v / 10) / 10) / 10) / 10) % 10))) from (by
                  funext j
                  by_cases hj0 : j = b
                  · simp_all [up1, up1_self]
                  by_cases hj1 : j = (b + 1)
                  · simp_all [up1, up1_self]
                  simp [up1, hj0, hj1])]
            refine v_aload_n ok 2 dX0_comeWith_105 rfl rfl ?_
            refine v_iconst (n := 0) ok dX0_comeWith_106 ?_
            refine v_put (T := TX0) (N := 4) (f0 := up (up (M b) 1 5) 2 0) (f' := up (up (up (M b) 1 5) 2 0) 3 0) (ty := .int) ok mi_X0_comeWith_0 (kd_lt hb (by decide)) rfl (by rw [up1_ne (kd_ne hb (kd_c0_1 hb) (by decide)), up1_same]) (cellF_0 _ hb) tyX0 tyX0_ok nmX0 3 (by decide) mk_X0_comeWith_22 rfl rfl (by decide +kernel) rfl rfl (Nat.le_of_ble_eq_true rfl) ((cellF_0 _ hb).trans rfl) dX0_comeWith_107 ?_
            rw [show (up1 (up1 (up1 M b (up (up (M b) 1 5) 2 0)) (b + 1) (up (up (up (up (up (M (b + 1)) 4 (v % 10)) 3 ((v / 10) % 10)) 2 (((v / 10) / 10) % 10)) 1 ((((v / 10) / 10) / 10) % 10)) 0 (((((v / 10) / 10) / 10) / 10) % 10))) b (up (up (up (M b) 1 5) 2 0) 3 0) : Mem) = (up1 (up1 M b (up (up (up (M b) 1 5) 2 0) 3 0)) (b + 1) (up (up (up (up (up (M (b + 1)) 4 (v % 10)) 3 ((v / 10) % 10)) 2 (((v / 10) / 10) % 10)) 1 ((((v / 10) / 10) / 10) % 10)) 0 (((((v / 10) / 10) / 10) / 10) % 10))) from (by
                  funext j
                  by_cases hj0 : j = b
                  · simp_all [up1, up1_self]
                  by_cases hj1 : j = (b + 1)
                  · simp_all [up1, up1_self]
                  simp [up1, hj0, hj1])]
            have hd : dgn v = 5 := by unfold dgn; (repeat' split) <;> omega
            refine v_cong (n := 5) (dgt v (dgn v)) (Or.inl (kd_c0_1 hb)) (ln_c0_1 hb) (fun k k0 k1 => by
                rw [hd]
                have e : k = 0 ∨ k = 1 ∨ k = 2 ∨ k = 3 ∨ k = 4 := by omega
                rcases e with rfl | rfl | rfl | rfl | rfl <;> simp [up, dgt, p10] <;> omega) ?_
            exact v_vret ok rt dX0_comeWith_110 (⟨rfl, (by rw [hd])⟩)

theorem mk_X4_become_9 : Cond.fieldLink RX4 9 "StormRunoff$Rows" "first" "[I" ∈ wsX4_become := by decide +kernel
theorem mi_X4_become_4 : ∀ w ∈ wsX40, w ∈ wsX4_become := by decide +kernel
theorem ms_X4_become_X9_copyNumbers : Cond.static yX9_copyNumbers ∈ wsX4_become := by decide +kernel
theorem mn_X4_become_X9_copyNumbers : Cond.initialized yX9_copyNumbers.cls ∈ wsX4_become := by decide +kernel
theorem mq_X4_become_X9_copyNumbers : (RX4, 25, yX9_copyNumbers) ∈ nestW := by decide +kernel
theorem mk_X4_become_15 : Cond.fieldLink RX4 15 "StormRunoff$Rows" "second" "[I" ∈ wsX4_become := by decide +kernel
theorem mk_X4_become_18 : Cond.fieldLink RX4 18 "StormRunoff$Rows" "many" "I" ∈ wsX4_become := by decide +kernel
set_option maxRecDepth 100000 in
set_option maxHeartbeats 400000 in
theorem ct_X4_become (l : Launch) (g : Gl) (M : Mem) (r o : Nat) (hr : kd r = 4) (ho : kd o = 4) (hro : r ≠ o) (h11 : (o + 1) ≠ (r + 1)) (h21 : (o + 2) ≠ (r + 1)) (h22 : (o + 2) ≠ (r + 2)) : Ct l g yX4_become wsX4_become 1 22 [rf g r, rf g o] M (fun rv M' => rv = none ∧ M' = (up1 (up1 (up1 M (r + 1) (M (o + 1))) (r + 2) (M (o + 2))) r (up (M r) 3 (M o 3)))) := by
  refine Ct.of (cc := cX4_become) (nL := 2) (ret := none) (by decide) rfl (Nat.le_of_ble_eq_true rfl) (fun z hz ok rt => ?_)
  have ok : Ok z g cX4_become 2 RX4 wsX4_become 1 22 := ok
  show V z g 2 M [(0, rf g r), (1, rf g o)] [] 0
  refine v_aload_n ok 1 dX4_become_0 rfl rfl ?_
  refine v_get (T := TX4) (N := 4) (f0 := (M o)) (v := rf g (o + 1)) ok mi_X4_become_4 (kd_lt ho (by decide)) rfl rfl (cellF_4 _ ho) 0 (by decide) mk_X4_become_9 rfl rfl dX4_become_1 ?_
  refine v_aload_n ok 0 dX4_become_4 rfl rfl ?_
  refine v_get (T := TX4) (N := 4) (f0 := (M r)) (v := rf g (r + 1)) ok mi_X4_become_4 (kd_lt hr (by decide)) rfl rfl (cellF_4 _ hr) 0 (by decide) mk_X4_become_9 rfl rfl dX4_become_5 ?_
  refine v_callN (na := 2) ok (ct_X9_copyNumbers z.2.1 g M (o + 1) (r + 1) 8 (kd_c4_1 ho) (kd_c4_1 hr) (ln_c4_1 ho) (ln_c4_1 hr) h11) gX4_become_X9_copyNumbers_n25 mq_X4_become_X9_copyNumbers ms_X4_become_X9_copyNumbers mn_X4_become_X9_copyNumbers rfl (by decide +kernel) rfl (by decide) [] rfl (Nat.le_of_ble_eq_true rfl) dX4_become_8 (fun v2 M3 hp1 => ?_)
  obtain ⟨rfl, rfl⟩ := hp1
  show V z g 2 (up1 M (r + 1) ((M (o + 1)))) [(0, rf g r), (1, rf g o)] [] 11
  refine v_aload_n ok 1 dX4_become_11 rfl rfl ?_
  refine v_get (T := TX4) (N := 4) (f0 := (M o)) (v := rf g (o + 2)) ok mi_X4_become_4 (kd_lt ho (by decide)) rfl (by rw [up1_ne (kd_ne ho (kd_c4_1 hr) (by decide))]) (cellF_4 _ ho) 1 (by decide) mk_X4_become_15 rfl rfl dX4_become_12 ?_
  refine v_aload_n ok 0 dX4_become_15 rfl rfl ?_
  refine v_get (T := TX4) (N := 4) (f0 := (M r)) (v := rf g (r + 2)) ok mi_X4_become_4 (kd_lt hr (by decide)) rfl (by rw [up1_ne (kd_ne hr (kd_c4_1 hr) (by decide))]) (cellF_4 _ hr) 1 (by decide) mk_X4_become_15 rfl rfl dX4_become_16 ?_
  refine v_callN (na := 2) ok (ct_X9_copyNumbers z.2.1 g (up1 M (r + 1) ((M (o + 1)))) (o + 2) (r + 2) 8 (kd_c4_2 ho) (kd_c4_2 hr) (ln_c4_2 ho) (ln_c4_2 hr) h22) gX4_become_X9_copyNumbers_n25 mq_X4_become_X9_copyNumbers ms_X4_become_X9_copyNumbers mn_X4_become_X9_copyNumbers rfl (by decide +kernel) rfl (by decide) [] rfl (Nat.le_of_ble_eq_true rfl) dX4_become_19 (fun v5 M6 hp4 => ?_)
  obtain ⟨rfl, rfl⟩ := hp4
  rw [show ((up1 M (r + 1) ((M (o + 1)))) : Mem) (o + 2) = (M (o + 2)) from (by rw [up1_ne h21])]
  show V z g 2 (up1 (up1 M (r + 1) ((M (o + 1)))) (r + 2) ((M (o + 2)))) [(0, rf g r), (1, rf g o)] [] 22
  refine v_aload_n ok 0 dX4_become_22 rfl rfl ?_
  refine v_aload_n ok 1 dX4_become_23 rfl rfl ?_
  refine v_get (T := TX4) (N := 4) (f0 := (M o)) (v := iv (M o 3)) ok mi_X4_become_4 (kd_lt ho (by decide)) rfl (by rw [up1_ne (kd_ne ho (kd_c4_2 hr) (by decide)), up1_ne (kd_ne ho (kd_c4_1 hr) (by decide))]) (cellF_4 _ ho) 3 (by decide) mk_X4_become_18 rfl rfl dX4_become_24 ?_
  refine v_put (T := TX4) (N := 4) (f0 := (M r)) (f' := up (M r) 3 (M o 3)) (ty := .int) ok mi_X4_become_4 (kd_lt hr (by decide)) rfl (by rw [up1_ne (kd_ne hr (kd_c4_2 hr) (by decide)), up1_ne (kd_ne hr (kd_c4_1 hr) (by decide))]) (cellF_4 _ hr) tyX4 tyX4_ok nmX4 3 (by decide) mk_X4_become_18 rfl rfl (by decide +kernel) rfl rfl (Nat.le_of_ble_eq_true rfl) ((cellF_4 _ hr).trans rfl) dX4_become_27 ?_
  exact v_vret ok rt dX4_become_30 (⟨rfl, rfl⟩)

theorem mk_X4_addRow_18 : Cond.fieldLink RX4 18 "StormRunoff$Rows" "many" "I" ∈ wsX4_addRow := by decide +kernel
theorem mi_X4_addRow_4 : ∀ w ∈ wsX40, w ∈ wsX4_addRow := by decide +kernel
theorem mk_X4_addRow_22 : Cond.fieldLink RX4 22 "StormRunoff$Rows" "limit" "I" ∈ wsX4_addRow := by decide +kernel
theorem mk_X4_addRow_9 : Cond.fieldLink RX4 9 "StormRunoff$Rows" "first" "[I" ∈ wsX4_addRow := by decide +kernel
theorem mk_X4_addRow_15 : Cond.fieldLink RX4 15 "StormRunoff$Rows" "second" "[I" ∈ wsX4_addRow := by decide +kernel
set_option maxRecDepth 100000 in
set_option maxHeartbeats 400000 in
theorem ct_X4_addRow (l : Launch) (g : Gl) (M : Mem) (r : Nat) (x y : Int) (hr : kd r = 4) (hm : 0 ≤ M r 3 ∧ M r 3 ≤ M r 2 ∧ M r 2 ≤ 8) : Ct l g yX4_addRow wsX4_addRow 0 0 [rf g r, iv x, iv y] M (fun rv M' => (rv = some (iv (-4)) ∧ M' = M ∧ (M r 3 = M r 2)) ∨ (rv = some (iv (M r 3 + 1)) ∧ M' = (up1 (up1 (up1 M (r + 1) (up (M (r + 1)) (M r 3) x)) (r + 2) (up (M (r + 2)) (M r 3) y)) r (up (M r) 3 (M r 3 + 1))) ∧ (M r 3 < M r 2))) := by
  refine Ct.of (cc := cX4_addRow) (nL := 3) (ret := (some .int)) (by decide) rfl (Nat.le_of_ble_eq_true rfl) (fun z hz ok rt => ?_)
  have ok : Ok z g cX4_addRow 3 RX4 wsX4_addRow 0 0 := ok
  show V z g 3 M [(0, rf g r), (1, iv x), (2, iv y)] [] 0
  have h12 : r + 1 ≠ r + 2 := by omega
  refine v_aload_n ok 0 dX4_addRow_0 rfl rfl ?_
  refine v_get (T := TX4) (N := 4) (f0 := (M r)) (v := iv (M r 3)) ok mi_X4_addRow_4 (kd_lt hr (by decide)) rfl rfl (cellF_4 _ hr) 3 (by decide) mk_X4_addRow_18 rfl rfl dX4_addRow_1 ?_
  refine v_if_lt (tgt := 42) ok ⟨by omega, by omega⟩ dX4_addRow_4 (by decide) (fun c1 => absurd c1 (by omega)) (fun c1 => ?_)
  refine v_aload_n ok 0 dX4_addRow_7 rfl rfl ?_
  refine v_get (T := TX4) (N := 4) (f0 := (M r)) (v := iv (M r 3)) ok mi_X4_addRow_4 (kd_lt hr (by decide)) rfl rfl (cellF_4 _ hr) 3 (by decide) mk_X4_addRow_18 rfl rfl dX4_addRow_8 ?_
  refine v_aload_n ok 0 dX4_addRow_11 rfl rfl ?_
  refine v_get (T := TX4) (N := 4) (f0 := (M r)) (v := iv (M r 2)) ok mi_X4_addRow_4 (kd_lt hr (by decide)) rfl rfl (cellF_4 _ hr) 2 (by decide) mk_X4_addRow_22 rfl rfl dX4_addRow_12 ?_
  refine v_icmp_ge (tgt := 42) ok ⟨by omega, by omega⟩ ⟨by omega, by omega⟩ dX4_addRow_15 (by decide) (fun c2 => ?_) (fun c2 => ?_)
  · skip
    refine v_bipush (n := -4) ok rfl dX4_addRow_42 ?_
    exact v_iret ok rt dX4_addRow_44 (Or.inl (⟨rfl, rfl, (by omega)⟩))
  · skip
    refine v_aload_n ok 0 dX4_addRow_18 rfl rfl ?_
    refine v_get (T := TX4) (N := 4) (f0 := (M r)) (v := iv (M r 3)) ok mi_X4_addRow_4 (kd_lt hr (by decide)) rfl rfl (cellF_4 _ hr) 3 (by decide) mk_X4_addRow_18 rfl rfl dX4_addRow_19 ?_
    refine v_aload_n ok 0 dX4_addRow_22 rfl rfl ?_
    refine v_get (T := TX4) (N := 4) (f0 := (M r)) (v := rf g (r + 1)) ok mi_X4_addRow_4 (kd_lt hr (by decide)) rfl rfl (cellF_4 _ hr) 0 (by decide) mk_X4_addRow_9 rfl rfl dX4_addRow_23 ?_
    refine v_alen (n := 8) ok (Or.inl (kd_c4_1 hr)) (ln_c4_1 hr) dX4_addRow_26 ?_
    refine v_icmp_ge (tgt := 42) ok ⟨by omega, by omega⟩ (by decide) dX4_addRow_27 (by decide) (fun c3 => absurd c3 (by omega)) (fun c3 => ?_)
    refine v_aload_n ok 0 dX4_addRow_30 rfl rfl ?_
    refine v_get (T := TX4) (N := 4) (f0 := (M r)) (v := iv (M r 3)) ok mi_X4_addRow_4 (kd_lt hr (by decide)) rfl rfl (cellF_4 _ hr) 3 (by decide) mk_X4_addRow_18 rfl rfl dX4_addRow_31 ?_
    refine v_aload_n ok 0 dX4_addRow_34 rfl rfl ?_
    refine v_get (T := TX4) (N := 4) (f0 := (M r)) (v := rf g (r + 2)) ok mi_X4_addRow_4 (kd_lt hr (by decide)) rfl rfl (cellF_4 _ hr) 1 (by decide) mk_X4_addRow_15 rfl rfl dX4_addRow_35 ?_
    refine v_alen (n := 8) ok (Or.inl (kd_c4_2 hr)) (ln_c4_2 hr) dX4_addRow_38 ?_
    refine v_icmp_lt (tgt := 45) ok ⟨by omega, by omega⟩ (by decide) dX4_addRow_39 (by decide) (fun c4 => ?_) (fun c4 => absurd c4 (by omega))
    refine v_aload_n ok 0 dX4_addRow_45 rfl rfl ?_
    refine v_get (T := TX4) (N := 4) (f0 := (M r)) (v := rf g (r + 1)) ok mi_X4_addRow_4 (kd_lt hr (by decide)) rfl rfl (cellF_4 _ hr) 0 (by decide) mk_X4_addRow_9 rfl rfl dX4_addRow_46 ?_
    refine v_aload_n ok 0 dX4_addRow_49 rfl rfl ?_
    refine v_get (T := TX4) (N := 4) (f0 := (M r)) (v := iv (M r 3)) ok mi_X4_addRow_4 (kd_lt hr (by decide)) rfl rfl (cellF_4 _ hr) 3 (by decide) mk_X4_addRow_18 rfl rfl dX4_addRow_50 ?_
    refine v_iload_n ok 1 dX4_addRow_53 rfl rfl ?_
    refine v_iast (n := 8) (f0 := (M (r + 1))) ok (kd_c4_1 hr) (ln_c4_1 hr) (by omega) rfl dX4_addRow_54 ?_
    refine v_aload_n ok 0 dX4_addRow_55 rfl rfl ?_
    refine v_get (T := TX4) (N := 4) (f0 := (M r)) (v := rf g (r + 2)) ok mi_X4_addRow_4 (kd_lt hr (by decide)) rfl (by rw [up1_ne (kd_ne hr (kd_c4_1 hr) (by decide))]) (cellF_4 _ hr) 1 (by decide) mk_X4_addRow_15 rfl rfl dX4_addRow_56 ?_
    refine v_aload_n ok 0 dX4_addRow_59 rfl rfl ?_
    refine v_get (T := TX4) (N := 4) (f0 := (M r)) (v := iv (M r 3)) ok mi_X4_addRow_4 (kd_lt hr (by decide)) rfl (by rw [up1_ne (kd_ne hr (kd_c4_1 hr) (by decide))]) (cellF_4 _ hr) 3 (by decide) mk_X4_addRow_18 rfl rfl dX4_addRow_60 ?_
    refine v_iload_n ok 2 dX4_addRow_63 rfl rfl ?_
    refine v_iast (n := 8) (f0 := (M (r + 2))) ok (kd_c4_2 hr) (ln_c4_2 hr) (by omega) (by rw [up1_ne (Ne.symm h12)]) dX4_addRow_64 ?_
    refine v_aload_n ok 0 dX4_addRow_65 rfl rfl ?_
    refine v_dup ok rfl dX4_addRow_66 ?_
    refine v_get (T := TX4) (N := 4) (f0 := (M r)) (v := iv (M r 3)) ok mi_X4_addRow_4 (kd_lt hr (by decide)) rfl (by rw [up1_ne (kd_ne hr (kd_c4_2 hr) (by decide)), up1_ne (kd_ne hr (kd_c4_1 hr) (by decide))]) (cellF_4 _ hr) 3 (by decide) mk_X4_addRow_18 rfl rfl dX4_addRow_67 ?_
    refine v_iconst (n := 1) ok dX4_addRow_70 ?_
    refine v_iadd ok dX4_addRow_71 ?_
    refine v_put (T := TX4) (N := 4) (f0 := (M r)) (f' := up (M r) 3 ((M r 3) + 1)) (ty := .int) ok mi_X4_addRow_4 (kd_lt hr (by decide)) rfl (by rw [up1_ne (kd_ne hr (kd_c4_2 hr) (by decide)), up1_ne (kd_ne hr (kd_c4_1 hr) (by decide))]) (cellF_4 _ hr) tyX4 tyX4_ok nmX4 3 (by decide) mk_X4_addRow_18 rfl rfl (by decide +kernel) rfl rfl (Nat.le_of_ble_eq_true rfl) ((cellF_4 _ hr).trans rfl) dX4_addRow_72 ?_
    refine v_aload_n ok 0 dX4_addRow_75 rfl rfl ?_
    refine v_get (T := TX4) (N := 4) (f0 := up (M r) 3 ((M r 3) + 1)) (v := iv ((M r 3) + 1)) ok mi_X4_addRow_4 (kd_lt hr (by decide)) rfl (by rw [up1_same]) (cellF_4 _ hr) 3 (by decide) mk_X4_addRow_18 rfl rfl dX4_addRow_76 ?_
    exact v_iret ok rt dX4_addRow_79 (Or.inr (⟨(congrArg (fun q : Int => some (iv q)) (show ((M r 3) + 1) = (M r 3 + 1) from by rfl)), (by
          funext j
          by_cases hj0 : j = (r + 1)
          · simp_all [up1, up1_self]
          by_cases hj1 : j = (r + 2)
          · simp_all [up1, up1_self]
          by_cases hj2 : j = r
          · simp_all [up1, up1_self]
          simp [up1, hj0, hj1, hj2]), (by omega)⟩))

theorem mk_X4_firstOtherwise_18 : Cond.fieldLink RX4 18 "StormRunoff$Rows" "many" "I" ∈ wsX4_firstOtherwise := by decide +kernel
theorem mi_X4_firstOtherwise_4 : ∀ w ∈ wsX40, w ∈ wsX4_firstOtherwise := by decide +kernel
theorem mk_X4_firstOtherwise_9 : Cond.fieldLink RX4 9 "StormRunoff$Rows" "first" "[I" ∈ wsX4_firstOtherwise := by decide +kernel
theorem mk_X4_firstOtherwise_15 : Cond.fieldLink RX4 15 "StormRunoff$Rows" "second" "[I" ∈ wsX4_firstOtherwise := by decide +kernel
theorem ms_X4_firstOtherwise_X9_between : Cond.static yX9_between ∈ wsX4_firstOtherwise := by decide +kernel
theorem mn_X4_firstOtherwise_X9_between : Cond.initialized yX9_between.cls ∈ wsX4_firstOtherwise := by decide +kernel
theorem mq_X4_firstOtherwise_X9_between : (RX4, 29, yX9_between) ∈ nestW := by decide +kernel
set_option maxRecDepth 100000 in
set_option maxHeartbeats 400000 in
theorem ct_X4_firstOtherwise (l : Launch) (g : Gl) (M : Mem) (r : Nat) (hr : kd r = 4) (hm : 0 ≤ M r 3 ∧ M r 3 ≤ 8) (hF : bdf (M (r + 1)) (M r 3) 0 29) (hS : bdf (M (r + 2)) (M r 3) 0 9999) (hJ : bdf (M 53) 30 0 129600) : Ct l g yX4_firstOtherwise wsX4_firstOtherwise 1 22 [rf g r, rf g 53] M (fun rv M' => rv = some (iv (fot (M (r + 1)) (M (r + 2)) (M 53) (M r 3).toNat 0)) ∧ M' = M) := by
  refine Ct.of (cc := cX4_firstOtherwise) (nL := 4) (ret := (some .int)) (by decide) rfl (Nat.le_of_ble_eq_true rfl) (fun z hz ok rt => ?_)
  have ok : Ok z g cX4_firstOtherwise 4 RX4 wsX4_firstOtherwise 1 22 := ok
  show V z g 4 M [(0, rf g r), (1, rf g 53)] [] 0
  refine v_iconst (n := 0) ok dX4_firstOtherwise_0 ?_
  refine v_istore_n ok [(2, iv 0), (0, rf g r), (1, rf g 53)] dX4_firstOtherwise_1 rfl (by decide) rfl ?_
  have lp2 : ∀ (fu : Nat) (k w : Int), (0 ≤ k ∧ k ≤ M r 3) → (fot (M (r + 1)) (M (r + 2)) (M 53) (M r 3).toNat 0 = fot (M (r + 1)) (M (r + 2)) (M 53) (M r 3 - k).toNat k) → (M r 3 - k).toNat < fu → V z g 4 M [(0, rf g r), (1, rf g 53), (2, iv k)] [] 2 := by
    intro fu
    induction fu with
    | zero => intro k w _ _ hm; exact absurd hm (Nat.not_lt_zero _)
    | succ fu ih2 =>
      intro k w i2_0 i2_1 hm2
      refine v_iload_n ok 2 dX4_firstOtherwise_2 rfl rfl ?_
      refine v_aload_n ok 0 dX4_firstOtherwise_3 rfl rfl ?_
      refine v_get (T := TX4) (N := 4) (f0 := (M r)) (v := iv (M r 3)) ok mi_X4_firstOtherwise_4 (kd_lt hr (by decide)) rfl rfl (cellF_4 _ hr) 3 (by decide) mk_X4_firstOtherwise_18 rfl rfl dX4_firstOtherwise_4 ?_
      refine v_icmp_ge (tgt := 67) ok ⟨by omega, by omega⟩ ⟨by omega, by omega⟩ dX4_firstOtherwise_7 (by decide) (fun c1 => ?_) (fun c1 => ?_)
      · skip
        refine v_bipush (n := -5) ok rfl dX4_firstOtherwise_67 ?_
        exact v_iret ok rt dX4_firstOtherwise_69 (⟨(congrArg (fun q : Int => some (iv q)) (show (-5) = (fot (M (r + 1)) (M (r + 2)) (M 53) (M r 3).toNat 0) from by (rw [i2_1, show (M r 3 - k).toNat = 0 by omega]; rfl))), rfl⟩)
      · skip
        refine v_iload_n ok 2 dX4_firstOtherwise_10 rfl rfl ?_
        refine v_aload_n ok 0 dX4_firstOtherwise_11 rfl rfl ?_
        refine v_get (T := TX4) (N := 4) (f0 := (M r)) (v := rf g (r + 1)) ok mi_X4_firstOtherwise_4 (kd_lt hr (by decide)) rfl rfl (cellF_4 _ hr) 0 (by decide) mk_X4_firstOtherwise_9 rfl rfl dX4_firstOtherwise_12 ?_
        refine v_alen (n := 8) ok (Or.inl (kd_c4_1 hr)) (ln_c4_1 hr) dX4_firstOtherwise_15 ?_
        refine v_icmp_ge (tgt := 67) ok ⟨by omega, by omega⟩ (by decide) dX4_firstOtherwise_16 (by decide) (fun c2 => absurd c2 (by omega)) (fun c2 => ?_)
        refine v_iload_n ok 2 dX4_firstOtherwise_19 rfl rfl ?_
        refine v_aload_n ok 0 dX4_firstOtherwise_20 rfl rfl ?_
        refine v_get (T := TX4) (N := 4) (f0 := (M r)) (v := rf g (r + 2)) ok mi_X4_firstOtherwise_4 (kd_lt hr (by decide)) rfl rfl (cellF_4 _ hr) 1 (by decide) mk_X4_firstOtherwise_15 rfl rfl dX4_firstOtherwise_21 ?_
        refine v_alen (n := 8) ok (Or.inl (kd_c4_2 hr)) (ln_c4_2 hr) dX4_firstOtherwise_24 ?_
        refine v_icmp_ge (tgt := 67) ok ⟨by omega, by omega⟩ (by decide) dX4_firstOtherwise_25 (by decide) (fun c3 => absurd c3 (by omega)) (fun c3 => ?_)
        refine v_aload_n ok 0 dX4_firstOtherwise_28 rfl rfl ?_
        refine v_get (T := TX4) (N := 4) (f0 := (M r)) (v := rf g (r + 1)) ok mi_X4_firstOtherwise_4 (kd_lt hr (by decide)) rfl rfl (cellF_4 _ hr) 0 (by decide) mk_X4_firstOtherwise_9 rfl rfl dX4_firstOtherwise_29 ?_
        refine v_iload_n ok 2 dX4_firstOtherwise_32 rfl rfl ?_
        refine v_iald (n := 8) (f0 := (M (r + 1))) ok (kd_c4_1 hr) (ln_c4_1 hr) (by omega) rfl dX4_firstOtherwise_33 ?_
        have b4 := hF k (by omega) (by omega)
        refine v_istore_n ok [(3, iv (M (r + 1) k)), (0, rf g r), (1, rf g 53), (2, iv k)] dX4_firstOtherwise_34 rfl (by decide) rfl ?_
        refine v_iload_n ok 0 dX4_firstOtherwise_35 rfl rfl ?_
        refine v_iconst (n := 0) ok dX4_firstOtherwise_36 ?_
        refine v_aload_n ok 2 dX4_firstOtherwise_37 rfl rfl ?_
        refine v_alen (n := 30) ok (Or.inl (by decide)) rfl dX4_firstOtherwise_38 ?_
        refine v_iconst (n := 1) ok dX4_firstOtherwise_39 ?_
        refine v_isub ok dX4_firstOtherwise_40 ?_
        show V z g 4 M [(3, iv (M (r + 1) k)), (0, rf g r), (1, rf g 53), (2, iv k)] [iv 29, iv 0, iv (M (r + 1) k)] 41
        refine v_callN (na := 3) ok (ct_X9_between z.2.1 g M (M (r + 1) k) 0 29 ⟨by omega, by omega⟩ (by decide) (by decide)) gX4_firstOtherwise_X9_between_n29 mq_X4_firstOtherwise_X9_between ms_X4_firstOtherwise_X9_between mn_X4_firstOtherwise_X9_between rfl (by decide +kernel) rfl (by decide) [] rfl (Nat.le_of_ble_eq_true rfl) dX4_firstOtherwise_41 (fun v6 M7 hp5 => ?_)
        rcases hp5 with ⟨rfl, eM7, h8⟩ | ⟨rfl, eM7, h9⟩
        · skip
          subst M7
          show V z g 4 M [(3, iv (M (r + 1) k)), (0, rf g r), (1, rf g 53), (2, iv k)] [iv 1] 44
          refine v_if_eq (tgt := 59) ok (by decide) dX4_firstOtherwise_44 (by decide) (fun c10 => absurd c10 (by decide)) (fun c10 => ?_)
          refine v_aload_n ok 2 dX4_firstOtherwise_47 rfl rfl ?_
          refine v_iload_n ok 0 dX4_firstOtherwise_48 rfl rfl ?_
          refine v_iald (n := 30) (f0 := (M 53)) ok (by decide) rfl (by omega) rfl dX4_firstOtherwise_49 ?_
          have b11 := hJ (M (r + 1) k) (by omega) (by omega)
          refine v_aload_n ok 1 dX4_firstOtherwise_50 rfl rfl ?_
          refine v_get (T := TX4) (N := 4) (f0 := (M r)) (v := rf g (r + 2)) ok mi_X4_firstOtherwise_4 (kd_lt hr (by decide)) rfl rfl (cellF_4 _ hr) 1 (by decide) mk_X4_firstOtherwise_15 rfl rfl dX4_firstOtherwise_51 ?_
          refine v_iload_n ok 3 dX4_firstOtherwise_54 rfl rfl ?_
          refine v_iald (n := 8) (f0 := (M (r + 2))) ok (kd_c4_2 hr) (ln_c4_2 hr) (by omega) rfl dX4_firstOtherwise_55 ?_
          have b12 := hS k (by omega) (by omega)
          refine v_icmp_eq (tgt := 61) ok ⟨by omega, by omega⟩ ⟨by omega, by omega⟩ dX4_firstOtherwise_56 (by decide) (fun c13 => ?_) (fun c13 => ?_)
          · skip
            refine v_iinc ok 3 [(2, iv (k + 1)), (3, iv (M (r + 1) k)), (0, rf g r), (1, rf g 53)] dX4_firstOtherwise_61 rfl (by decide) rfl ?_
            refine v_goto (tgt := 2) ok dX4_firstOtherwise_64 (by decide) ?_
            refine v_lv (ls' := [(0, rf g r), (1, rf g 53), (2, iv (k + 1))]) ok [2, 3, 0] rfl ?_
            exact ih2 (k + 1) 0 (by omega) (by rw [i2_1, nat_s (show k < M r 3 by omega), fot_f (by omega)]) (by omega)
          · skip
            refine v_iload_n ok 3 dX4_firstOtherwise_59 rfl rfl ?_
            exact v_iret ok rt dX4_firstOtherwise_60 (⟨(congrArg (fun q : Int => some (iv q)) (show k = (fot (M (r + 1)) (M (r + 2)) (M 53) (M r 3).toNat 0) from by (rw [i2_1, nat_s (show k < M r 3 by omega), fot_t (by omega)]))), rfl⟩)
        · skip
          subst M7
          show V z g 4 M [(3, iv (M (r + 1) k)), (0, rf g r), (1, rf g 53), (2, iv k)] [iv 0] 44
          exfalso; omega
  refine v_lv (ls' := [(0, rf g r), (1, rf g 53), (2, iv 0)]) ok [1, 2, 0] rfl ?_
  exact lp2 _ 0 0 (by omega) (by rw [Int.sub_zero]) (Nat.lt_succ_self _)

theorem mk_X6_become_9 : Cond.fieldLink RX6 9 "StormRunoff$Site" "rain" "[I" ∈ wsX6_become := by decide +kernel
theorem mi_X6_become_6 : ∀ w ∈ wsX60, w ∈ wsX6_become := by decide +kernel
theorem ms_X6_become_X9_copyNumbers : Cond.static yX9_copyNumbers ∈ wsX6_become := by decide +kernel
theorem mn_X6_become_X9_copyNumbers : Cond.initialized yX9_copyNumbers.cls ∈ wsX6_become := by decide +kernel
theorem mq_X6_become_X9_copyNumbers : (RX6, 26, yX9_copyNumbers) ∈ nestW := by decide +kernel
theorem mk_X6_become_18 : Cond.fieldLink RX6 18 "StormRunoff$Site" "basins" "[LStormRunoff$Basin;" ∈ wsX6_become := by decide +kernel
theorem mk_X6_become_22 : Cond.fieldLink RX6 22 "StormRunoff$Site" "many" "I" ∈ wsX6_become := by decide +kernel
set_option maxRecDepth 100000 in
set_option maxHeartbeats 400000 in
theorem ct_X6_become_41_2 (l : Launch) (g : Gl) (M : Mem)   : Ct l g yX6_become wsX6_become 2 43 [rf g 41, rf g 2] M (fun rv M' => rv = none ∧ M' = (up1 (up1 (up1 (up1 (up1 (up1 (up1 (up1 M 42 (M 3)) 45 (M 6)) 44 (up (up (up (M 44) 1 (M 5 1)) 2 (M 5 2)) 3 (M 5 3))) 47 (M 8)) 46 (up (up (up (M 46) 1 (M 7 1)) 2 (M 7 2)) 3 (M 7 3))) 49 (M 10)) 48 (up (up (up (M 48) 1 (M 9 1)) 2 (M 9 2)) 3 (M 9 3))) 41 (up (M 41) 2 (M 2 2)))) := by
  refine Ct.of (cc := cX6_become) (nL := 3) (ret := none) (by decide) rfl (Nat.le_of_ble_eq_true rfl) (fun z hz ok rt => ?_)
  have ok : Ok z g cX6_become 3 RX6 wsX6_become 2 43 := ok
  show V z g 3 M [(0, rf g 41), (1, rf g 2)] [] 0
  refine v_aload_n ok 1 dX6_become_0 rfl rfl ?_
  refine v_get (T := TX6) (N := 3) (f0 := (M 2)) (v := rf g 3) ok mi_X6_become_6 (kd_lt (show kd 2 = 6 from rfl) (by decide)) rfl rfl (cellF_6 _ (by decide)) 0 (by decide) mk_X6_become_9 rfl rfl dX6_become_1 ?_
  refine v_aload_n ok 0 dX6_become_4 rfl rfl ?_
  refine v_get (T := TX6) (N := 3) (f0 := (M 41)) (v := rf g 42) ok mi_X6_become_6 (kd_lt (show kd 41 = 6 from rfl) (by decide)) rfl rfl (cellF_6 _ (by decide)) 0 (by decide) mk_X6_become_9 rfl rfl dX6_become_5 ?_
  refine v_callN (na := 2) ok (ct_X9_copyNumbers z.2.1 g M 3 42 8 (by decide) (by decide) rfl rfl (show (3 : Nat) ≠ 42 by decide)) gX6_become_X9_copyNumbers_n26 mq_X6_become_X9_copyNumbers ms_X6_become_X9_copyNumbers mn_X6_become_X9_copyNumbers rfl (by decide +kernel) rfl (by decide) [] rfl (Nat.le_of_ble_eq_true rfl) dX6_become_8 (fun v2 M3 hp1 => ?_)
  obtain ⟨rfl, rfl⟩ := hp1
  show V z g 3 (up1 M 42 ((M 3))) [(0, rf g 41), (1, rf g 2)] [] 11
  refine v_iconst (n := 0) ok dX6_become_11 ?_
  refine v_istore_n ok [(2, iv 0), (0, rf g 41), (1, rf g 2)] dX6_become_12 rfl (by decide) rfl ?_
  refine v_iload_n ok 0 dX6_become_13 rfl rfl ?_
  refine v_aload_n ok 1 dX6_become_14 rfl rfl ?_
  refine v_get (T := TX6) (N := 3) (f0 := (M 41)) (v := rf g 43) ok mi_X6_become_6 (kd_lt (show kd 41 = 6 from rfl) (by decide)) rfl rfl (cellF_6 _ (by decide)) 1 (by decide) mk_X6_become_18 rfl rfl dX6_become_15 ?_
  refine v_alen13 ok (by decide) dX6_become_18 ?_
  refine v_icmp_ge (tgt := 52) ok (by decide) (by decide) dX6_become_19 (by decide) (fun c4 => absurd c4 (by decide)) (fun c4 => ?_)
  refine v_iload_n ok 0 dX6_become_22 rfl rfl ?_
  refine v_aload_n ok 2 dX6_become_23 rfl rfl ?_
  refine v_get (T := TX6) (N := 3) (f0 := (M 2)) (v := rf g 4) ok mi_X6_become_6 (kd_lt (show kd 2 = 6 from rfl) (by decide)) rfl rfl (cellF_6 _ (by decide)) 1 (by decide) mk_X6_become_18 rfl rfl dX6_become_24 ?_
  refine v_alen13 ok (by decide) dX6_become_27 ?_
  refine v_icmp_ge (tgt := 52) ok (by decide) (by decide) dX6_become_28 (by decide) (fun c5 => absurd c5 (by decide)) (fun c5 => ?_)
  refine v_aload_n ok 1 dX6_become_31 rfl rfl ?_
  refine v_get (T := TX6) (N := 3) (f0 := (M 41)) (v := rf g 43) ok mi_X6_become_6 (kd_lt (show kd 41 = 6 from rfl) (by decide)) rfl rfl (cellF_6 _ (by decide)) 1 (by decide) mk_X6_become_18 rfl rfl dX6_become_32 ?_
  refine v_iload_n ok 0 dX6_become_35 rfl rfl ?_
  refine v_aald13L (q := 44) ok (by decide) (by decide) rfl dX6_become_36 ?_
  refine v_aload_n ok 2 dX6_become_37 rfl rfl ?_
  refine v_get (T := TX6) (N := 3) (f0 := (M 2)) (v := rf g 4) ok mi_X6_become_6 (kd_lt (show kd 2 = 6 from rfl) (by decide)) rfl rfl (cellF_6 _ (by decide)) 1 (by decide) mk_X6_become_18 rfl rfl dX6_become_38 ?_
  refine v_iload_n ok 0 dX6_become_41 rfl rfl ?_
  refine v_aald13L (q := 5) ok (by decide) (by decide) rfl dX6_become_42 ?_
  refine v_callV (na := 1) (i := 44) (C := RX0) (T := TX0) (N := 4) (f0 := (M 44)) ok (ct_X0_become z.2.1 g (up1 M 42 ((M 3))) 44 5 (by decide) (by decide) (show (44 : Nat) ≠ 5 by decide) (show (6 : Nat) ≠ 45 by decide)) gX6_become_X0_become (kd_lt (show kd 44 = 0 from rfl) (by decide)) rfl rfl (cellF_0 _ (by decide)) rfl (by decide +kernel) rfl (by decide) [] rfl (Nat.le_of_ble_eq_true rfl) dX6_become_43 (fun v7 M8 hp6 => ?_)
  obtain ⟨rfl, rfl⟩ := hp6
  show V z g 3 (up1 (up1 (up1 M 42 ((M 3))) 45 ((M 6))) 44 (up (up (up ((M 44)) 1 ((M 5) 1)) 2 ((M 5) 2)) 3 ((M 5) 3))) [(2, iv 0), (0, rf g 41), (1, rf g 2)] [] 46
  refine v_iinc ok 0 [(2, iv 1), (0, rf g 41), (1, rf g 2)] dX6_become_46 rfl (by decide) rfl ?_
  refine v_goto (tgt := 13) ok dX6_become_49 (by decide) ?_
  refine v_iload_n ok 0 dX6_become_13 rfl rfl ?_
  refine v_aload_n ok 1 dX6_become_14 rfl rfl ?_
  refine v_get (T := TX6) (N := 3) (f0 := (M 41)) (v := rf g 43) ok mi_X6_become_6 (kd_lt (show kd 41 = 6 from rfl) (by decide)) rfl rfl (cellF_6 _ (by decide)) 1 (by decide) mk_X6_become_18 rfl rfl dX6_become_15 ?_
  refine v_alen13 ok (by decide) dX6_become_18 ?_
  refine v_icmp_ge (tgt := 52) ok (by decide) (by decide) dX6_become_19 (by decide) (fun c9 => absurd c9 (by decide)) (fun c9 => ?_)
  refine v_iload_n ok 0 dX6_become_22 rfl rfl ?_
  refine v_aload_n ok 2 dX6_become_23 rfl rfl ?_
  refine v_get (T := TX6) (N := 3) (f0 := (M 2)) (v := rf g 4) ok mi_X6_become_6 (kd_lt (show kd 2 = 6 from rfl) (by decide)) rfl rfl (cellF_6 _ (by decide)) 1 (by decide) mk_X6_become_18 rfl rfl dX6_become_24 ?_
  refine v_alen13 ok (by decide) dX6_become_27 ?_
  refine v_icmp_ge (tgt := 52) ok (by decide) (by decide) dX6_become_28 (by decide) (fun c10 => absurd c10 (by decide)) (fun c10 => ?_)
  refine v_aload_n ok 1 dX6_become_31 rfl rfl ?_
  refine v_get (T := TX6) (N := 3) (f0 := (M 41)) (v := rf g 43) ok mi_X6_become_6 (kd_lt (show kd 41 = 6 from rfl) (by decide)) rfl rfl (cellF_6 _ (by decide)) 1 (by decide) mk_X6_become_18 rfl rfl dX6_become_32 ?_
  refine v_iload_n ok 0 dX6_become_35 rfl rfl ?_
  refine v_aald13L (q := 46) ok (by decide) (by decide) rfl dX6_become_36 ?_
  refine v_aload_n ok 2 dX6_become_37 rfl rfl ?_
  refine v_get (T := TX6) (N := 3) (f0 := (M 2)) (v := rf g 4) ok mi_X6_become_6 (kd_lt (show kd 2 = 6 from rfl) (by decide)) rfl rfl (cellF_6 _ (by decide)) 1 (by decide) mk_X6_become_18 rfl rfl dX6_become_38 ?_
  refine v_iload_n ok 0 dX6_become_41 rfl rfl ?_
  refine v_aald13L (q := 7) ok (by decide) (by decide) rfl dX6_become_42 ?_
  refine v_callV (na := 1) (i := 46) (C := RX0) (T := TX0) (N := 4) (f0 := (M 46)) ok (ct_X0_become z.2.1 g (up1 (up1 (up1 M 42 ((M 3))) 45 ((M 6))) 44 (up (up (up ((M 44)) 1 ((M 5) 1)) 2 ((M 5) 2)) 3 ((M 5) 3))) 46 7 (by decide) (by decide) (show (46 : Nat) ≠ 7 by decide) (show (8 : Nat) ≠ 47 by decide)) gX6_become_X0_become (kd_lt (show kd 46 = 0 from rfl) (by decide)) rfl rfl (cellF_0 _ (by decide)) rfl (by decide +kernel) rfl (by decide) [] rfl (Nat.le_of_ble_eq_true rfl) dX6_become_43 (fun v12 M13 hp11 => ?_)
  obtain ⟨rfl, rfl⟩ := hp11
  show V z g 3 (up1 (up1 (up1 (up1 (up1 M 42 ((M 3))) 45 ((M 6))) 44 (up (up (up ((M 44)) 1 ((M 5) 1)) 2 ((M 5) 2)) 3 ((M 5) 3))) 47 ((M 8))) 46 (up (up (up ((M 46)) 1 ((M 7) 1)) 2 ((M 7) 2)) 3 ((M 7) 3))) [(2, iv 1), (0, rf g 41), (1, rf g 2)] [] 46
  refine v_iinc ok 0 [(2, iv 2), (0, rf g 41), (1, rf g 2)] dX6_become_46 rfl (by decide) rfl ?_
  refine v_goto (tgt := 13) ok dX6_become_49 (by decide) ?_
  refine v_iload_n ok 0 dX6_become_13 rfl rfl ?_
  refine v_aload_n ok 1 dX6_become_14 rfl rfl ?_
  refine v_get (T := TX6) (N := 3) (f0 := (M 41)) (v := rf g 43) ok mi_X6_become_6 (kd_lt (show kd 41 = 6 from rfl) (by decide)) rfl rfl (cellF_6 _ (by decide)) 1 (by decide) mk_X6_become_18 rfl rfl dX6_become_15 ?_
  refine v_alen13 ok (by decide) dX6_become_18 ?_
  refine v_icmp_ge (tgt := 52) ok (by decide) (by decide) dX6_become_19 (by decide) (fun c14 => absurd c14 (by decide)) (fun c14 => ?_)
  refine v_iload_n ok 0 dX6_become_22 rfl rfl ?_
  refine v_aload_n ok 2 dX6_become_23 rfl rfl ?_
  refine v_get (T := TX6) (N := 3) (f0 := (M 2)) (v := rf g 4) ok mi_X6_become_6 (kd_lt (show kd 2 = 6 from rfl) (by decide)) rfl rfl (cellF_6 _ (by decide)) 1 (by decide) mk_X6_become_18 rfl rfl dX6_become_24 ?_
  refine v_alen13 ok (by decide) dX6_become_27 ?_
  refine v_icmp_ge (tgt := 52) ok (by decide) (by decide) dX6_become_28 (by decide) (fun c15 => absurd c15 (by decide)) (fun c15 => ?_)
  refine v_aload_n ok 1 dX6_become_31 rfl rfl ?_
  refine v_get (T := TX6) (N := 3) (f0 := (M 41)) (v := rf g 43) ok mi_X6_become_6 (kd_lt (show kd 41 = 6 from rfl) (by decide)) rfl rfl (cellF_6 _ (by decide)) 1 (by decide) mk_X6_become_18 rfl rfl dX6_become_32 ?_
  refine v_iload_n ok 0 dX6_become_35 rfl rfl ?_
  refine v_aald13L (q := 48) ok (by decide) (by decide) rfl dX6_become_36 ?_
  refine v_aload_n ok 2 dX6_become_37 rfl rfl ?_
  refine v_get (T := TX6) (N := 3) (f0 := (M 2)) (v := rf g 4) ok mi_X6_become_6 (kd_lt (show kd 2 = 6 from rfl) (by decide)) rfl rfl (cellF_6 _ (by decide)) 1 (by decide) mk_X6_become_18 rfl rfl dX6_become_38 ?_
  refine v_iload_n ok 0 dX6_become_41 rfl rfl ?_
  refine v_aald13L (q := 9) ok (by decide) (by decide) rfl dX6_become_42 ?_
  refine v_callV (na := 1) (i := 48) (C := RX0) (T := TX0) (N := 4) (f0 := (M 48)) ok (ct_X0_become z.2.1 g (up1 (up1 (up1 (up1 (up1 M 42 ((M 3))) 45 ((M 6))) 44 (up (up (up ((M 44)) 1 ((M 5) 1)) 2 ((M 5) 2)) 3 ((M 5) 3))) 47 ((M 8))) 46 (up (up (up ((M 46)) 1 ((M 7) 1)) 2 ((M 7) 2)) 3 ((M 7) 3))) 48 9 (by decide) (by decide) (show (48 : Nat) ≠ 9 by decide) (show (10 : Nat) ≠ 49 by decide)) gX6_become_X0_become (kd_lt (show kd 48 = 0 from rfl) (by decide)) rfl rfl (cellF_0 _ (by decide)) rfl (by decide +kernel) rfl (by decide) [] rfl (Nat.le_of_ble_eq_true rfl) dX6_become_43 (fun v17 M18 hp16 => ?_)
  obtain ⟨rfl, rfl⟩ := hp16
  show V z g 3 (up1 (up1 (up1 (up1 (up1 (up1 (up1 M 42 ((M 3))) 45 ((M 6))) 44 (up (up (up ((M 44)) 1 ((M 5) 1)) 2 ((M 5) 2)) 3 ((M 5) 3))) 47 ((M 8))) 46 (up (up (up ((M 46)) 1 ((M 7) 1)) 2 ((M 7) 2)) 3 ((M 7) 3))) 49 ((M 10))) 48 (up (up (up ((M 48)) 1 ((M 9) 1)) 2 ((M 9) 2)) 3 ((M 9) 3))) [(2, iv 2), (0, rf g 41), (1, rf g 2)] [] 46
  refine v_iinc ok 0 [(2, iv 3), (0, rf g 41), (1, rf g 2)] dX6_become_46 rfl (by decide) rfl ?_
  refine v_goto (tgt := 13) ok dX6_become_49 (by decide) ?_
  refine v_iload_n ok 0 dX6_become_13 rfl rfl ?_
  refine v_aload_n ok 1 dX6_become_14 rfl rfl ?_
  refine v_get (T := TX6) (N := 3) (f0 := (M 41)) (v := rf g 43) ok mi_X6_become_6 (kd_lt (show kd 41 = 6 from rfl) (by decide)) rfl rfl (cellF_6 _ (by decide)) 1 (by decide) mk_X6_become_18 rfl rfl dX6_become_15 ?_
  refine v_alen13 ok (by decide) dX6_become_18 ?_
  refine v_icmp_ge (tgt := 52) ok (by decide) (by decide) dX6_become_19 (by decide) (fun c19 => ?_) (fun c19 => absurd c19 (by decide))
  refine v_aload_n ok 1 dX6_become_52 rfl rfl ?_
  refine v_aload_n ok 2 dX6_become_53 rfl rfl ?_
  refine v_get (T := TX6) (N := 3) (f0 := (M 2)) (v := iv (M 2 2)) ok mi_X6_become_6 (kd_lt (show kd 2 = 6 from rfl) (by decide)) rfl rfl (cellF_6 _ (by decide)) 2 (by decide) mk_X6_become_22 rfl rfl dX6_become_54 ?_
  refine v_put (T := TX6) (N := 3) (f0 := (M 41)) (f' := up (M 41) 2 (M 2 2)) (ty := .int) ok mi_X6_become_6 (kd_lt (show kd 41 = 6 from rfl) (by decide)) rfl rfl (cellF_6 _ (by decide)) tyX6 tyX6_ok nmX6 2 (by decide) mk_X6_become_22 rfl rfl (by decide +kernel) rfl rfl (Nat.le_of_ble_eq_true rfl) ((cellF_6 _ (by decide)).trans rfl) dX6_become_57 ?_
  exact v_vret ok rt dX6_become_60 (⟨rfl, (by
        funext j
        by_cases hj0 : j = 42
        · subst hj0; simp [up1, up1_self]
        by_cases hj1 : j = 45
        · subst hj1; simp [up1, up1_self]
        by_cases hj2 : j = 44
        · subst hj2; simp [up1, up1_self]
        by_cases hj3 : j = 47
        · subst hj3; simp [up1, up1_self]
        by_cases hj4 : j = 46
        · subst hj4; simp [up1, up1_self]
        by_cases hj5 : j = 49
        · subst hj5; simp [up1, up1_self]
        by_cases hj6 : j = 48
        · subst hj6; simp [up1, up1_self]
        by_cases hj7 : j = 41
        · subst hj7; simp [up1, up1_self]
        simp [up1, hj0, hj1, hj2, hj3, hj4, hj5, hj6, hj7])⟩)

set_option maxRecDepth 100000 in
set_option maxHeartbeats 400000 in
theorem ct_X6_become_22_2 (l : Launch) (g : Gl) (M : Mem)   : Ct l g yX6_become wsX6_become 2 43 [rf g 22, rf g 2] M (fun rv M' => rv = none ∧ M' = (up1 (up1 (up1 (up1 (up1 (up1 (up1 (up1 M 23 (M 3)) 26 (M 6)) 25 (up (up (up (M 25) 1 (M 5 1)) 2 (M 5 2)) 3 (M 5 3))) 28 (M 8)) 27 (up (up (up (M 27) 1 (M 7 1)) 2 (M 7 2)) 3 (M 7 3))) 30 (M 10)) 29 (up (up (up (M 29) 1 (M 9 1)) 2 (M 9 2)) 3 (M 9 3))) 22 (up (M 22) 2 (M 2 2)))) := by
  refine Ct.of (cc := cX6_become) (nL := 3) (ret := none) (by decide) rfl (Nat.le_of_ble_eq_true rfl) (fun z hz ok rt => ?_)
  have ok : Ok z g cX6_become 3 RX6 wsX6_become 2 43 := ok
  show V z g 3 M [(0, rf g 22), (1, rf g 2)] [] 0
  refine v_aload_n ok 1 dX6_become_0 rfl rfl ?_
  refine v_get (T := TX6) (N := 3) (f0 := (M 2)) (v := rf g 3) ok mi_X6_become_6 (kd_lt (show kd 2 = 6 from rfl) (by decide)) rfl rfl (cellF_6 _ (by decide)) 0 (by decide) mk_X6_become_9 rfl rfl dX6_become_1 ?_
  refine v_aload_n ok 0 dX6_become_4 rfl rfl ?_
  refine v_get (T := TX6) (N := 3) (f0 := (M 22)) (v := rf g 23) ok mi_X6_become_6 (kd_lt (show kd 22 = 6 from rfl) (by decide)) rfl rfl (cellF_6 _ (by decide)) 0 (by decide) mk_X6_become_9 rfl rfl dX6_become_5 ?_
  refine v_callN (na := 2) ok (ct_X9_copyNumbers z.2.1 g M 3 23 8 (by decide) (by decide) rfl rfl (show (3 : Nat) ≠ 23 by decide)) gX6_become_X9_copyNumbers_n26 mq_X6_become_X9_copyNumbers ms_X6_become_X9_copyNumbers mn_X6_become_X9_copyNumbers rfl (by decide +kernel) rfl (by decide) [] rfl (Nat.le_of_ble_eq_true rfl) dX6_become_8 (fun v2 M3 hp1 => ?_)
  obtain ⟨rfl, rfl⟩ := hp1
  show V z g 3 (up1 M 23 ((M 3))) [(0, rf g 22), (1, rf g 2)] [] 11
  refine v_iconst (n := 0) ok dX6_become_11 ?_
  refine v_istore_n ok [(2, iv 0), (0, rf g 22), (1, rf g 2)] dX6_become_12 rfl (by decide) rfl ?_
  refine v_iload_n ok 0 dX6_become_13 rfl rfl ?_
  refine v_aload_n ok 1 dX6_become_14 rfl rfl ?_
  refine v_get (T := TX6) (N := 3) (f0 := (M 22)) (v := rf g 24) ok mi_X6_become_6 (kd_lt (show kd 22 = 6 from rfl) (by decide)) rfl rfl (cellF_6 _ (by decide)) 1 (by decide) mk_X6_become_18 rfl rfl dX6_become_15 ?_
  refine v_alen13 ok (by decide) dX6_become_18 ?_
  refine v_icmp_ge (tgt := 52) ok (by decide) (by decide) dX6_become_19 (by decide) (fun c4 => absurd c4 (by decide)) (fun c4 => ?_)
  refine v_iload_n ok 0 dX6_become_22 rfl rfl ?_
  refine v_aload_n ok 2 dX6_become_23 rfl rfl ?_
  refine v_get (T := TX6) (N := 3) (f0 := (M 2)) (v := rf g 4) ok mi_X6_become_6 (kd_lt (show kd 2 = 6 from rfl) (by decide)) rfl rfl (cellF_6 _ (by decide)) 1 (by decide) mk_X6_become_18 rfl rfl dX6_become_24 ?_
  refine v_alen13 ok (by decide) dX6_become_27 ?_
  refine v_icmp_ge (tgt := 52) ok (by decide) (by decide) dX6_become_28 (by decide) (fun c5 => absurd c5 (by decide)) (fun c5 => ?_)
  refine v_aload_n ok 1 dX6_become_31 rfl rfl ?_
  refine v_get (T := TX6) (N := 3) (f0 := (M 22)) (v := rf g 24) ok mi_X6_become_6 (kd_lt (show kd 22 = 6 from rfl) (by decide)) rfl rfl (cellF_6 _ (by decide)) 1 (by decide) mk_X6_become_18 rfl rfl dX6_become_32 ?_
  refine v_iload_n ok 0 dX6_become_35 rfl rfl ?_
  refine v_aald13L (q := 25) ok (by decide) (by decide) rfl dX6_become_36 ?_
  refine v_aload_n ok 2 dX6_become_37 rfl rfl ?_
  refine v_get (T := TX6) (N := 3) (f0 := (M 2)) (v := rf g 4) ok mi_X6_become_6 (kd_lt (show kd 2 = 6 from rfl) (by decide)) rfl rfl (cellF_6 _ (by decide)) 1 (by decide) mk_X6_become_18 rfl rfl dX6_become_38 ?_
  refine v_iload_n ok 0 dX6_become_41 rfl rfl ?_
  refine v_aald13L (q := 5) ok (by decide) (by decide) rfl dX6_become_42 ?_
  refine v_callV (na := 1) (i := 25) (C := RX0) (T := TX0) (N := 4) (f0 := (M 25)) ok (ct_X0_become z.2.1 g (up1 M 23 ((M 3))) 25 5 (by decide) (by decide) (show (25 : Nat) ≠ 5 by decide) (show (6 : Nat) ≠ 26 by decide)) gX6_become_X0_become (kd_lt (show kd 25 = 0 from rfl) (by decide)) rfl rfl (cellF_0 _ (by decide)) rfl (by decide +kernel) rfl (by decide) [] rfl (Nat.le_of_ble_eq_true rfl) dX6_become_43 (fun v7 M8 hp6 => ?_)
  obtain ⟨rfl, rfl⟩ := hp6
  show V z g 3 (up1 (up1 (up1 M 23 ((M 3))) 26 ((M 6))) 25 (up (up (up ((M 25)) 1 ((M 5) 1)) 2 ((M 5) 2)) 3 ((M 5) 3))) [(2, iv 0), (0, rf g 22), (1, rf g 2)] [] 46
  refine v_iinc ok 0 [(2, iv 1), (0, rf g 22), (1, rf g 2)] dX6_become_46 rfl (by decide) rfl ?_
  refine v_goto (tgt := 13) ok dX6_become_49 (by decide) ?_
  refine v_iload_n ok 0 dX6_become_13 rfl rfl ?_
  refine v_aload_n ok 1 dX6_become_14 rfl rfl ?_
  refine v_get (T := TX6) (N := 3) (f0 := (M 22)) (v := rf g 24) ok mi_X6_become_6 (kd_lt (show kd 22 = 6 from rfl) (by decide)) rfl rfl (cellF_6 _ (by decide)) 1 (by decide) mk_X6_become_18 rfl rfl dX6_become_15 ?_
  refine v_alen13 ok (by decide) dX6_become_18 ?_
  refine v_icmp_ge (tgt := 52) ok (by decide) (by decide) dX6_become_19 (by decide) (fun c9 => absurd c9 (by decide)) (fun c9 => ?_)
  refine v_iload_n ok 0 dX6_become_22 rfl rfl ?_
  refine v_aload_n ok 2 dX6_become_23 rfl rfl ?_
  refine v_get (T := TX6) (N := 3) (f0 := (M 2)) (v := rf g 4) ok mi_X6_become_6 (kd_lt (show kd 2 = 6 from rfl) (by decide)) rfl rfl (cellF_6 _ (by decide)) 1 (by decide) mk_X6_become_18 rfl rfl dX6_become_24 ?_
  refine v_alen13 ok (by decide) dX6_become_27 ?_
  refine v_icmp_ge (tgt := 52) ok (by decide) (by decide) dX6_become_28 (by decide) (fun c10 => absurd c10 (by decide)) (fun c10 => ?_)
  refine v_aload_n ok 1 dX6_become_31 rfl rfl ?_
  refine v_get (T := TX6) (N := 3) (f0 := (M 22)) (v := rf g 24) ok mi_X6_become_6 (kd_lt (show kd 22 = 6 from rfl) (by decide)) rfl rfl (cellF_6 _ (by decide)) 1 (by decide) mk_X6_become_18 rfl rfl dX6_become_32 ?_
  refine v_iload_n ok 0 dX6_become_35 rfl rfl ?_
  refine v_aald13L (q := 27) ok (by decide) (by decide) rfl dX6_become_36 ?_
  refine v_aload_n ok 2 dX6_become_37 rfl rfl ?_
  refine v_get (T := TX6) (N := 3) (f0 := (M 2)) (v := rf g 4) ok mi_X6_become_6 (kd_lt (show kd 2 = 6 from rfl) (by decide)) rfl rfl (cellF_6 _ (by decide)) 1 (by decide) mk_X6_become_18 rfl rfl dX6_become_38 ?_
  refine v_iload_n ok 0 dX6_become_41 rfl rfl ?_
  refine v_aald13L (q := 7) ok (by decide) (by decide) rfl dX6_become_42 ?_
  refine v_callV (na := 1) (i := 27) (C := RX0) (T := TX0) (N := 4) (f0 := (M 27)) ok (ct_X0_become z.2.1 g (up1 (up1 (up1 M 23 ((M 3))) 26 ((M 6))) 25 (up (up (up ((M 25)) 1 ((M 5) 1)) 2 ((M 5) 2)) 3 ((M 5) 3))) 27 7 (by decide) (by decide) (show (27 : Nat) ≠ 7 by decide) (show (8 : Nat) ≠ 28 by decide)) gX6_become_X0_become (kd_lt (show kd 27 = 0 from rfl) (by decide)) rfl rfl (cellF_0 _ (by decide)) rfl (by decide +kernel) rfl (by decide) [] rfl (Nat.le_of_ble_eq_true rfl) dX6_become_43 (fun v12 M13 hp11 => ?_)
  obtain ⟨rfl, rfl⟩ := hp11
  show V z g 3 (up1 (up1 (up1 (up1 (up1 M 23 ((M 3))) 26 ((M 6))) 25 (up (up (up ((M 25)) 1 ((M 5) 1)) 2 ((M 5) 2)) 3 ((M 5) 3))) 28 ((M 8))) 27 (up (up (up ((M 27)) 1 ((M 7) 1)) 2 ((M 7) 2)) 3 ((M 7) 3))) [(2, iv 1), (0, rf g 22), (1, rf g 2)] [] 46
  refine v_iinc ok 0 [(2, iv 2), (0, rf g 22), (1, rf g 2)] dX6_become_46 rfl (by decide) rfl ?_
  refine v_goto (tgt := 13) ok dX6_become_49 (by decide) ?_
  refine v_iload_n ok 0 dX6_become_13 rfl rfl ?_
  refine v_aload_n ok 1 dX6_become_14 rfl rfl ?_
  refine v_get (T := TX6) (N := 3) (f0 := (M 22)) (v := rf g 24) ok mi_X6_become_6 (kd_lt (show kd 22 = 6 from rfl) (by decide)) rfl rfl (cellF_6 _ (by decide)) 1 (by decide) mk_X6_become_18 rfl rfl dX6_become_15 ?_
  refine v_alen13 ok (by decide) dX6_become_18 ?_
  refine v_icmp_ge (tgt := 52) ok (by decide) (by decide) dX6_become_19 (by decide) (fun c14 => absurd c14 (by decide)) (fun c14 => ?_)
  refine v_iload_n ok 0 dX6_become_22 rfl rfl ?_
  refine v_aload_n ok 2 dX6_become_23 rfl rfl ?_
  refine v_get (T := TX6) (N := 3) (f0 := (M 2)) (v := rf g 4) ok mi_X6_become_6 (kd_lt (show kd 2 = 6 from rfl) (by decide)) rfl rfl (cellF_6 _ (by decide)) 1 (by decide) mk_X6_become_18 rfl rfl dX6_become_24 ?_
  refine v_alen13 ok (by decide) dX6_become_27 ?_
  refine v_icmp_ge (tgt := 52) ok (by decide) (by decide) dX6_become_28 (by decide) (fun c15 => absurd c15 (by decide)) (fun c15 => ?_)
  refine v_aload_n ok 1 dX6_become_31 rfl rfl ?_
  refine v_get (T := TX6) (N := 3) (f0 := (M 22)) (v := rf g 24) ok mi_X6_become_6 (kd_lt (show kd 22 = 6 from rfl) (by decide)) rfl rfl (cellF_6 _ (by decide)) 1 (by decide) mk_X6_become_18 rfl rfl dX6_become_32 ?_
  refine v_iload_n ok 0 dX6_become_35 rfl rfl ?_
  refine v_aald13L (q := 29) ok (by decide) (by decide) rfl dX6_become_36 ?_
  refine v_aload_n ok 2 dX6_become_37 rfl rfl ?_
  refine v_get (T := TX6) (N := 3) (f0 := (M 2)) (v := rf g 4) ok mi_X6_become_6 (kd_lt (show kd 2 = 6 from rfl) (by decide)) rfl rfl (cellF_6 _ (by decide)) 1 (by decide) mk_X6_become_18 rfl rfl dX6_become_38 ?_
  refine v_iload_n ok 0 dX6_become_41 rfl rfl ?_
  refine v_aald13L (q := 9) ok (by decide) (by decide) rfl dX6_become_42 ?_
  refine v_callV (na := 1) (i := 29) (C := RX0) (T := TX0) (N := 4) (f0 := (M 29)) ok (ct_X0_become z.2.1 g (up1 (up1 (up1 (up1 (up1 M 23 ((M 3))) 26 ((M 6))) 25 (up (up (up ((M 25)) 1 ((M 5) 1)) 2 ((M 5) 2)) 3 ((M 5) 3))) 28 ((M 8))) 27 (up (up (up ((M 27)) 1 ((M 7) 1)) 2 ((M 7) 2)) 3 ((M 7) 3))) 29 9 (by decide) (by decide) (show (29 : Nat) ≠ 9 by decide) (show (10 : Nat) ≠ 30 by decide)) gX6_become_X0_become (kd_lt (show kd 29 = 0 from rfl) (by decide)) rfl rfl (cellF_0 _ (by decide)) rfl (by decide +kernel) rfl (by decide) [] rfl (Nat.le_of_ble_eq_true rfl) dX6_become_43 (fun v17 M18 hp16 => ?_)
  obtain ⟨rfl, rfl⟩ := hp16
  show V z g 3 (up1 (up1 (up1 (up1 (up1 (up1 (up1 M 23 ((M 3))) 26 ((M 6))) 25 (up (up (up ((M 25)) 1 ((M 5) 1)) 2 ((M 5) 2)) 3 ((M 5) 3))) 28 ((M 8))) 27 (up (up (up ((M 27)) 1 ((M 7) 1)) 2 ((M 7) 2)) 3 ((M 7) 3))) 30 ((M 10))) 29 (up (up (up ((M 29)) 1 ((M 9) 1)) 2 ((M 9) 2)) 3 ((M 9) 3))) [(2, iv 2), (0, rf g 22), (1, rf g 2)] [] 46
  refine v_iinc ok 0 [(2, iv 3), (0, rf g 22), (1, rf g 2)] dX6_become_46 rfl (by decide) rfl ?_
  refine v_goto (tgt := 13) ok dX6_become_49 (by decide) ?_
  refine v_iload_n ok 0 dX6_become_13 rfl rfl ?_
  refine v_aload_n ok 1 dX6_become_14 rfl rfl ?_
  refine v_get (T := TX6) (N := 3) (f0 := (M 22)) (v := rf g 24) ok mi_X6_become_6 (kd_lt (show kd 22 = 6 from rfl) (by decide)) rfl rfl (cellF_6 _ (by decide)) 1 (by decide) mk_X6_become_18 rfl rfl dX6_become_15 ?_
  refine v_alen13 ok (by decide) dX6_become_18 ?_
  refine v_icmp_ge (tgt := 52) ok (by decide) (by decide) dX6_become_19 (by decide) (fun c19 => ?_) (fun c19 => absurd c19 (by decide))
  refine v_aload_n ok 1 dX6_become_52 rfl rfl ?_
  refine v_aload_n ok 2 dX6_become_53 rfl rfl ?_
  refine v_get (T := TX6) (N := 3) (f0 := (M 2)) (v := iv (M 2 2)) ok mi_X6_become_6 (kd_lt (show kd 2 = 6 from rfl) (by decide)) rfl rfl (cellF_6 _ (by decide)) 2 (by decide) mk_X6_become_22 rfl rfl dX6_become_54 ?_
  refine v_put (T := TX6) (N := 3) (f0 := (M 22)) (f' := up (M 22) 2 (M 2 2)) (ty := .int) ok mi_X6_become_6 (kd_lt (show kd 22 = 6 from rfl) (by decide)) rfl rfl (cellF_6 _ (by decide)) tyX6 tyX6_ok nmX6 2 (by decide) mk_X6_become_22 rfl rfl (by decide +kernel) rfl rfl (Nat.le_of_ble_eq_true rfl) ((cellF_6 _ (by decide)).trans rfl) dX6_become_57 ?_
  exact v_vret ok rt dX6_become_60 (⟨rfl, (by
        funext j
        by_cases hj0 : j = 23
        · subst hj0; simp [up1, up1_self]
        by_cases hj1 : j = 26
        · subst hj1; simp [up1, up1_self]
        by_cases hj2 : j = 25
        · subst hj2; simp [up1, up1_self]
        by_cases hj3 : j = 28
        · subst hj3; simp [up1, up1_self]
        by_cases hj4 : j = 27
        · subst hj4; simp [up1, up1_self]
        by_cases hj5 : j = 30
        · subst hj5; simp [up1, up1_self]
        by_cases hj6 : j = 29
        · subst hj6; simp [up1, up1_self]
        by_cases hj7 : j = 22
        · subst hj7; simp [up1, up1_self]
        simp [up1, hj0, hj1, hj2, hj3, hj4, hj5, hj6, hj7])⟩)

set_option maxRecDepth 100000 in
set_option maxHeartbeats 400000 in
theorem ct_X6_become_2_22 (l : Launch) (g : Gl) (M : Mem)   : Ct l g yX6_become wsX6_become 2 43 [rf g 2, rf g 22] M (fun rv M' => rv = none ∧ M' = (up1 (up1 (up1 (up1 (up1 (up1 (up1 (up1 M 3 (M 23)) 6 (M 26)) 5 (up (up (up (M 5) 1 (M 25 1)) 2 (M 25 2)) 3 (M 25 3))) 8 (M 28)) 7 (up (up (up (M 7) 1 (M 27 1)) 2 (M 27 2)) 3 (M 27 3))) 10 (M 30)) 9 (up (up (up (M 9) 1 (M 29 1)) 2 (M 29 2)) 3 (M 29 3))) 2 (up (M 2) 2 (M 22 2)))) := by
  refine Ct.of (cc := cX6_become) (nL := 3) (ret := none) (by decide) rfl (Nat.le_of_ble_eq_true rfl) (fun z hz ok rt => ?_)
  have ok : Ok z g cX6_become 3 RX6 wsX6_become 2 43 := ok
  show V z g 3 M [(0, rf g 2), (1, rf g 22)] [] 0
  refine v_aload_n ok 1 dX6_become_0 rfl rfl ?_
  refine v_get (T := TX6) (N := 3) (f0 := (M 22)) (v := rf g 23) ok mi_X6_become_6 (kd_lt (show kd 22 = 6 from rfl) (by decide)) rfl rfl (cellF_6 _ (by decide)) 0 (by decide) mk_X6_become_9 rfl rfl dX6_become_1 ?_
  refine v_aload_n ok 0 dX6_become_4 rfl rfl ?_
  refine v_get (T := TX6) (N := 3) (f0 := (M 2)) (v := rf g 3) ok mi_X6_become_6 (kd_lt (show kd 2 = 6 from rfl) (by decide)) rfl rfl (cellF_6 _ (by decide)) 0 (by decide) mk_X6_become_9 rfl rfl dX6_become_5 ?_
  refine v_callN (na := 2) ok (ct_X9_copyNumbers z.2.1 g M 23 3 8 (by decide) (by decide) rfl rfl (show (23 : Nat) ≠ 3 by decide)) gX6_become_X9_copyNumbers_n26 mq_X6_become_X9_copyNumbers ms_X6_become_X9_copyNumbers mn_X6_become_X9_copyNumbers rfl (by decide +kernel) rfl (by decide) [] rfl (Nat.le_of_ble_eq_true rfl) dX6_become_8 (fun v2 M3 hp1 => ?_)
  obtain ⟨rfl, rfl⟩ := hp1
  show V z g 3 (up1 M 3 ((M 23))) [(0, rf g 2), (1, rf g 22)] [] 11
  refine v_iconst (n := 0) ok dX6_become_11 ?_
  refine v_istore_n ok [(2, iv 0), (0, rf g 2), (1, rf g 22)] dX6_become_12 rfl (by decide) rfl ?_
  refine v_iload_n ok 0 dX6_become_13 rfl rfl ?_
  refine v_aload_n ok 1 dX6_become_14 rfl rfl ?_
  refine v_get (T := TX6) (N := 3) (f0 := (M 2)) (v := rf g 4) ok mi_X6_become_6 (kd_lt (show kd 2 = 6 from rfl) (by decide)) rfl rfl (cellF_6 _ (by decide)) 1 (by decide) mk_X6_become_18 rfl rfl dX6_become_15 ?_
  refine v_alen13 ok (by decide) dX6_become_18 ?_
  refine v_icmp_ge (tgt := 52) ok (by decide) (by decide) dX6_become_19 (by decide) (fun c4 => absurd c4 (by decide)) (fun c4 => ?_)
  refine v_iload_n ok 0 dX6_become_22 rfl rfl ?_
  refine v_aload_n ok 2 dX6_become_23 rfl rfl ?_
  refine v_get (T := TX6) (N := 3) (f0 := (M 22)) (v := rf g 24) ok mi_X6_become_6 (kd_lt (show kd 22 = 6 from rfl) (by decide)) rfl rfl (cellF_6 _ (by decide)) 1 (by decide) mk_X6_become_18 rfl rfl dX6_become_24 ?_
  refine v_alen13 ok (by decide) dX6_become_27 ?_
  refine v_icmp_ge (tgt := 52) ok (by decide) (by decide) dX6_become_28 (by decide) (fun c5 => absurd c5 (by decide)) (fun c5 => ?_)
  refine v_aload_n ok 1 dX6_become_31 rfl rfl ?_
  refine v_get (T := TX6) (N := 3) (f0 := (M 2)) (v := rf g 4) ok mi_X6_become_6 (kd_lt (show kd 2 = 6 from rfl) (by decide)) rfl rfl (cellF_6 _ (by decide)) 1 (by decide) mk_X6_become_18 rfl rfl dX6_become_32 ?_
  refine v_iload_n ok 0 dX6_become_35 rfl rfl ?_
  refine v_aald13L (q := 5) ok (by decide) (by decide) rfl dX6_become_36 ?_
  refine v_aload_n ok 2 dX6_become_37 rfl rfl ?_
  refine v_get (T := TX6) (N := 3) (f0 := (M 22)) (v := rf g 24) ok mi_X6_become_6 (kd_lt (show kd 22 = 6 from rfl) (by decide)) rfl rfl (cellF_6 _ (by decide)) 1 (by decide) mk_X6_become_18 rfl rfl dX6_become_38 ?_
  refine v_iload_n ok 0 dX6_become_41 rfl rfl ?_
  refine v_aald13L (q := 25) ok (by decide) (by decide) rfl dX6_become_42 ?_
  refine v_callV (na := 1) (i := 5) (C := RX0) (T := TX0) (N := 4) (f0 := (M 5)) ok (ct_X0_become z.2.1 g (up1 M 3 ((M 23))) 5 25 (by decide) (by decide) (show (5 : Nat) ≠ 25 by decide) (show (26 : Nat) ≠ 6 by decide)) gX6_become_X0_become (kd_lt (show kd 5 = 0 from rfl) (by decide)) rfl rfl (cellF_0 _ (by decide)) rfl (by decide +kernel) rfl (by decide) [] rfl (Nat.le_of_ble_eq_true rfl) dX6_become_43 (fun v7 M8 hp6 => ?_)
  obtain ⟨rfl, rfl⟩ := hp6
  show V z g 3 (up1 (up1 (up1 M 3 ((M 23))) 6 ((M 26))) 5 (up (up (up ((M 5)) 1 ((M 25) 1)) 2 ((M 25) 2)) 3 ((M 25) 3))) [(2, iv 0), (0, rf g 2), (1, rf g 22)] [] 46
  refine v_iinc ok 0 [(2, iv 1), (0, rf g 2), (1, rf g 22)] dX6_become_46 rfl (by decide) rfl ?_
  refine v_goto (tgt := 13) ok dX6_become_49 (by decide) ?_
  refine v_iload_n ok 0 dX6_become_13 rfl rfl ?_
  refine v_aload_n ok 1 dX6_become_14 rfl rfl ?_
  refine v_get (T := TX6) (N := 3) (f0 := (M 2)) (v := rf g 4) ok mi_X6_become_6 (kd_lt (show kd 2 = 6 from rfl) (by decide)) rfl rfl (cellF_6 _ (by decide)) 1 (by decide) mk_X6_become_18 rfl rfl dX6_become_15 ?_
  refine v_alen13 ok (by decide) dX6_become_18 ?_
  refine v_icmp_ge (tgt := 52) ok (by decide) (by decide) dX6_become_19 (by decide) (fun c9 => absurd c9 (by decide)) (fun c9 => ?_)
  refine v_iload_n ok 0 dX6_become_22 rfl rfl ?_
  refine v_aload_n ok 2 dX6_become_23 rfl rfl ?_
  refine v_get (T := TX6) (N := 3) (f0 := (M 22)) (v := rf g 24) ok mi_X6_become_6 (kd_lt (show kd 22 = 6 from rfl) (by decide)) rfl rfl (cellF_6 _ (by decide)) 1 (by decide) mk_X6_become_18 rfl rfl dX6_become_24 ?_
  refine v_alen13 ok (by decide) dX6_become_27 ?_
  refine v_icmp_ge (tgt := 52) ok (by decide) (by decide) dX6_become_28 (by decide) (fun c10 => absurd c10 (by decide)) (fun c10 => ?_)
  refine v_aload_n ok 1 dX6_become_31 rfl rfl ?_
  refine v_get (T := TX6) (N := 3) (f0 := (M 2)) (v := rf g 4) ok mi_X6_become_6 (kd_lt (show kd 2 = 6 from rfl) (by decide)) rfl rfl (cellF_6 _ (by decide)) 1 (by decide) mk_X6_become_18 rfl rfl dX6_become_32 ?_
  refine v_iload_n ok 0 dX6_become_35 rfl rfl ?_
  refine v_aald13L (q := 7) ok (by decide) (by decide) rfl dX6_become_36 ?_
  refine v_aload_n ok 2 dX6_become_37 rfl rfl ?_
  refine v_get (T := TX6) (N := 3) (f0 := (M 22)) (v := rf g 24) ok mi_X6_become_6 (kd_lt (show kd 22 = 6 from rfl) (by decide)) rfl rfl (cellF_6 _ (by decide)) 1 (by decide) mk_X6_become_18 rfl rfl dX6_become_38 ?_
  refine v_iload_n ok 0 dX6_become_41 rfl rfl ?_
  refine v_aald13L (q := 27) ok (by decide) (by decide) rfl dX6_become_42 ?_
  refine v_callV (na := 1) (i := 7) (C := RX0) (T := TX0) (N := 4) (f0 := (M 7)) ok (ct_X0_become z.2.1 g (up1 (up1 (up1 M 3 ((M 23))) 6 ((M 26))) 5 (up (up (up ((M 5)) 1 ((M 25) 1)) 2 ((M 25) 2)) 3 ((M 25) 3))) 7 27 (by decide) (by decide) (show (7 : Nat) ≠ 27 by decide) (show (28 : Nat) ≠ 8 by decide)) gX6_become_X0_become (kd_lt (show kd 7 = 0 from rfl) (by decide)) rfl rfl (cellF_0 _ (by decide)) rfl (by decide +kernel) rfl (by decide) [] rfl (Nat.le_of_ble_eq_true rfl) dX6_become_43 (fun v12 M13 hp11 => ?_)
  obtain ⟨rfl, rfl⟩ := hp11
  show V z g 3 (up1 (up1 (up1 (up1 (up1 M 3 ((M 23))) 6 ((M 26))) 5 (up (up (up ((M 5)) 1 ((M 25) 1)) 2 ((M 25) 2)) 3 ((M 25) 3))) 8 ((M 28))) 7 (up (up (up ((M 7)) 1 ((M 27) 1)) 2 ((M 27) 2)) 3 ((M 27) 3))) [(2, iv 1), (0, rf g 2), (1, rf g 22)] [] 46
  refine v_iinc ok 0 [(2, iv 2), (0, rf g 2), (1, rf g 22)] dX6_become_46 rfl (by decide) rfl ?_
  refine v_goto (tgt := 13) ok dX6_become_49 (by decide) ?_
  refine v_iload_n ok 0 dX6_become_13 rfl rfl ?_
  refine v_aload_n ok 1 dX6_become_14 rfl rfl ?_
  refine v_get (T := TX6) (N := 3) (f0 := (M 2)) (v := rf g 4) ok mi_X6_become_6 (kd_lt (show kd 2 = 6 from rfl) (by decide)) rfl rfl (cellF_6 _ (by decide)) 1 (by decide) mk_X6_become_18 rfl rfl dX6_become_15 ?_
  refine v_alen13 ok (by decide) dX6_become_18 ?_
  refine v_icmp_ge (tgt := 52) ok (by decide) (by decide) dX6_become_19 (by decide) (fun c14 => absurd c14 (by decide)) (fun c14 => ?_)
  refine v_iload_n ok 0 dX6_become_22 rfl rfl ?_
  refine v_aload_n ok 2 dX6_become_23 rfl rfl ?_
  refine v_get (T := TX6) (N := 3) (f0 := (M 22)) (v := rf g 24) ok mi_X6_become_6 (kd_lt (show kd 22 = 6 from rfl) (by decide)) rfl rfl (cellF_6 _ (by decide)) 1 (by decide) mk_X6_become_18 rfl rfl dX6_become_24 ?_
  refine v_alen13 ok (by decide) dX6_become_27 ?_
  refine v_icmp_ge (tgt := 52) ok (by decide) (by decide) dX6_become_28 (by decide) (fun c15 => absurd c15 (by decide)) (fun c15 => ?_)
  refine v_aload_n ok 1 dX6_become_31 rfl rfl ?_
  refine v_get (T := TX6) (N := 3) (f0 := (M 2)) (v := rf g 4) ok mi_X6_become_6 (kd_lt (show kd 2 = 6 from rfl) (by decide)) rfl rfl (cellF_6 _ (by decide)) 1 (by decide) mk_X6_become_18 rfl rfl dX6_become_32 ?_
  refine v_iload_n ok 0 dX6_become_35 rfl rfl ?_
  refine v_aald13L (q := 9) ok (by decide) (by decide) rfl dX6_become_36 ?_
  refine v_aload_n ok 2 dX6_become_37 rfl rfl ?_
  refine v_get (T := TX6) (N := 3) (f0 := (M 22)) (v := rf g 24) ok mi_X6_become_6 (kd_lt (show kd 22 = 6 from rfl) (by decide)) rfl rfl (cellF_6 _ (by decide)) 1 (by decide) mk_X6_become_18 rfl rfl dX6_become_38 ?_
  refine v_iload_n ok 0 dX6_become_41 rfl rfl ?_
  refine v_aald13L (q := 29) ok (by decide) (by decide) rfl dX6_become_42 ?_
  refine v_callV (na := 1) (i := 9) (C := RX0) (T := TX0) (N := 4) (f0 := (M 9)) ok (ct_X0_become z.2.1 g (up1 (up1 (up1 (up1 (up1 M 3 ((M 23))) 6 ((M 26))) 5 (up (up (up ((M 5)) 1 ((M 25) 1)) 2 ((M 25) 2)) 3 ((M 25) 3))) 8 ((M 28))) 7 (up (up (up ((M 7)) 1 ((M 27) 1)) 2 ((M 27) 2)) 3 ((M 27) 3))) 9 29 (by decide) (by decide) (show (9 : Nat) ≠ 29 by decide) (show (30 : Nat) ≠ 10 by decide)) gX6_become_X0_become (kd_lt (show kd 9 = 0 from rfl) (by decide)) rfl rfl (cellF_0 _ (by decide)) rfl (by decide +kernel) rfl (by decide) [] rfl (Nat.le_of_ble_eq_true rfl) dX6_become_43 (fun v17 M18 hp16 => ?_)
  obtain ⟨rfl, rfl⟩ := hp16
  show V z g 3 (up1 (up1 (up1 (up1 (up1 (up1 (up1 M 3 ((M 23))) 6 ((M 26))) 5 (up (up (up ((M 5)) 1 ((M 25) 1)) 2 ((M 25) 2)) 3 ((M 25) 3))) 8 ((M 28))) 7 (up (up (up ((M 7)) 1 ((M 27) 1)) 2 ((M 27) 2)) 3 ((M 27) 3))) 10 ((M 30))) 9 (up (up (up ((M 9)) 1 ((M 29) 1)) 2 ((M 29) 2)) 3 ((M 29) 3))) [(2, iv 2), (0, rf g 2), (1, rf g 22)] [] 46
  refine v_iinc ok 0 [(2, iv 3), (0, rf g 2), (1, rf g 22)] dX6_become_46 rfl (by decide) rfl ?_
  refine v_goto (tgt := 13) ok dX6_become_49 (by decide) ?_
  refine v_iload_n ok 0 dX6_become_13 rfl rfl ?_
  refine v_aload_n ok 1 dX6_become_14 rfl rfl ?_
  refine v_get (T := TX6) (N := 3) (f0 := (M 2)) (v := rf g 4) ok mi_X6_become_6 (kd_lt (show kd 2 = 6 from rfl) (by decide)) rfl rfl (cellF_6 _ (by decide)) 1 (by decide) mk_X6_become_18 rfl rfl dX6_become_15 ?_
  refine v_alen13 ok (by decide) dX6_become_18 ?_
  refine v_icmp_ge (tgt := 52) ok (by decide) (by decide) dX6_become_19 (by decide) (fun c19 => ?_) (fun c19 => absurd c19 (by decide))
  refine v_aload_n ok 1 dX6_become_52 rfl rfl ?_
  refine v_aload_n ok 2 dX6_become_53 rfl rfl ?_
  refine v_get (T := TX6) (N := 3) (f0 := (M 22)) (v := iv (M 22 2)) ok mi_X6_become_6 (kd_lt (show kd 22 = 6 from rfl) (by decide)) rfl rfl (cellF_6 _ (by decide)) 2 (by decide) mk_X6_become_22 rfl rfl dX6_become_54 ?_
  refine v_put (T := TX6) (N := 3) (f0 := (M 2)) (f' := up (M 2) 2 (M 22 2)) (ty := .int) ok mi_X6_become_6 (kd_lt (show kd 2 = 6 from rfl) (by decide)) rfl rfl (cellF_6 _ (by decide)) tyX6 tyX6_ok nmX6 2 (by decide) mk_X6_become_22 rfl rfl (by decide +kernel) rfl rfl (Nat.le_of_ble_eq_true rfl) ((cellF_6 _ (by decide)).trans rfl) dX6_become_57 ?_
  exact v_vret ok rt dX6_become_60 (⟨rfl, (by
        funext j
        by_cases hj0 : j = 3
        · subst hj0; simp [up1, up1_self]
        by_cases hj1 : j = 6
        · subst hj1; simp [up1, up1_self]
        by_cases hj2 : j = 5
        · subst hj2; simp [up1, up1_self]
        by_cases hj3 : j = 8
        · subst hj3; simp [up1, up1_self]
        by_cases hj4 : j = 7
        · subst hj4; simp [up1, up1_self]
        by_cases hj5 : j = 10
        · subst hj5; simp [up1, up1_self]
        by_cases hj6 : j = 9
        · subst hj6; simp [up1, up1_self]
        by_cases hj7 : j = 2
        · subst hj7; simp [up1, up1_self]
        simp [up1, hj0, hj1, hj2, hj3, hj4, hj5, hj6, hj7])⟩)

theorem mk_X7_become_12 : Cond.fieldLink RX7 12 "StormRunoff$State" "site" "LStormRunoff$Site;" ∈ wsX7_become := by decide +kernel
theorem mi_X7_become_7 : ∀ w ∈ wsX70, w ∈ wsX7_become := by decide +kernel
theorem mk_X7_become_18 : Cond.fieldLink RX7 18 "StormRunoff$State" "told" "[I" ∈ wsX7_become := by decide +kernel
theorem ms_X7_become_X9_copyNumbers : Cond.static yX9_copyNumbers ∈ wsX7_become := by decide +kernel
theorem mn_X7_become_X9_copyNumbers : Cond.initialized yX9_copyNumbers.cls ∈ wsX7_become := by decide +kernel
theorem mq_X7_become_X9_copyNumbers : (RX7, 41, yX9_copyNumbers) ∈ nestW := by decide +kernel
theorem mk_X7_become_27 : Cond.fieldLink RX7 27 "StormRunoff$State" "seen" "LStormRunoff$Rows;" ∈ wsX7_become := by decide +kernel
theorem mk_X7_become_31 : Cond.fieldLink RX7 31 "StormRunoff$State" "events" "LStormRunoff$Rows;" ∈ wsX7_become := by decide +kernel
theorem mk_X7_become_34 : Cond.fieldLink RX7 34 "StormRunoff$State" "book" "LStormRunoff$Rows;" ∈ wsX7_become := by decide +kernel
set_option maxRecDepth 100000 in
set_option maxHeartbeats 400000 in
theorem ct_X7_become_21_1 (l : Launch) (g : Gl) (M : Mem)   : Ct l g yX7_become wsX7_become 3 65 [rf g 21, rf g 1] M (fun rv M' => rv = none ∧ M' = (up1 (up1 (up1 (up1 (up1 (up1 (up1 (up1 (up1 (up1 (up1 (up1 (up1 (up1 (up1 (up1 (up1 (up1 M 23 (M 3)) 26 (M 6)) 25 (up (up (up (M 25) 1 (M 5 1)) 2 (M 5 2)) 3 (M 5 3))) 28 (M 8)) 27 (up (up (up (M 27) 1 (M 7 1)) 2 (M 7 2)) 3 (M 7 3))) 30 (M 10)) 29 (up (up (up (M 29) 1 (M 9 1)) 2 (M 9 2)) 3 (M 9 3))) 22 (up (M 22) 2 (M 2 2))) 31 (M 11)) 33 (M 13)) 34 (M 14)) 32 (up (M 32) 3 (M 12 3))) 36 (M 16)) 37 (M 17)) 35 (up (M 35) 3 (M 15 3))) 39 (M 19)) 40 (M 20)) 38 (up (M 38) 3 (M 18 3)))) := by
  refine Ct.of (cc := cX7_become) (nL := 2) (ret := none) (by decide) rfl (Nat.le_of_ble_eq_true rfl) (fun z hz ok rt => ?_)
  have ok : Ok z g cX7_become 2 RX7 wsX7_become 3 65 := ok
  show V z g 2 M [(0, rf g 21), (1, rf g 1)] [] 0
  refine v_aload_n ok 0 dX7_become_0 rfl rfl ?_
  refine v_get (T := TX7) (N := 5) (f0 := (M 21)) (v := rf g 22) ok mi_X7_become_7 (kd_lt (show kd 21 = 7 from rfl) (by decide)) rfl rfl (cellF_7 _ (by decide)) 0 (by decide) mk_X7_become_12 rfl rfl dX7_become_1 ?_
  refine v_aload_n ok 1 dX7_become_4 rfl rfl ?_
  refine v_get (T := TX7) (N := 5) (f0 := (M 1)) (v := rf g 2) ok mi_X7_become_7 (kd_lt (show kd 1 = 7 from rfl) (by decide)) rfl rfl (cellF_7 _ (by decide)) 0 (by decide) mk_X7_become_12 rfl rfl dX7_become_5 ?_
  refine v_callV (na := 1) (i := 22) (C := RX6) (T := TX6) (N := 3) (f0 := (M 22)) ok (ct_X6_become_22_2 z.2.1 g M  ) gX7_become_X6_become (kd_lt (show kd 22 = 6 from rfl) (by decide)) rfl rfl (cellF_6 _ (by decide)) rfl (by decide +kernel) rfl (by decide) [] rfl (Nat.le_of_ble_eq_true rfl) dX7_become_8 (fun v2 M3 hp1 => ?_)
  obtain ⟨rfl, rfl⟩ := hp1
  show V z g 2 (up1 (up1 (up1 (up1 (up1 (up1 (up1 (up1 M 23 ((M 3))) 26 ((M 6))) 25 (up (up (up ((M 25)) 1 ((M 5) 1)) 2 ((M 5) 2)) 3 ((M 5) 3))) 28 ((M 8))) 27 (up (up (up ((M 27)) 1 ((M 7) 1)) 2 ((M 7) 2)) 3 ((M 7) 3))) 30 ((M 10))) 29 (up (up (up ((M 29)) 1 ((M 9) 1)) 2 ((M 9) 2)) 3 ((M 9) 3))) 22 (up ((M 22)) 2 ((M 2) 2))) [(0, rf g 21), (1, rf g 1)] [] 11
  refine v_aload_n ok 1 dX7_become_11 rfl rfl ?_
  refine v_get (T := TX7) (N := 5) (f0 := (M 1)) (v := rf g 11) ok mi_X7_become_7 (kd_lt (show kd 1 = 7 from rfl) (by decide)) rfl rfl (cellF_7 _ (by decide)) 1 (by decide) mk_X7_become_18 rfl rfl dX7_become_12 ?_
  refine v_aload_n ok 0 dX7_become_15 rfl rfl ?_
  refine v_get (T := TX7) (N := 5) (f0 := (M 21)) (v := rf g 31) ok mi_X7_become_7 (kd_lt (show kd 21 = 7 from rfl) (by decide)) rfl rfl (cellF_7 _ (by decide)) 1 (by decide) mk_X7_become_18 rfl rfl dX7_become_16 ?_
  refine v_callN (na := 2) ok (ct_X9_copyNumbers z.2.1 g (up1 (up1 (up1 (up1 (up1 (up1 (up1 (up1 M 23 ((M 3))) 26 ((M 6))) 25 (up (up (up ((M 25)) 1 ((M 5) 1)) 2 ((M 5) 2)) 3 ((M 5) 3))) 28 ((M 8))) 27 (up (up (up ((M 27)) 1 ((M 7) 1)) 2 ((M 7) 2)) 3 ((M 7) 3))) 30 ((M 10))) 29 (up (up (up ((M 29)) 1 ((M 9) 1)) 2 ((M 9) 2)) 3 ((M 9) 3))) 22 (up ((M 22)) 2 ((M 2) 2))) 11 31 12 (by decide) (by decide) rfl rfl (show (11 : Nat) ≠ 31 by decide)) gX7_become_X9_copyNumbers_n41 mq_X7_become_X9_copyNumbers ms_X7_become_X9_copyNumbers mn_X7_become_X9_copyNumbers rfl (by decide +kernel) rfl (by decide) [] rfl (Nat.le_of_ble_eq_true rfl) dX7_become_19 (fun v5 M6 hp4 => ?_)
  obtain ⟨rfl, rfl⟩ := hp4
  show V z g 2 (up1 (up1 (up1 (up1 (up1 (up1 (up1 (up1 (up1 M 23 ((M 3))) 26 ((M 6))) 25 (up (up (up ((M 25)) 1 ((M 5) 1)) 2 ((M 5) 2)) 3 ((M 5) 3))) 28 ((M 8))) 27 (up (up (up ((M 27)) 1 ((M 7) 1)) 2 ((M 7) 2)) 3 ((M 7) 3))) 30 ((M 10))) 29 (up (up (up ((M 29)) 1 ((M 9) 1)) 2 ((M 9) 2)) 3 ((M 9) 3))) 22 (up ((M 22)) 2 ((M 2) 2))) 31 ((M 11))) [(0, rf g 21), (1, rf g 1)] [] 22
  refine v_aload_n ok 0 dX7_become_22 rfl rfl ?_
  refine v_get (T := TX7) (N := 5) (f0 := (M 21)) (v := rf g 32) ok mi_X7_become_7 (kd_lt (show kd 21 = 7 from rfl) (by decide)) rfl rfl (cellF_7 _ (by decide)) 2 (by decide) mk_X7_become_27 rfl rfl dX7_become_23 ?_
  refine v_aload_n ok 1 dX7_become_26 rfl rfl ?_
  refine v_get (T := TX7) (N := 5) (f0 := (M 1)) (v := rf g 12) ok mi_X7_become_7 (kd_lt (show kd 1 = 7 from rfl) (by decide)) rfl rfl (cellF_7 _ (by decide)) 2 (by decide) mk_X7_become_27 rfl rfl dX7_become_27 ?_
  refine v_callV (na := 1) (i := 32) (C := RX4) (T := TX4) (N := 4) (f0 := (M 32)) ok (ct_X4_become z.2.1 g (up1 (up1 (up1 (up1 (up1 (up1 (up1 (up1 (up1 M 23 ((M 3))) 26 ((M 6))) 25 (up (up (up ((M 25)) 1 ((M 5) 1)) 2 ((M 5) 2)) 3 ((M 5) 3))) 28 ((M 8))) 27 (up (up (up ((M 27)) 1 ((M 7) 1)) 2 ((M 7) 2)) 3 ((M 7) 3))) 30 ((M 10))) 29 (up (up (up ((M 29)) 1 ((M 9) 1)) 2 ((M 9) 2)) 3 ((M 9) 3))) 22 (up ((M 22)) 2 ((M 2) 2))) 31 ((M 11))) 32 12 (by decide) (by decide) (show (32 : Nat) ≠ 12 by decide) (show (13 : Nat) ≠ 33 by decide) (show (14 : Nat) ≠ 33 by decide) (show (14 : Nat) ≠ 34 by decide)) gX7_become_X4_become (kd_lt (show kd 32 = 4 from rfl) (by decide)) rfl rfl (cellF_4 _ (by decide)) rfl (by decide +kernel) rfl (by decide) [] rfl (Nat.le_of_ble_eq_true rfl) dX7_become_30 (fun v8 M9 hp7 => ?_)
  obtain ⟨rfl, rfl⟩ := hp7
  show V z g 2 (up1 (up1 (up1 (up1 (up1 (up1 (up1 (up1 (up1 (up1 (up1 (up1 M 23 ((M 3))) 26 ((M 6))) 25 (up (up (up ((M 25)) 1 ((M 5) 1)) 2 ((M 5) 2)) 3 ((M 5) 3))) 28 ((M 8))) 27 (up (up (up ((M 27)) 1 ((M 7) 1)) 2 ((M 7) 2)) 3 ((M 7) 3))) 30 ((M 10))) 29 (up (up (up ((M 29)) 1 ((M 9) 1)) 2 ((M 9) 2)) 3 ((M 9) 3))) 22 (up ((M 22)) 2 ((M 2) 2))) 31 ((M 11))) 33 ((M 13))) 34 ((M 14))) 32 (up ((M 32)) 3 ((M 12) 3))) [(0, rf g 21), (1, rf g 1)] [] 33
  refine v_aload_n ok 0 dX7_become_33 rfl rfl ?_
  refine v_get (T := TX7) (N := 5) (f0 := (M 21)) (v := rf g 35) ok mi_X7_become_7 (kd_lt (show kd 21 = 7 from rfl) (by decide)) rfl rfl (cellF_7 _ (by decide)) 3 (by decide) mk_X7_become_31 rfl rfl dX7_become_34 ?_
  refine v_aload_n ok 1 dX7_become_37 rfl rfl ?_
  refine v_get (T := TX7) (N := 5) (f0 := (M 1)) (v := rf g 15) ok mi_X7_become_7 (kd_lt (show kd 1 = 7 from rfl) (by decide)) rfl rfl (cellF_7 _ (by decide)) 3 (by decide) mk_X7_become_31 rfl rfl dX7_become_38 ?_
  refine v_callV (na := 1) (i := 35) (C := RX4) (T := TX4) (N := 4) (f0 := (M 35)) ok (ct_X4_become z.2.1 g (up1 (up1 (up1 (up1 (up1 (up1 (up1 (up1 (up1 (up1 (up1 (up1 M 23 ((M 3))) 26 ((M 6))) 25 (up (up (up ((M 25)) 1 ((M 5) 1)) 2 ((M 5) 2)) 3 ((M 5) 3))) 28 ((M 8))) 27 (up (up (up ((M 27)) 1 ((M 7) 1)) 2 ((M 7) 2)) 3 ((M 7) 3))) 30 ((M 10))) 29 (up (up (up ((M 29)) 1 ((M 9) 1)) 2 ((M 9) 2)) 3 ((M 9) 3))) 22 (up ((M 22)) 2 ((M 2) 2))) 31 ((M 11))) 33 ((M 13))) 34 ((M 14))) 32 (up ((M 32)) 3 ((M 12) 3))) 35 15 (by decide) (by decide) (show (35 : Nat) ≠ 15 by decide) (show (16 : Nat) ≠ 36 by decide) (show (17 : Nat) ≠ 36 by decide) (show (17 : Nat) ≠ 37 by decide)) gX7_become_X4_become (kd_lt (show kd 35 = 4 from rfl) (by decide)) rfl rfl (cellF_4 _ (by decide)) rfl (by decide +kernel) rfl (by decide) [] rfl (Nat.le_of_ble_eq_true rfl) dX7_become_41 (fun v11 M12 hp10 => ?_)
  obtain ⟨rfl, rfl⟩ := hp10
  show V z g 2 (up1 (up1 (up1 (up1 (up1 (up1 (up1 (up1 (up1 (up1 (up1 (up1 (up1 (up1 (up1 M 23 ((M 3))) 26 ((M 6))) 25 (up (up (up ((M 25)) 1 ((M 5) 1)) 2 ((M 5) 2)) 3 ((M 5) 3))) 28 ((M 8))) 27 (up (up (up ((M 27)) 1 ((M 7) 1)) 2 ((M 7) 2)) 3 ((M 7) 3))) 30 ((M 10))) 29 (up (up (up ((M 29)) 1 ((M 9) 1)) 2 ((M 9) 2)) 3 ((M 9) 3))) 22 (up ((M 22)) 2 ((M 2) 2))) 31 ((M 11))) 33 ((M 13))) 34 ((M 14))) 32 (up ((M 32)) 3 ((M 12) 3))) 36 ((M 16))) 37 ((M 17))) 35 (up ((M 35)) 3 ((M 15) 3))) [(0, rf g 21), (1, rf g 1)] [] 44
  refine v_aload_n ok 0 dX7_become_44 rfl rfl ?_
  refine v_get (T := TX7) (N := 5) (f0 := (M 21)) (v := rf g 38) ok mi_X7_become_7 (kd_lt (show kd 21 = 7 from rfl) (by decide)) rfl rfl (cellF_7 _ (by decide)) 4 (by decide) mk_X7_become_34 rfl rfl dX7_become_45 ?_
  refine v_aload_n ok 1 dX7_become_48 rfl rfl ?_
  refine v_get (T := TX7) (N := 5) (f0 := (M 1)) (v := rf g 18) ok mi_X7_become_7 (kd_lt (show kd 1 = 7 from rfl) (by decide)) rfl rfl (cellF_7 _ (by decide)) 4 (by decide) mk_X7_become_34 rfl rfl dX7_become_49 ?_
  refine v_callV (na := 1) (i := 38) (C := RX4) (T := TX4) (N := 4) (f0 := (M 38)) ok (ct_X4_become z.2.1 g (up1 (up1 (up1 (up1 (up1 (up1 (up1 (up1 (up1 (up1 (up1 (up1 (up1 (up1 (up1 M 23 ((M 3))) 26 ((M 6))) 25 (up (up (up ((M 25)) 1 ((M 5) 1)) 2 ((M 5) 2)) 3 ((M 5) 3))) 28 ((M 8))) 27 (up (up (up ((M 27)) 1 ((M 7) 1)) 2 ((M 7) 2)) 3 ((M 7) 3))) 30 ((M 10))) 29 (up (up (up ((M 29)) 1 ((M 9) 1)) 2 ((M 9) 2)) 3 ((M 9) 3))) 22 (up ((M 22)) 2 ((M 2) 2))) 31 ((M 11))) 33 ((M 13))) 34 ((M 14))) 32 (up ((M 32)) 3 ((M 12) 3))) 36 ((M 16))) 37 ((M 17))) 35 (up ((M 35)) 3 ((M 15) 3))) 38 18 (by decide) (by decide) (show (38 : Nat) ≠ 18 by decide) (show (19 : Nat) ≠ 39 by decide) (show (20 : Nat) ≠ 39 by decide) (show (20 : Nat) ≠ 40 by decide)) gX7_become_X4_become (kd_lt (show kd 38 = 4 from rfl) (by decide)) rfl rfl (cellF_4 _ (by decide)) rfl (by decide +kernel) rfl (by decide) [] rfl (Nat.le_of_ble_eq_true rfl) dX7_become_52 (fun v14 M15 hp13 => ?_)
  obtain ⟨rfl, rfl⟩ := hp13
  show V z g 2 (up1 (up1 (up1 (up1 (up1 (up1 (up1 (up1 (up1 (up1 (up1 (up1 (up1 (up1 (up1 (up1 (up1 (up1 M 23 ((M 3))) 26 ((M 6))) 25 (up (up (up ((M 25)) 1 ((M 5) 1)) 2 ((M 5) 2)) 3 ((M 5) 3))) 28 ((M 8))) 27 (up (up (up ((M 27)) 1 ((M 7) 1)) 2 ((M 7) 2)) 3 ((M 7) 3))) 30 ((M 10))) 29 (up (up (up ((M 29)) 1 ((M 9) 1)) 2 ((M 9) 2)) 3 ((M 9) 3))) 22 (up ((M 22)) 2 ((M 2) 2))) 31 ((M 11))) 33 ((M 13))) 34 ((M 14))) 32 (up ((M 32)) 3 ((M 12) 3))) 36 ((M 16))) 37 ((M 17))) 35 (up ((M 35)) 3 ((M 15) 3))) 39 ((M 19))) 40 ((M 20))) 38 (up ((M 38)) 3 ((M 18) 3))) [(0, rf g 21), (1, rf g 1)] [] 55
  exact v_vret ok rt dX7_become_55 (⟨rfl, (by
        funext j
        by_cases hj0 : j = 23
        · subst hj0; simp [up1, up1_self]
        by_cases hj1 : j = 26
        · subst hj1; simp [up1, up1_self]
        by_cases hj2 : j = 25
        · subst hj2; simp [up1, up1_self]
        by_cases hj3 : j = 28
        · subst hj3; simp [up1, up1_self]
        by_cases hj4 : j = 27
        · subst hj4; simp [up1, up1_self]
        by_cases hj5 : j = 30
        · subst hj5; simp [up1, up1_self]
        by_cases hj6 : j = 29
        · subst hj6; simp [up1, up1_self]
        by_cases hj7 : j = 22
        · subst hj7; simp [up1, up1_self]
        by_cases hj8 : j = 31
        · subst hj8; simp [up1, up1_self]
        by_cases hj9 : j = 33
        · subst hj9; simp [up1, up1_self]
        by_cases hj10 : j = 34
        · subst hj10; simp [up1, up1_self]
        by_cases hj11 : j = 32
        · subst hj11; simp [up1, up1_self]
        by_cases hj12 : j = 36
        · subst hj12; simp [up1, up1_self]
        by_cases hj13 : j = 37
        · subst hj13; simp [up1, up1_self]
        by_cases hj14 : j = 35
        · subst hj14; simp [up1, up1_self]
        by_cases hj15 : j = 39
        · subst hj15; simp [up1, up1_self]
        by_cases hj16 : j = 40
        · subst hj16; simp [up1, up1_self]
        by_cases hj17 : j = 38
        · subst hj17; simp [up1, up1_self]
        simp [up1, hj0, hj1, hj2, hj3, hj4, hj5, hj6, hj7, hj8, hj9, hj10, hj11, hj12, hj13, hj14, hj15, hj16, hj17])⟩)

set_option maxRecDepth 100000 in
set_option maxHeartbeats 400000 in
theorem ct_X7_become_1_21 (l : Launch) (g : Gl) (M : Mem)   : Ct l g yX7_become wsX7_become 3 65 [rf g 1, rf g 21] M (fun rv M' => rv = none ∧ M' = (up1 (up1 (up1 (up1 (up1 (up1 (up1 (up1 (up1 (up1 (up1 (up1 (up1 (up1 (up1 (up1 (up1 (up1 M 3 (M 23)) 6 (M 26)) 5 (up (up (up (M 5) 1 (M 25 1)) 2 (M 25 2)) 3 (M 25 3))) 8 (M 28)) 7 (up (up (up (M 7) 1 (M 27 1)) 2 (M 27 2)) 3 (M 27 3))) 10 (M 30)) 9 (up (up (up (M 9) 1 (M 29 1)) 2 (M 29 2)) 3 (M 29 3))) 2 (up (M 2) 2 (M 22 2))) 11 (M 31)) 13 (M 33)) 14 (M 34)) 12 (up (M 12) 3 (M 32 3))) 16 (M 36)) 17 (M 37)) 15 (up (M 15) 3 (M 35 3))) 19 (M 39)) 20 (M 40)) 18 (up (M 18) 3 (M 38 3)))) := by
  refine Ct.of (cc := cX7_become) (nL := 2) (ret := none) (by decide) rfl (Nat.le_of_ble_eq_true rfl) (fun z hz ok rt => ?_)
  have ok : Ok z g cX7_become 2 RX7 wsX7_become 3 65 := ok
  show V z g 2 M [(0, rf g 1), (1, rf g 21)] [] 0
  refine v_aload_n ok 0 dX7_become_0 rfl rfl ?_
  refine v_get (T := TX7) (N := 5) (f0 := (M 1)) (v := rf g 2) ok mi_X7_become_7 (kd_lt (show kd 1 = 7 from rfl) (by decide)) rfl rfl (cellF_7 _ (by decide)) 0 (by decide) mk_X7_become_12 rfl rfl dX7_become_1 ?_
  refine v_aload_n ok 1 dX7_become_4 rfl rfl ?_
  refine v_get (T := TX7) (N := 5) (f0 := (M 21)) (v := rf g 22) ok mi_X7_become_7 (kd_lt (show kd 21 = 7 from rfl) (by decide)) rfl rfl (cellF_7 _ (by decide)) 0 (by decide) mk_X7_become_12 rfl rfl dX7_become_5 ?_
  refine v_callV (na := 1) (i := 2) (C := RX6) (T := TX6) (N := 3) (f0 := (M 2)) ok (ct_X6_become_2_22 z.2.1 g M  ) gX7_become_X6_become (kd_lt (show kd 2 = 6 from rfl) (by decide)) rfl rfl (cellF_6 _ (by decide)) rfl (by decide +kernel) rfl (by decide) [] rfl (Nat.le_of_ble_eq_true rfl) dX7_become_8 (fun v2 M3 hp1 => ?_)
  obtain ⟨rfl, rfl⟩ := hp1
  show V z g 2 (up1 (up1 (up1 (up1 (up1 (up1 (up1 (up1 M 3 ((M 23))) 6 ((M 26))) 5 (up (up (up ((M 5)) 1 ((M 25) 1)) 2 ((M 25) 2)) 3 ((M 25) 3))) 8 ((M 28))) 7 (up (up (up ((M 7)) 1 ((M 27) 1)) 2 ((M 27) 2)) 3 ((M 27) 3))) 10 ((M 30))) 9 (up (up (up ((M 9)) 1 ((M 29) 1)) 2 ((M 29) 2)) 3 ((M 29) 3))) 2 (up ((M 2)) 2 ((M 22) 2))) [(0, rf g 1), (1, rf g 21)] [] 11
  refine v_aload_n ok 1 dX7_become_11 rfl rfl ?_
  refine v_get (T := TX7) (N := 5) (f0 := (M 21)) (v := rf g 31) ok mi_X7_become_7 (kd_lt (show kd 21 = 7 from rfl) (by decide)) rfl rfl (cellF_7 _ (by decide)) 1 (by decide) mk_X7_become_18 rfl rfl dX7_become_12 ?_
  refine v_aload_n ok 0 dX7_become_15 rfl rfl ?_
  refine v_get (T := TX7) (N := 5) (f0 := (M 1)) (v := rf g 11) ok mi_X7_become_7 (kd_lt (show kd 1 = 7 from rfl) (by decide)) rfl rfl (cellF_7 _ (by decide)) 1 (by decide) mk_X7_become_18 rfl rfl dX7_become_16 ?_
  refine v_callN (na := 2) ok (ct_X9_copyNumbers z.2.1 g (up1 (up1 (up1 (up1 (up1 (up1 (up1 (up1 M 3 ((M 23))) 6 ((M 26))) 5 (up (up (up ((M 5)) 1 ((M 25) 1)) 2 ((M 25) 2)) 3 ((M 25) 3))) 8 ((M 28))) 7 (up (up (up ((M 7)) 1 ((M 27) 1)) 2 ((M 27) 2)) 3 ((M 27) 3))) 10 ((M 30))) 9 (up (up (up ((M 9)) 1 ((M 29) 1)) 2 ((M 29) 2)) 3 ((M 29) 3))) 2 (up ((M 2)) 2 ((M 22) 2))) 31 11 12 (by decide) (by decide) rfl rfl (show (31 : Nat) ≠ 11 by decide)) gX7_become_X9_copyNumbers_n41 mq_X7_become_X9_copyNumbers ms_X7_become_X9_copyNumbers mn_X7_become_X9_copyNumbers rfl (by decide +kernel) rfl (by decide) [] rfl (Nat.le_of_ble_eq_true rfl) dX7_become_19 (fun v5 M6 hp4 => ?_)
  obtain ⟨rfl, rfl⟩ := hp4
  show V z g 2 (up1 (up1 (up1 (up1 (up1 (up1 (up1 (up1 (up1 M 3 ((M 23))) 6 ((M 26))) 5 (up (up (up ((M 5)) 1 ((M 25) 1)) 2 ((M 25) 2)) 3 ((M 25) 3))) 8 ((M 28))) 7 (up (up (up ((M 7)) 1 ((M 27) 1)) 2 ((M 27) 2)) 3 ((M 27) 3))) 10 ((M 30))) 9 (up (up (up ((M 9)) 1 ((M 29) 1)) 2 ((M 29) 2)) 3 ((M 29) 3))) 2 (up ((M 2)) 2 ((M 22) 2))) 11 ((M 31))) [(0, rf g 1), (1, rf g 21)] [] 22
  refine v_aload_n ok 0 dX7_become_22 rfl rfl ?_
  refine v_get (T := TX7) (N := 5) (f0 := (M 1)) (v := rf g 12) ok mi_X7_become_7 (kd_lt (show kd 1 = 7 from rfl) (by decide)) rfl rfl (cellF_7 _ (by decide)) 2 (by decide) mk_X7_become_27 rfl rfl dX7_become_23 ?_
  refine v_aload_n ok 1 dX7_become_26 rfl rfl ?_
  refine v_get (T := TX7) (N := 5) (f0 := (M 21)) (v := rf g 32) ok mi_X7_become_7 (kd_lt (show kd 21 = 7 from rfl) (by decide)) rfl rfl (cellF_7 _ (by decide)) 2 (by decide) mk_X7_become_27 rfl rfl dX7_become_27 ?_
  refine v_callV (na := 1) (i := 12) (C := RX4) (T := TX4) (N := 4) (f0 := (M 12)) ok (ct_X4_become z.2.1 g (up1 (up1 (up1 (up1 (up1 (up1 (up1 (up1 (up1 M 3 ((M 23))) 6 ((M 26))) 5 (up (up (up ((M 5)) 1 ((M 25) 1)) 2 ((M 25) 2)) 3 ((M 25) 3))) 8 ((M 28))) 7 (up (up (up ((M 7)) 1 ((M 27) 1)) 2 ((M 27) 2)) 3 ((M 27) 3))) 10 ((M 30))) 9 (up (up (up ((M 9)) 1 ((M 29) 1)) 2 ((M 29) 2)) 3 ((M 29) 3))) 2 (up ((M 2)) 2 ((M 22) 2))) 11 ((M 31))) 12 32 (by decide) (by decide) (show (12 : Nat) ≠ 32 by decide) (show (33 : Nat) ≠ 13 by decide) (show (34 : Nat) ≠ 13 by decide) (show (34 : Nat) ≠ 14 by decide)) gX7_become_X4_become (kd_lt (show kd 12 = 4 from rfl) (by decide)) rfl rfl (cellF_4 _ (by decide)) rfl (by decide +kernel) rfl (by decide) [] rfl (Nat.le_of_ble_eq_true rfl) dX7_become_30 (fun v8 M9 hp7 => ?_)
  obtain ⟨rfl, rfl⟩ := hp7
  show V z g 2 (up1 (up1 (up1 (up1 (up1 (up1 (up1 (up1 (up1 (up1 (up1 (up1 M 3 ((M 23))) 6 ((M 26))) 5 (up (up (up ((M 5)) 1 ((M 25) 1)) 2 ((M 25) 2)) 3 ((M 25) 3))) 8 ((M 28))) 7 (up (up (up ((M 7)) 1 ((M 27) 1)) 2 ((M 27) 2)) 3 ((M 27) 3))) 10 ((M 30))) 9 (up (up (up ((M 9)) 1 ((M 29) 1)) 2 ((M 29) 2)) 3 ((M 29) 3))) 2 (up ((M 2)) 2 ((M 22) 2))) 11 ((M 31))) 13 ((M 33))) 14 ((M 34))) 12 (up ((M 12)) 3 ((M 32) 3))) [(0, rf g 1), (1, rf g 21)] [] 33
  refine v_aload_n ok 0 dX7_become_33 rfl rfl ?_
  refine v_get (T := TX7) (N := 5) (f0 := (M 1)) (v := rf g 15) ok mi_X7_become_7 (kd_lt (show kd 1 = 7 from rfl) (by decide)) rfl rfl (cellF_7 _ (by decide)) 3 (by decide) mk_X7_become_31 rfl rfl dX7_become_34 ?_
  refine v_aload_n ok 1 dX7_become_37 rfl rfl ?_
  refine v_get (T := TX7) (N := 5) (f0 := (M 21)) (v := rf g 35) ok mi_X7_become_7 (kd_lt (show kd 21 = 7 from rfl) (by decide)) rfl rfl (cellF_7 _ (by decide)) 3 (by decide) mk_X7_become_31 rfl rfl dX7_become_38 ?_
  refine v_callV (na := 1) (i := 15) (C := RX4) (T := TX4) (N := 4) (f0 := (M 15)) ok (ct_X4_become z.2.1 g (up1 (up1 (up1 (up1 (up1 (up1 (up1 (up1 (up1 (up1 (up1 (up1 M 3 ((M 23))) 6 ((M 26))) 5 (up (up (up ((M 5)) 1 ((M 25) 1)) 2 ((M 25) 2)) 3 ((M 25) 3))) 8 ((M 28))) 7 (up (up (up ((M 7)) 1 ((M 27) 1)) 2 ((M 27) 2)) 3 ((M 27) 3))) 10 ((M 30))) 9 (up (up (up ((M 9)) 1 ((M 29) 1)) 2 ((M 29) 2)) 3 ((M 29) 3))) 2 (up ((M 2)) 2 ((M 22) 2))) 11 ((M 31))) 13 ((M 33))) 14 ((M 34))) 12 (up ((M 12)) 3 ((M 32) 3))) 15 35 (by decide) (by decide) (show (15 : Nat) ≠ 35 by decide) (show (36 : Nat) ≠ 16 by decide) (show (37 : Nat) ≠ 16 by decide) (show (37 : Nat) ≠ 17 by decide)) gX7_become_X4_become (kd_lt (show kd 15 = 4 from rfl) (by decide)) rfl rfl (cellF_4 _ (by decide)) rfl (by decide +kernel) rfl (by decide) [] rfl (Nat.le_of_ble_eq_true rfl) dX7_become_41 (fun v11 M12 hp10 => ?_)
  obtain ⟨rfl, rfl⟩ := hp10
  show V z g 2 (up1 (up1 (up1 (up1 (up1 (up1 (up1 (up1 (up1 (up1 (up1 (up1 (up1 (up1 (up1 M 3 ((M 23))) 6 ((M 26))) 5 (up (up (up ((M 5)) 1 ((M 25) 1)) 2 ((M 25) 2)) 3 ((M 25) 3))) 8 ((M 28))) 7 (up (up (up ((M 7)) 1 ((M 27) 1)) 2 ((M 27) 2)) 3 ((M 27) 3))) 10 ((M 30))) 9 (up (up (up ((M 9)) 1 ((M 29) 1)) 2 ((M 29) 2)) 3 ((M 29) 3))) 2 (up ((M 2)) 2 ((M 22) 2))) 11 ((M 31))) 13 ((M 33))) 14 ((M 34))) 12 (up ((M 12)) 3 ((M 32) 3))) 16 ((M 36))) 17 ((M 37))) 15 (up ((M 15)) 3 ((M 35) 3))) [(0, rf g 1), (1, rf g 21)] [] 44
  refine v_aload_n ok 0 dX7_become_44 rfl rfl ?_
  refine v_get (T := TX7) (N := 5) (f0 := (M 1)) (v := rf g 18) ok mi_X7_become_7 (kd_lt (show kd 1 = 7 from rfl) (by decide)) rfl rfl (cellF_7 _ (by decide)) 4 (by decide) mk_X7_become_34 rfl rfl dX7_become_45 ?_
  refine v_aload_n ok 1 dX7_become_48 rfl rfl ?_
  refine v_get (T := TX7) (N := 5) (f0 := (M 21)) (v := rf g 38) ok mi_X7_become_7 (kd_lt (show kd 21 = 7 from rfl) (by decide)) rfl rfl (cellF_7 _ (by decide)) 4 (by decide) mk_X7_become_34 rfl rfl dX7_become_49 ?_
  refine v_callV (na := 1) (i := 18) (C := RX4) (T := TX4) (N := 4) (f0 := (M 18)) ok (ct_X4_become z.2.1 g (up1 (up1 (up1 (up1 (up1 (up1 (up1 (up1 (up1 (up1 (up1 (up1 (up1 (up1 (up1 M 3 ((M 23))) 6 ((M 26))) 5 (up (up (up ((M 5)) 1 ((M 25) 1)) 2 ((M 25) 2)) 3 ((M 25) 3))) 8 ((M 28))) 7 (up (up (up ((M 7)) 1 ((M 27) 1)) 2 ((M 27) 2)) 3 ((M 27) 3))) 10 ((M 30))) 9 (up (up (up ((M 9)) 1 ((M 29) 1)) 2 ((M 29) 2)) 3 ((M 29) 3))) 2 (up ((M 2)) 2 ((M 22) 2))) 11 ((M 31))) 13 ((M 33))) 14 ((M 34))) 12 (up ((M 12)) 3 ((M 32) 3))) 16 ((M 36))) 17 ((M 37))) 15 (up ((M 15)) 3 ((M 35) 3))) 18 38 (by decide) (by decide) (show (18 : Nat) ≠ 38 by decide) (show (39 : Nat) ≠ 19 by decide) (show (40 : Nat) ≠ 19 by decide) (show (40 : Nat) ≠ 20 by decide)) gX7_become_X4_become (kd_lt (show kd 18 = 4 from rfl) (by decide)) rfl rfl (cellF_4 _ (by decide)) rfl (by decide +kernel) rfl (by decide) [] rfl (Nat.le_of_ble_eq_true rfl) dX7_become_52 (fun v14 M15 hp13 => ?_)
  obtain ⟨rfl, rfl⟩ := hp13
  show V z g 2 (up1 (up1 (up1 (up1 (up1 (up1 (up1 (up1 (up1 (up1 (up1 (up1 (up1 (up1 (up1 (up1 (up1 (up1 M 3 ((M 23))) 6 ((M 26))) 5 (up (up (up ((M 5)) 1 ((M 25) 1)) 2 ((M 25) 2)) 3 ((M 25) 3))) 8 ((M 28))) 7 (up (up (up ((M 7)) 1 ((M 27) 1)) 2 ((M 27) 2)) 3 ((M 27) 3))) 10 ((M 30))) 9 (up (up (up ((M 9)) 1 ((M 29) 1)) 2 ((M 29) 2)) 3 ((M 29) 3))) 2 (up ((M 2)) 2 ((M 22) 2))) 11 ((M 31))) 13 ((M 33))) 14 ((M 34))) 12 (up ((M 12)) 3 ((M 32) 3))) 16 ((M 36))) 17 ((M 37))) 15 (up ((M 15)) 3 ((M 35) 3))) 19 ((M 39))) 20 ((M 40))) 18 (up ((M 18)) 3 ((M 38) 3))) [(0, rf g 1), (1, rf g 21)] [] 55
  exact v_vret ok rt dX7_become_55 (⟨rfl, (by
        funext j
        by_cases hj0 : j = 3
        · subst hj0; simp [up1, up1_self]
        by_cases hj1 : j = 6
        · subst hj1; simp [up1, up1_self]
        by_cases hj2 : j = 5
        · subst hj2; simp [up1, up1_self]
        by_cases hj3 : j = 8
        · subst hj3; simp [up1, up1_self]
        by_cases hj4 : j = 7
        · subst hj4; simp [up1, up1_self]
        by_cases hj5 : j = 10
        · subst hj5; simp [up1, up1_self]
        by_cases hj6 : j = 9
        · subst hj6; simp [up1, up1_self]
        by_cases hj7 : j = 2
        · subst hj7; simp [up1, up1_self]
        by_cases hj8 : j = 11
        · subst hj8; simp [up1, up1_self]
        by_cases hj9 : j = 13
        · subst hj9; simp [up1, up1_self]
        by_cases hj10 : j = 14
        · subst hj10; simp [up1, up1_self]
        by_cases hj11 : j = 12
        · subst hj11; simp [up1, up1_self]
        by_cases hj12 : j = 16
        · subst hj12; simp [up1, up1_self]
        by_cases hj13 : j = 17
        · subst hj13; simp [up1, up1_self]
        by_cases hj14 : j = 15
        · subst hj14; simp [up1, up1_self]
        by_cases hj15 : j = 19
        · subst hj15; simp [up1, up1_self]
        by_cases hj16 : j = 20
        · subst hj16; simp [up1, up1_self]
        by_cases hj17 : j = 18
        · subst hj17; simp [up1, up1_self]
        simp [up1, hj0, hj1, hj2, hj3, hj4, hj5, hj6, hj7, hj8, hj9, hj10, hj11, hj12, hj13, hj14, hj15, hj16, hj17])⟩)
