theorem mk_X8_begin_15 : Cond.fieldLink RX8 15 "StormRunoff$Tape" "sort" "I" ∈ wsX8_begin := by decide +kernel
theorem mi_X8_begin_8 : ∀ w ∈ wsX80, w ∈ wsX8_begin := by decide +kernel
theorem mk_X8_begin_19 : Cond.fieldLink RX8 19 "StormRunoff$Tape" "size" "I" ∈ wsX8_begin := by decide +kernel
theorem mk_X8_begin_9 : Cond.fieldLink RX8 9 "StormRunoff$Tape" "items" "[J" ∈ wsX8_begin := by decide +kernel
set_option maxRecDepth 100000 in
set_option maxHeartbeats 400000 in
theorem ct_X8_begin (l : Launch) (g : Gl) (M : Mem) (t : Nat) (s n : Int) (ht : kd t = 8) : Ct l g yX8_begin wsX8_begin 1 24 [rf g t, iv s, iv n] M (fun rv M' => rv = none ∧ M' = (up1 (up1 M t (up (up (M t) 1 s) 2 n)) (t + 1) (fun _ => 0))) := by
  refine Ct.of (cc := cX8_begin) (nL := 3) (ret := none) (by decide) rfl (Nat.le_of_ble_eq_true rfl) (fun z hz ok rt => ?_)
  have ok : Ok z g cX8_begin 3 RX8 wsX8_begin 1 24 := ok
  show V z g 3 M [(0, rf g t), (1, iv s), (2, iv n)] [] 0
  refine v_aload_n ok 0 dX8_begin_0 rfl rfl ?_
  refine v_iload_n ok 1 dX8_begin_1 rfl rfl ?_
  refine v_put (T := TX8) (N := 3) (f0 := (M t)) (f' := up (M t) 1 s) (ty := .int) ok mi_X8_begin_8 (kd_lt ht (by decide)) rfl rfl (cellF_8 _ ht) tyX8 tyX8_ok nmX8 1 (by decide) mk_X8_begin_15 rfl rfl (by decide +kernel) rfl rfl (Nat.le_of_ble_eq_true rfl) ((cellF_8 _ ht).trans rfl) dX8_begin_2 ?_
  refine v_aload_n ok 0 dX8_begin_5 rfl rfl ?_
  refine v_iload_n ok 2 dX8_begin_6 rfl rfl ?_
  refine v_put (T := TX8) (N := 3) (f0 := up (M t) 1 s) (f' := up (up (M t) 1 s) 2 n) (ty := .int) ok mi_X8_begin_8 (kd_lt ht (by decide)) rfl (by rw [up1_same]) (cellF_8 _ ht) tyX8 tyX8_ok nmX8 2 (by decide) mk_X8_begin_19 rfl rfl (by decide +kernel) rfl rfl (Nat.le_of_ble_eq_true rfl) ((cellF_8 _ ht).trans rfl) dX8_begin_7 ?_
  rw [up1_up1]
  refine v_aload_n ok 0 dX8_begin_10 rfl rfl ?_
  refine v_get (T := TX8) (N := 3) (f0 := up (up (M t) 1 s) 2 n) (v := rf g (t + 1)) ok mi_X8_begin_8 (kd_lt ht (by decide)) rfl (by rw [up1_same]) (cellF_8 _ ht) 0 (by decide) mk_X8_begin_9 rfl rfl dX8_begin_11 ?_
  refine v_lconst (n := 0) ok rfl dX8_begin_14 ?_
  refine v_callS (na := 2) ok (ct_J7_fill_d0a16 z.2.1 g (up1 M t (up (up (M t) 1 s) 2 n)) (t + 1) 60 0 (kd_c8_1 ht) (ln_c8_1 ht)) gX8_begin_J7_fill_d0a16 rfl (by decide +kernel) rfl (by decide) [] rfl (Nat.le_of_ble_eq_true rfl) dX8_begin_15 (fun v2 M3 hp1 => ?_)
  obtain ⟨rfl, rfl⟩ := hp1
  show V z g 3 (up1 (up1 M t (up (up (M t) 1 s) 2 n)) (t + 1) (fun _ => 0)) [(0, rf g t), (1, iv s), (2, iv n)] [] 18
  exact v_vret ok rt dX8_begin_18 (⟨rfl, rfl⟩)

theorem mk_X8_hasPlace_19 : Cond.fieldLink RX8 19 "StormRunoff$Tape" "size" "I" ∈ wsX8_hasPlace := by decide +kernel
theorem mi_X8_hasPlace_8 : ∀ w ∈ wsX80, w ∈ wsX8_hasPlace := by decide +kernel
theorem mk_X8_hasPlace_9 : Cond.fieldLink RX8 9 "StormRunoff$Tape" "items" "[J" ∈ wsX8_hasPlace := by decide +kernel
set_option maxRecDepth 100000 in
set_option maxHeartbeats 400000 in
theorem ct_X8_hasPlace (l : Launch) (g : Gl) (M : Mem) (t : Nat) (i : Int) (ht : kd t = 8) (hi : i32 i) (hs : 0 ≤ M t 2 ∧ M t 2 ≤ 60) : Ct l g yX8_hasPlace wsX8_hasPlace 0 0 [rf g t, iv i] M (fun rv M' => (rv = some (iv 1) ∧ M' = M ∧ (0 ≤ i ∧ i < M t 2)) ∨ (rv = some (iv 0) ∧ M' = M ∧ (¬ (0 ≤ i ∧ i < M t 2)))) := by
  refine Ct.of (cc := cX8_hasPlace) (nL := 2) (ret := (some .boolean)) (by decide) rfl (Nat.le_of_ble_eq_true rfl) (fun z hz ok rt => ?_)
  have ok : Ok z g cX8_hasPlace 2 RX8 wsX8_hasPlace 0 0 := ok
  show V z g 2 M [(0, rf g t), (1, iv i)] [] 0
  refine v_iload_n ok 1 dX8_hasPlace_0 rfl rfl ?_
  refine v_if_lt (tgt := 25) ok ⟨by omega, by omega⟩ dX8_hasPlace_1 (by decide) (fun c1 => ?_) (fun c1 => ?_)
  · skip
    refine v_iconst (n := 0) ok dX8_hasPlace_25 ?_
    exact v_zret ok rt (by omega) dX8_hasPlace_26 (Or.inr (⟨rfl, rfl, (by omega)⟩))
  · skip
    refine v_iload_n ok 1 dX8_hasPlace_4 rfl rfl ?_
    refine v_aload_n ok 0 dX8_hasPlace_5 rfl rfl ?_
    refine v_get (T := TX8) (N := 3) (f0 := (M t)) (v := iv (M t 2)) ok mi_X8_hasPlace_8 (kd_lt ht (by decide)) rfl rfl (cellF_8 _ ht) 2 (by decide) mk_X8_hasPlace_19 rfl rfl dX8_hasPlace_6 ?_
    refine v_icmp_ge (tgt := 25) ok ⟨by omega, by omega⟩ ⟨by omega, by omega⟩ dX8_hasPlace_9 (by decide) (fun c2 => ?_) (fun c2 => ?_)
    · skip
      refine v_iconst (n := 0) ok dX8_hasPlace_25 ?_
      exact v_zret ok rt (by omega) dX8_hasPlace_26 (Or.inr (⟨rfl, rfl, (by omega)⟩))
    · skip
      refine v_iload_n ok 1 dX8_hasPlace_12 rfl rfl ?_
      refine v_aload_n ok 0 dX8_hasPlace_13 rfl rfl ?_
      refine v_get (T := TX8) (N := 3) (f0 := (M t)) (v := rf g (t + 1)) ok mi_X8_hasPlace_8 (kd_lt ht (by decide)) rfl rfl (cellF_8 _ ht) 0 (by decide) mk_X8_hasPlace_9 rfl rfl dX8_hasPlace_14 ?_
      refine v_alen (n := 60) ok (Or.inr (kd_c8_1 ht)) (ln_c8_1 ht) dX8_hasPlace_17 ?_
      refine v_icmp_ge (tgt := 25) ok ⟨by omega, by omega⟩ (by decide) dX8_hasPlace_18 (by decide) (fun c3 => ?_) (fun c3 => ?_)
      · skip
        refine v_iconst (n := 0) ok dX8_hasPlace_25 ?_
        exact v_zret ok rt (by omega) dX8_hasPlace_26 (Or.inr (⟨rfl, rfl, (by omega)⟩))
      · skip
        refine v_iconst (n := 1) ok dX8_hasPlace_21 ?_
        refine v_goto (tgt := 26) ok dX8_hasPlace_22 (by decide) ?_
        exact v_zret ok rt (by omega) dX8_hasPlace_26 (Or.inl (⟨rfl, rfl, (by omega)⟩))

theorem mk_X8_hasStretch_19 : Cond.fieldLink RX8 19 "StormRunoff$Tape" "size" "I" ∈ wsX8_hasStretch := by decide +kernel
theorem mi_X8_hasStretch_8 : ∀ w ∈ wsX80, w ∈ wsX8_hasStretch := by decide +kernel
theorem mk_X8_hasStretch_9 : Cond.fieldLink RX8 9 "StormRunoff$Tape" "items" "[J" ∈ wsX8_hasStretch := by decide +kernel
set_option maxRecDepth 100000 in
set_option maxHeartbeats 400000 in
theorem ct_X8_hasStretch (l : Launch) (g : Gl) (M : Mem) (t : Nat) (i n : Int) (ht : kd t = 8) (hi : i32 i) (hn : i32 n) (hs : 0 ≤ M t 2 ∧ M t 2 ≤ 60) : Ct l g yX8_hasStretch wsX8_hasStretch 0 0 [rf g t, iv i, iv n] M (fun rv M' => (rv = some (iv 1) ∧ M' = M ∧ (0 ≤ n ∧ 0 ≤ i ∧ i + n ≤ M t 2)) ∨ (rv = some (iv 0) ∧ M' = M ∧ (¬ (0 ≤ n ∧ 0 ≤ i ∧ i + n ≤ M t 2)))) := by
  refine Ct.of (cc := cX8_hasStretch) (nL := 3) (ret := (some .boolean)) (by decide) rfl (Nat.le_of_ble_eq_true rfl) (fun z hz ok rt => ?_)
  have ok : Ok z g cX8_hasStretch 3 RX8 wsX8_hasStretch 0 0 := ok
  show V z g 3 M [(0, rf g t), (1, iv i), (2, iv n)] [] 0
  refine v_iload_n ok 2 dX8_hasStretch_0 rfl rfl ?_
  refine v_if_lt (tgt := 42) ok ⟨by omega, by omega⟩ dX8_hasStretch_1 (by decide) (fun c1 => ?_) (fun c1 => ?_)
  · skip
    refine v_iconst (n := 0) ok dX8_hasStretch_42 ?_
    exact v_zret ok rt (by omega) dX8_hasStretch_43 (Or.inr (⟨rfl, rfl, (by omega)⟩))
  · skip
    refine v_iload_n ok 1 dX8_hasStretch_4 rfl rfl ?_
    refine v_if_lt (tgt := 42) ok ⟨by omega, by omega⟩ dX8_hasStretch_5 (by decide) (fun c2 => ?_) (fun c2 => ?_)
    · skip
      refine v_iconst (n := 0) ok dX8_hasStretch_42 ?_
      exact v_zret ok rt (by omega) dX8_hasStretch_43 (Or.inr (⟨rfl, rfl, (by omega)⟩))
    · skip
      refine v_iload_n ok 2 dX8_hasStretch_8 rfl rfl ?_
      refine v_aload_n ok 0 dX8_hasStretch_9 rfl rfl ?_
      refine v_get (T := TX8) (N := 3) (f0 := (M t)) (v := iv (M t 2)) ok mi_X8_hasStretch_8 (kd_lt ht (by decide)) rfl rfl (cellF_8 _ ht) 2 (by decide) mk_X8_hasStretch_19 rfl rfl dX8_hasStretch_10 ?_
      refine v_icmp_gt (tgt := 42) ok ⟨by omega, by omega⟩ ⟨by omega, by omega⟩ dX8_hasStretch_13 (by decide) (fun c3 => ?_) (fun c3 => ?_)
      · skip
        refine v_iconst (n := 0) ok dX8_hasStretch_42 ?_
        exact v_zret ok rt (by omega) dX8_hasStretch_43 (Or.inr (⟨rfl, rfl, (by omega)⟩))
      · skip
        refine v_iload_n ok 1 dX8_hasStretch_16 rfl rfl ?_
        refine v_aload_n ok 0 dX8_hasStretch_17 rfl rfl ?_
        refine v_get (T := TX8) (N := 3) (f0 := (M t)) (v := iv (M t 2)) ok mi_X8_hasStretch_8 (kd_lt ht (by decide)) rfl rfl (cellF_8 _ ht) 2 (by decide) mk_X8_hasStretch_19 rfl rfl dX8_hasStretch_18 ?_
        refine v_iload_n ok 2 dX8_hasStretch_21 rfl rfl ?_
        refine v_isub ok dX8_hasStretch_22 ?_
        refine v_icmp_gt (tgt := 42) ok ⟨by omega, by omega⟩ ⟨by omega, by omega⟩ dX8_hasStretch_23 (by decide) (fun c4 => ?_) (fun c4 => ?_)
        · skip
          refine v_iconst (n := 0) ok dX8_hasStretch_42 ?_
          exact v_zret ok rt (by omega) dX8_hasStretch_43 (Or.inr (⟨rfl, rfl, (by omega)⟩))
        · skip
          refine v_aload_n ok 0 dX8_hasStretch_26 rfl rfl ?_
          refine v_get (T := TX8) (N := 3) (f0 := (M t)) (v := iv (M t 2)) ok mi_X8_hasStretch_8 (kd_lt ht (by decide)) rfl rfl (cellF_8 _ ht) 2 (by decide) mk_X8_hasStretch_19 rfl rfl dX8_hasStretch_27 ?_
          refine v_aload_n ok 0 dX8_hasStretch_30 rfl rfl ?_
          refine v_get (T := TX8) (N := 3) (f0 := (M t)) (v := rf g (t + 1)) ok mi_X8_hasStretch_8 (kd_lt ht (by decide)) rfl rfl (cellF_8 _ ht) 0 (by decide) mk_X8_hasStretch_9 rfl rfl dX8_hasStretch_31 ?_
          refine v_alen (n := 60) ok (Or.inr (kd_c8_1 ht)) (ln_c8_1 ht) dX8_hasStretch_34 ?_
          refine v_icmp_gt (tgt := 42) ok ⟨by omega, by omega⟩ (by decide) dX8_hasStretch_35 (by decide) (fun c5 => ?_) (fun c5 => ?_)
          · skip
            refine v_iconst (n := 0) ok dX8_hasStretch_42 ?_
            exact v_zret ok rt (by omega) dX8_hasStretch_43 (Or.inr (⟨rfl, rfl, (by omega)⟩))
          · skip
            refine v_iconst (n := 1) ok dX8_hasStretch_38 ?_
            refine v_goto (tgt := 43) ok dX8_hasStretch_39 (by decide) ?_
            exact v_zret ok rt (by omega) dX8_hasStretch_43 (Or.inl (⟨rfl, rfl, (by omega)⟩))

theorem mk_X6_rainOtherwise_9 : Cond.fieldLink RX6 9 "StormRunoff$Site" "rain" "[I" ∈ wsX6_rainOtherwise := by decide +kernel
theorem mi_X6_rainOtherwise_6 : ∀ w ∈ wsX60, w ∈ wsX6_rainOtherwise := by decide +kernel
theorem mk_X6_rainOtherwise_49 : Cond.methodLink RX6 49 Lib.Math.min.name ∈ wsX6_rainOtherwise := by decide +kernel
theorem mmins_X6_rainOtherwise : Cond.static Lib.Math.min.name ∈ wsX6_rainOtherwise := by decide +kernel
theorem mmi_X6_rainOtherwise : Cond.initialized "java/lang/Math" ∈ wsX6_rainOtherwise := by decide +kernel
theorem mminc_X6_rainOtherwise : Cond.code Lib.Math.min.name Lib.Math.min.code 2 (some .int) ∈ wsX6_rainOtherwise := by decide +kernel
set_option maxRecDepth 100000 in
set_option maxHeartbeats 400000 in
theorem ct_X6_rainOtherwise (l : Launch) (g : Gl) (M : Mem) (w n : Int) (hw : 0 ≤ w ∧ w ≤ 3 ∧ w ≠ 2) (hn : 0 ≤ n ∧ n ≤ 7) (hR : bdf (M 42) 8 0 20) : Ct l g yX6_rainOtherwise wsX6_rainOtherwise 1 21 [rf g 41, iv w, iv n] M (fun rv M' => rv = none ∧ M' = (up1 M 42 (hapR w n (M 42)))) := by
  refine Ct.of (cc := cX6_rainOtherwise) (nL := 4) (ret := none) (by decide) rfl (Nat.le_of_ble_eq_true rfl) (fun z hz ok rt => ?_)
  have ok : Ok z g cX6_rainOtherwise 4 RX6 wsX6_rainOtherwise 1 21 := ok
  show V z g 4 M [(0, rf g 41), (1, iv w), (2, iv n)] [] 0
  refine v_iload_n ok 1 dX6_rainOtherwise_0 rfl rfl ?_
  by_cases e1 : w = 0
  · skip
    refine v_lookup (off := 27) (tgt := 28) ok ⟨by omega, by omega⟩ (by decide) (by rw [e1]; decide) dX6_rainOtherwise_1 (by decide) ?_
    refine v_aload_n ok 0 dX6_rainOtherwise_28 rfl rfl ?_
    refine v_get (T := TX6) (N := 3) (f0 := (M 41)) (v := rf g 42) ok mi_X6_rainOtherwise_6 (kd_lt (show kd 41 = 6 from rfl) (by decide)) rfl rfl (cellF_6 _ (by decide)) 0 (by decide) mk_X6_rainOtherwise_9 rfl rfl dX6_rainOtherwise_29 ?_
    refine v_iload_n ok 2 dX6_rainOtherwise_32 rfl rfl ?_
    refine v_iconst (n := 2) ok dX6_rainOtherwise_33 ?_
    refine v_aload_n ok 0 dX6_rainOtherwise_34 rfl rfl ?_
    refine v_get (T := TX6) (N := 3) (f0 := (M 41)) (v := rf g 42) ok mi_X6_rainOtherwise_6 (kd_lt (show kd 41 = 6 from rfl) (by decide)) rfl rfl (cellF_6 _ (by decide)) 0 (by decide) mk_X6_rainOtherwise_9 rfl rfl dX6_rainOtherwise_35 ?_
    refine v_iload_n ok 2 dX6_rainOtherwise_38 rfl rfl ?_
    refine v_iald (n := 8) (f0 := (M 42)) ok (by decide) rfl (by omega) rfl dX6_rainOtherwise_39 ?_
    have b2 := hR n (by omega) (by omega)
    refine v_imul ok dX6_rainOtherwise_40 ?_
    refine v_bipush (n := 20) ok rfl dX6_rainOtherwise_41 ?_
    refine v_mmin ok ⟨by omega, by omega⟩ (by decide) mk_X6_rainOtherwise_49 mmins_X6_rainOtherwise mmi_X6_rainOtherwise mminc_X6_rainOtherwise ⟨by decide, Nat.le_of_ble_eq_true rfl⟩ dX6_rainOtherwise_43 ?_
    refine v_iast (n := 8) (f0 := (M 42)) ok (by decide) rfl (by omega) rfl dX6_rainOtherwise_46 ?_
    refine v_cong (n := 8) (hapR w n (M 42)) (Or.inl (by decide)) rfl (fun j j0 j1 => by unfold hapR; rw [if_pos (by omega)]) ?_
    refine v_goto (tgt := 101) ok dX6_rainOtherwise_47 (by decide) ?_
    exact v_vret ok rt dX6_rainOtherwise_101 (⟨rfl, rfl⟩)
  · skip
    by_cases e3 : w = 1
    · skip
      refine v_lookup (off := 49) (tgt := 50) ok ⟨by omega, by omega⟩ (by decide) (by rw [e3]; decide) dX6_rainOtherwise_1 (by decide) ?_
      refine v_aload_n ok 0 dX6_rainOtherwise_50 rfl rfl ?_
      refine v_get (T := TX6) (N := 3) (f0 := (M 41)) (v := rf g 42) ok mi_X6_rainOtherwise_6 (kd_lt (show kd 41 = 6 from rfl) (by decide)) rfl rfl (cellF_6 _ (by decide)) 0 (by decide) mk_X6_rainOtherwise_9 rfl rfl dX6_rainOtherwise_51 ?_
      refine v_iload_n ok 2 dX6_rainOtherwise_54 rfl rfl ?_
      refine v_iconst (n := 0) ok dX6_rainOtherwise_55 ?_
      refine v_iast (n := 8) (f0 := (M 42)) ok (by decide) rfl (by omega) rfl dX6_rainOtherwise_56 ?_
      refine v_cong (n := 8) (hapR w n (M 42)) (Or.inl (by decide)) rfl (fun j j0 j1 => by unfold hapR; rw [if_neg (by omega), if_pos (by omega)]) ?_
      refine v_goto (tgt := 101) ok dX6_rainOtherwise_57 (by decide) ?_
      exact v_vret ok rt dX6_rainOtherwise_101 (⟨rfl, rfl⟩)
    · skip
      refine v_lookup (off := 59) (tgt := 60) ok ⟨by omega, by omega⟩ (by decide) (by simp [Op.lookupswitch.offset, Ne.symm e1, e1, Ne.symm e3, e3]) dX6_rainOtherwise_1 (by decide) ?_
      refine v_aload_n ok 0 dX6_rainOtherwise_60 rfl rfl ?_
      refine v_get (T := TX6) (N := 3) (f0 := (M 41)) (v := rf g 42) ok mi_X6_rainOtherwise_6 (kd_lt (show kd 41 = 6 from rfl) (by decide)) rfl rfl (cellF_6 _ (by decide)) 0 (by decide) mk_X6_rainOtherwise_9 rfl rfl dX6_rainOtherwise_61 ?_
      refine v_alen (n := 8) ok (Or.inl (by decide)) rfl dX6_rainOtherwise_64 ?_
      refine v_iconst (n := 1) ok dX6_rainOtherwise_65 ?_
      refine v_isub ok dX6_rainOtherwise_66 ?_
      show V z g 4 M [(0, rf g 41), (1, iv w), (2, iv n)] [iv 7] 67
      refine v_istore_n ok [(3, iv 7), (0, rf g 41), (1, iv w), (2, iv n)] dX6_rainOtherwise_67 rfl (by decide) rfl ?_
      have lp68 : ∀ (fu : Nat) (h : Int) (G : Int → Int), (-1 ≤ h ∧ h ≤ 7) → (∀ j : Int, 0 ≤ j → j < 8 → G j = if h < j then sft n (M 42) j else M 42 j) → (h + 1).toNat < fu → V z g 4 (up1 M 42 G) [(0, rf g 41), (1, iv w), (2, iv n), (3, iv h)] [] 68 := by
        intro fu
        induction fu with
        | zero => intro h G _ _ hm; exact absurd hm (Nat.not_lt_zero _)
        | succ fu ih68 =>
          intro h G i68_0 i68_1 hm68
          refine v_iload_n ok 3 dX6_rainOtherwise_68 rfl rfl ?_
          refine v_if_lt (tgt := 101) ok ⟨by omega, by omega⟩ dX6_rainOtherwise_69 (by decide) (fun c4 => ?_) (fun c4 => ?_)
          · skip
            refine v_cong (n := 8) (hapR w n (M 42)) (Or.inl (by decide)) rfl (fun j j0 j1 => by rw [i68_1 j j0 j1, if_pos (by omega)]; unfold hapR; rw [if_neg (by omega), if_neg (by omega), if_neg (by omega)]) ?_
            exact v_vret ok rt dX6_rainOtherwise_101 (⟨rfl, rfl⟩)
          · skip
            refine v_aload_n ok 0 dX6_rainOtherwise_72 rfl rfl ?_
            refine v_get (T := TX6) (N := 3) (f0 := (M 41)) (v := rf g 42) ok mi_X6_rainOtherwise_6 (kd_lt (show kd 41 = 6 from rfl) (by decide)) rfl rfl (cellF_6 _ (by decide)) 0 (by decide) mk_X6_rainOtherwise_9 rfl rfl dX6_rainOtherwise_73 ?_
            refine v_iload_n ok 3 dX6_rainOtherwise_76 rfl rfl ?_
            refine v_iload_n ok 3 dX6_rainOtherwise_77 rfl rfl ?_
            refine v_iload_n ok 2 dX6_rainOtherwise_78 rfl rfl ?_
            refine v_icmp_lt (tgt := 93) ok ⟨by omega, by omega⟩ ⟨by omega, by omega⟩ dX6_rainOtherwise_79 (by decide) (fun c5 => ?_) (fun c5 => ?_)
            · skip
              refine v_iconst (n := 0) ok dX6_rainOtherwise_93 ?_
              refine v_iast (n := 8) (f0 := G) ok (by decide) rfl (by omega) rfl dX6_rainOtherwise_94 ?_
              rw [up1_up1]
              have hb : ∀ j : Int, 0 ≤ j → j < 8 → (up G h 0) j = if (h + (-1)) < j then sft n (M 42) j else M 42 j := by
                intro j j0 j1
                by_cases e : j = h
                · rw [e, up_same, if_pos (by omega)]
                  unfold sft; rw [if_pos (by omega)]
                · rw [up_ne e, i68_1 j j0 j1]
                  by_cases c : h < j
                  · rw [if_pos c, if_pos (by omega)]
                  · rw [if_neg c, if_neg (by omega)]
              refine v_iinc ok 3 [(3, iv (h + (-1))), (0, rf g 41), (1, iv w), (2, iv n)] dX6_rainOtherwise_95 rfl (by decide) rfl ?_
              refine v_goto (tgt := 68) ok dX6_rainOtherwise_98 (by decide) ?_
              refine v_lv (ls' := [(0, rf g 41), (1, iv w), (2, iv n), (3, iv (h + (-1)))]) ok [1, 2, 3, 0] rfl ?_
              exact ih68 (h + (-1)) (up G h 0) (by omega) hb (by omega)
            · skip
              refine v_aload_n ok 0 dX6_rainOtherwise_82 rfl rfl ?_
              refine v_get (T := TX6) (N := 3) (f0 := (M 41)) (v := rf g 42) ok mi_X6_rainOtherwise_6 (kd_lt (show kd 41 = 6 from rfl) (by decide)) rfl rfl (cellF_6 _ (by decide)) 0 (by decide) mk_X6_rainOtherwise_9 rfl rfl dX6_rainOtherwise_83 ?_
              refine v_iload_n ok 3 dX6_rainOtherwise_86 rfl rfl ?_
              refine v_iload_n ok 2 dX6_rainOtherwise_87 rfl rfl ?_
              refine v_isub ok dX6_rainOtherwise_88 ?_
              refine v_iald (n := 8) (f0 := G) ok (by decide) rfl (by omega) rfl dX6_rainOtherwise_89 ?_
              refine v_goto (tgt := 94) ok dX6_rainOtherwise_90 (by decide) ?_
              refine v_iast (n := 8) (f0 := G) ok (by decide) rfl (by omega) rfl dX6_rainOtherwise_94 ?_
              rw [up1_up1]
              have hb : ∀ j : Int, 0 ≤ j → j < 8 → (up G h (G (h - n))) j = if (h + (-1)) < j then sft n (M 42) j else M 42 j := by
                intro j j0 j1
                by_cases e : j = h
                · rw [e, up_same, if_pos (by omega)]
                  unfold sft; rw [if_neg (by omega), i68_1 (h - n) (by omega) (by omega), if_neg (by omega)]
                · rw [up_ne e, i68_1 j j0 j1]
                  by_cases c : h < j
                  · rw [if_pos c, if_pos (by omega)]
                  · rw [if_neg c, if_neg (by omega)]
              refine v_iinc ok 3 [(3, iv (h + (-1))), (0, rf g 41), (1, iv w), (2, iv n)] dX6_rainOtherwise_95 rfl (by decide) rfl ?_
              refine v_goto (tgt := 68) ok dX6_rainOtherwise_98 (by decide) ?_
              refine v_lv (ls' := [(0, rf g 41), (1, iv w), (2, iv n), (3, iv (h + (-1)))]) ok [1, 2, 3, 0] rfl ?_
              exact ih68 (h + (-1)) (up G h (G (h - n))) (by omega) hb (by omega)
      refine v_lv (ls' := [(0, rf g 41), (1, iv w), (2, iv n), (3, iv 7)]) ok [1, 2, 3, 0] rfl ?_
      rw [show (M : Mem) = (up1 M 42 (M 42)) from (by
            funext j
            by_cases hj0 : j = 42
            · subst hj0; simp [up1, up1_self]
            simp [up1, hj0])]
      exact lp68 _ 7 (M 42) (by omega) (fun j j0 j1 => by rw [if_neg (by omega)]) (Nat.lt_succ_self _)

theorem mk_X6_undergo_9 : Cond.fieldLink RX6 9 "StormRunoff$Site" "rain" "[I" ∈ wsX6_undergo := by decide +kernel
theorem mi_X6_undergo_6 : ∀ w ∈ wsX60, w ∈ wsX6_undergo := by decide +kernel
theorem ms_X6_undergo_X9_between : Cond.static yX9_between ∈ wsX6_undergo := by decide +kernel
theorem mn_X6_undergo_X9_between : Cond.initialized yX9_between.cls ∈ wsX6_undergo := by decide +kernel
theorem mq_X6_undergo_X9_between : (RX6, 41, yX9_between) ∈ nestW := by decide +kernel
theorem mk_X6_undergo_18 : Cond.fieldLink RX6 18 "StormRunoff$Site" "basins" "[LStormRunoff$Basin;" ∈ wsX6_undergo := by decide +kernel
theorem mk_X6_undergo_38 : Cond.fieldLink RX6 38 "StormRunoff$Basin" "kind" "I" ∈ wsX6_undergo := by decide +kernel
theorem mi_X6_undergo_0 : ∀ w ∈ wsX00, w ∈ wsX6_undergo := by decide +kernel
set_option maxRecDepth 100000 in
set_option maxHeartbeats 400000 in
theorem ct_X6_undergo (l : Launch) (g : Gl) (M : Mem) (w n : Int) (hw : 0 ≤ w ∧ w ≤ 3) (hn : 0 ≤ n ∧ n ≤ 7) (hR : bdf (M 42) 8 0 20) (hm : 0 ≤ M 41 2 ∧ M 41 2 ≤ 3) (hw2 : w = 2 → n < M 41 2) : Ct l g yX6_undergo wsX6_undergo 2 44 [rf g 41, iv w, iv n] M (fun rv M' => rv = none ∧ M' = (up1 (up1 (up1 (up1 M 42 (hapR w n (M 42))) 44 (hapB w n 0 (M 44))) 46 (hapB w n 1 (M 46))) 48 (hapB w n 2 (M 48)))) := by
  refine Ct.of (cc := cX6_undergo) (nL := 3) (ret := none) (by decide) rfl (Nat.le_of_ble_eq_true rfl) (fun z hz ok rt => ?_)
  have ok : Ok z g cX6_undergo 3 RX6 wsX6_undergo 2 44 := ok
  show V z g 3 M [(0, rf g 41), (1, iv w), (2, iv n)] [] 0
  refine v_iload_n ok 1 dX6_undergo_0 rfl rfl ?_
  refine v_iconst (n := 2) ok dX6_undergo_1 ?_
  refine v_icmp_ne (tgt := 26) ok ⟨by omega, by omega⟩ (by decide) dX6_undergo_2 (by decide) (fun c1 => ?_) (fun c1 => ?_)
  · skip
    refine v_iload_n ok 2 dX6_undergo_26 rfl rfl ?_
    refine v_iconst (n := 0) ok dX6_undergo_27 ?_
    refine v_aload_n ok 0 dX6_undergo_28 rfl rfl ?_
    refine v_get (T := TX6) (N := 3) (f0 := (M 41)) (v := rf g 42) ok mi_X6_undergo_6 (kd_lt (show kd 41 = 6 from rfl) (by decide)) rfl rfl (cellF_6 _ (by decide)) 0 (by decide) mk_X6_undergo_9 rfl rfl dX6_undergo_29 ?_
    refine v_alen (n := 8) ok (Or.inl (by decide)) rfl dX6_undergo_32 ?_
    refine v_iconst (n := 1) ok dX6_undergo_33 ?_
    refine v_isub ok dX6_undergo_34 ?_
    show V z g 3 M [(0, rf g 41), (1, iv w), (2, iv n)] [iv 7, iv 0, iv n] 35
    refine v_callN (na := 3) ok (ct_X9_between z.2.1 g M n 0 7 ⟨by omega, by omega⟩ (by decide) (by decide)) gX6_undergo_X9_between_n41 mq_X6_undergo_X9_between ms_X6_undergo_X9_between mn_X6_undergo_X9_between rfl (by decide +kernel) rfl (by decide) [] rfl (Nat.le_of_ble_eq_true rfl) dX6_undergo_35 (fun v3 M4 hp2 => ?_)
    rcases hp2 with ⟨rfl, eM4, h5⟩ | ⟨rfl, eM4, h6⟩
    · skip
      subst M4
      show V z g 3 M [(0, rf g 41), (1, iv w), (2, iv n)] [iv 1] 38
      refine v_if_eq (tgt := 47) ok (by decide) dX6_undergo_38 (by decide) (fun c7 => absurd c7 (by decide)) (fun c7 => ?_)
      refine v_aload_n ok 0 dX6_undergo_41 rfl rfl ?_
      refine v_iload_n ok 1 dX6_undergo_42 rfl rfl ?_
      refine v_iload_n ok 2 dX6_undergo_43 rfl rfl ?_
      refine v_callV (na := 2) (i := 41) (C := RX6) (T := TX6) (N := 3) (f0 := (M 41)) ok (ct_X6_rainOtherwise z.2.1 g M w n (by first | omega | assumption) (by first | omega | assumption) (by first | omega | assumption)) gX6_undergo_X6_rainOtherwise (kd_lt (show kd 41 = 6 from rfl) (by decide)) rfl rfl (cellF_6 _ (by decide)) rfl (by decide +kernel) rfl (by decide) [] rfl (Nat.le_of_ble_eq_true rfl) dX6_undergo_44 (fun v9 M10 hp8 => ?_)
      obtain ⟨rfl, rfl⟩ := hp8
      show V z g 3 (up1 M 42 (hapR w n ((M 42)))) [(0, rf g 41), (1, iv w), (2, iv n)] [] 47
      exact v_vret ok rt dX6_undergo_47 (⟨rfl, (by funext j; unfold hapB; by_cases hj0 : j = 42 <;> by_cases hj1 : j = 44 <;> by_cases hj2 : j = 46 <;> by_cases hj3 : j = 48 <;> simp_all [up1, hapR])⟩)
    · skip
      subst M4
      show V z g 3 M [(0, rf g 41), (1, iv w), (2, iv n)] [iv 0] 38
      exfalso; omega
  · skip
    refine v_aload_n ok 0 dX6_undergo_5 rfl rfl ?_
    refine v_iload_n ok 2 dX6_undergo_6 rfl rfl ?_
    refine v_callV (na := 1) (i := 41) (C := RX6) (T := TX6) (N := 3) (f0 := (M 41)) ok (ct_X6_has z.2.1 g M 41 n (by decide) ⟨by omega, by omega⟩ (by first | omega | assumption)) gX6_undergo_X6_has (kd_lt (show kd 41 = 6 from rfl) (by decide)) rfl rfl (cellF_6 _ (by decide)) rfl (by decide +kernel) rfl (by decide) [] rfl (Nat.le_of_ble_eq_true rfl) dX6_undergo_7 (fun v12 M13 hp11 => ?_)
    rcases hp11 with ⟨rfl, eM13, h14⟩ | ⟨rfl, eM13, h15⟩
    · skip
      subst M13
      have h14 : 0 ≤ n ∧ n < (M 41) 2 := h14
      show V z g 3 M [(0, rf g 41), (1, iv w), (2, iv n)] [iv 1] 10
      refine v_if_eq (tgt := 47) ok (by decide) dX6_undergo_10 (by decide) (fun c16 => absurd c16 (by decide)) (fun c16 => ?_)
      have hsp13 : n = 0 ∨ n = 1 ∨ n = 2 := by omega
      rcases hsp13 with rfl | rfl | rfl
      · skip
        refine v_aload_n ok 0 dX6_undergo_13 rfl rfl ?_
        refine v_get (T := TX6) (N := 3) (f0 := (M 41)) (v := rf g 43) ok mi_X6_undergo_6 (kd_lt (show kd 41 = 6 from rfl) (by decide)) rfl rfl (cellF_6 _ (by decide)) 1 (by decide) mk_X6_undergo_18 rfl rfl dX6_undergo_14 ?_
        refine v_iload_n ok 2 dX6_undergo_17 rfl rfl ?_
        refine v_aald13L (q := 44) ok (by decide) (by decide) rfl dX6_undergo_18 ?_
        refine v_iconst (n := 0) ok dX6_undergo_19 ?_
        refine v_put (T := TX0) (N := 4) (f0 := (M 44)) (f' := up (M 44) 2 0) (ty := .int) ok mi_X6_undergo_0 (kd_lt (show kd 44 = 0 from rfl) (by decide)) rfl rfl (cellF_0 _ (by decide)) tyX0 tyX0_ok nmX0 2 (by decide) mk_X6_undergo_38 rfl rfl (by decide +kernel) rfl rfl (Nat.le_of_ble_eq_true rfl) ((cellF_0 _ (by decide)).trans rfl) dX6_undergo_20 ?_
        refine v_goto (tgt := 47) ok dX6_undergo_23 (by decide) ?_
        exact v_vret ok rt dX6_undergo_47 (⟨rfl, (by funext j; unfold hapB; by_cases hj0 : j = 42 <;> by_cases hj1 : j = 44 <;> by_cases hj2 : j = 46 <;> by_cases hj3 : j = 48 <;> simp_all [up1, hapR])⟩)
      · skip
        refine v_aload_n ok 0 dX6_undergo_13 rfl rfl ?_
        refine v_get (T := TX6) (N := 3) (f0 := (M 41)) (v := rf g 43) ok mi_X6_undergo_6 (kd_lt (show kd 41 = 6 from rfl) (by decide)) rfl rfl (cellF_6 _ (by decide)) 1 (by decide) mk_X6_undergo_18 rfl rfl dX6_undergo_14 ?_
        refine v_iload_n ok 2 dX6_undergo_17 rfl rfl ?_
        refine v_aald13L (q := 46) ok (by decide) (by decide) rfl dX6_undergo_18 ?_
        refine v_iconst (n := 0) ok dX6_undergo_19 ?_
        refine v_put (T := TX0) (N := 4) (f0 := (M 46)) (f' := up (M 46) 2 0) (ty := .int) ok mi_X6_undergo_0 (kd_lt (show kd 46 = 0 from rfl) (by decide)) rfl rfl (cellF_0 _ (by decide)) tyX0 tyX0_ok nmX0 2 (by decide) mk_X6_undergo_38 rfl rfl (by decide +kernel) rfl rfl (Nat.le_of_ble_eq_true rfl) ((cellF_0 _ (by decide)).trans rfl) dX6_undergo_20 ?_
        refine v_goto (tgt := 47) ok dX6_undergo_23 (by decide) ?_
        exact v_vret ok rt dX6_undergo_47 (⟨rfl, (by funext j; unfold hapB; by_cases hj0 : j = 42 <;> by_cases hj1 : j = 44 <;> by_cases hj2 : j = 46 <;> by_cases hj3 : j = 48 <;> simp_all [up1, hapR])⟩)
      · skip
        refine v_aload_n ok 0 dX6_undergo_13 rfl rfl ?_
        refine v_get (T := TX6) (N := 3) (f0 := (M 41)) (v := rf g 43) ok mi_X6_undergo_6 (kd_lt (show kd 41 = 6 from rfl) (by decide)) rfl rfl (cellF_6 _ (by decide)) 1 (by decide) mk_X6_undergo_18 rfl rfl dX6_undergo_14 ?_
        refine v_iload_n ok 2 dX6_undergo_17 rfl rfl ?_
        refine v_aald13L (q := 48) ok (by decide) (by decide) rfl dX6_undergo_18 ?_
        refine v_iconst (n := 0) ok dX6_undergo_19 ?_
        refine v_put (T := TX0) (N := 4) (f0 := (M 48)) (f' := up (M 48) 2 0) (ty := .int) ok mi_X6_undergo_0 (kd_lt (show kd 48 = 0 from rfl) (by decide)) rfl rfl (cellF_0 _ (by decide)) tyX0 tyX0_ok nmX0 2 (by decide) mk_X6_undergo_38 rfl rfl (by decide +kernel) rfl rfl (Nat.le_of_ble_eq_true rfl) ((cellF_0 _ (by decide)).trans rfl) dX6_undergo_20 ?_
        refine v_goto (tgt := 47) ok dX6_undergo_23 (by decide) ?_
        exact v_vret ok rt dX6_undergo_47 (⟨rfl, (by funext j; unfold hapB; by_cases hj0 : j = 42 <;> by_cases hj1 : j = 44 <;> by_cases hj2 : j = 46 <;> by_cases hj3 : j = 48 <;> simp_all [up1, hapR])⟩)
    · skip
      subst M13
      have h15 : ¬ (0 ≤ n ∧ n < (M 41) 2) := h15
      show V z g 3 M [(0, rf g 41), (1, iv w), (2, iv n)] [iv 0] 10
      exfalso; omega
