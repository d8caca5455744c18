set_option maxRecDepth 100000 in
set_option maxHeartbeats 400000 in
theorem ct_X9_of (l : Launch) (g : Gl) (M : Mem) (s h : Int) (hs_ : i32 s) (hh : i32 h) (hs : SiteOk M 2) : Ct l g yX9_of wsX9_of 6 132 [rf g 0, iv s, iv h] M (fun rv M' => (rv = some (iv (-1)) ∧ M' = M ∧ ((s = 0 ∧ ¬ (0 ≤ h ∧ h < 8)) ∨ (s = 1 ∧ ¬ (0 ≤ h ∧ h < 12)) ∨ ¬ (0 ≤ s ∧ s ≤ 2))) ∨ (∃ (F O : Int → Int), rv = some (iv (-1)) ∧ M' = (up1 (up1 (up1 M 53 (jnS M 2 (M 2 2).toNat)) 51 F) 52 O) ∧ (s = 2) ∧ (¬ (0 ≤ h ∧ h < 30))) ∨ (rv = some (iv (M 3 h)) ∧ M' = M ∧ (s = 0) ∧ (0 ≤ h ∧ h < 8)) ∨ (rv = some (iv (M 11 h)) ∧ M' = M ∧ (s = 1) ∧ (0 ≤ h ∧ h < 12)) ∨ (∃ (F O : Int → Int), rv = some (iv ((jnS M 2 (M 2 2).toNat) h)) ∧ M' = (up1 (up1 (up1 M 53 (jnS M 2 (M 2 2).toNat)) 51 F) 52 O) ∧ (s = 2) ∧ (0 ≤ h ∧ h < 30))) := by
  refine Ct.of (cc := cX9_of) (nL := 4) (ret := (some .int)) (by decide) rfl (Nat.le_of_ble_eq_true rfl) (fun z hz ok rt => ?_)
  have ok : Ok z g cX9_of 4 RX9 wsX9_of 6 132 := ok
  show V z g 4 M [(0, rf g 0), (1, iv s), (2, iv h)] [] 0
  refine v_aload_n ok 0 dX9_of_0 rfl rfl ?_
  refine v_iload_n ok 1 dX9_of_1 rfl rfl ?_
  refine v_callV (na := 1) (i := 0) (C := RX9) (T := TX9) (N := 9) (f0 := (M 0)) ok (ct_X9_numbersOf z.2.1 g M s hs (⟨by omega, by omega⟩)) gX9_of_X9_numbersOf (kd_lt (show kd 0 = 9 from rfl) (by decide)) rfl rfl (cellF_9 _ (by decide)) rfl (by decide +kernel) rfl (by decide) [] rfl (Nat.le_of_ble_eq_true rfl) dX9_of_2 (fun v2 M3 hp1 => ?_)
  rcases hp1 with ⟨rfl, eM3, h4⟩ | ⟨rfl, eM3, h5⟩ | ⟨F6, O7, rfl, rfl, h8⟩ | ⟨rfl, eM3, h9⟩
  · skip
    subst M3
    show V z g 4 M [(0, rf g 0), (1, iv s), (2, iv h)] [rf g 3] 5
    refine v_astore_n ok [(3, rf g 3), (0, rf g 0), (1, iv s), (2, iv h)] dX9_of_5 rfl (by decide) rfl ?_
    refine v_aload_n ok 0 dX9_of_6 rfl rfl ?_
    refine v_ifnull ok dX9_of_7 ?_
    refine v_iload_n ok 3 dX9_of_10 rfl rfl ?_
    refine v_iconst (n := 0) ok dX9_of_11 ?_
    refine v_aload_n ok 0 dX9_of_12 rfl rfl ?_
    refine v_alen (n := 8) ok (Or.inl (by decide)) rfl dX9_of_13 ?_
    refine v_iconst (n := 1) ok dX9_of_14 ?_
    refine v_isub ok dX9_of_15 ?_
    show V z g 4 M [(3, rf g 3), (0, rf g 0), (1, iv s), (2, iv h)] [iv 7, iv 0, iv h] 16
    refine v_callS (na := 3) ok (ct_X9_between z.2.1 g M h 0 7 ⟨by omega, by omega⟩ (by decide) (by decide)) gX9_of_X9_between rfl (by decide +kernel) rfl (by decide) [] rfl (Nat.le_of_ble_eq_true rfl) dX9_of_16 (fun v11 M12 hp10 => ?_)
    rcases hp10 with ⟨rfl, eM12, h13⟩ | ⟨rfl, eM12, h14⟩
    · skip
      subst M12
      show V z g 4 M [(3, rf g 3), (0, rf g 0), (1, iv s), (2, iv h)] [iv 1] 19
      refine v_if_ne (tgt := 24) ok (by decide) dX9_of_19 (by decide) (fun c15 => ?_) (fun c15 => absurd c15 (by decide))
      refine v_aload_n ok 0 dX9_of_24 rfl rfl ?_
      refine v_iload_n ok 3 dX9_of_25 rfl rfl ?_
      refine v_iald (n := 8) (f0 := (M 3)) ok (by decide) rfl (by omega) rfl dX9_of_26 ?_
      exact v_iret ok rt dX9_of_27 (Or.inr (Or.inr (Or.inl (⟨rfl, rfl, (by omega), (by omega)⟩))))
    · skip
      subst M12
      show V z g 4 M [(3, rf g 3), (0, rf g 0), (1, iv s), (2, iv h)] [iv 0] 19
      refine v_if_ne (tgt := 24) ok (by decide) dX9_of_19 (by decide) (fun c16 => absurd c16 (by decide)) (fun c16 => ?_)
      refine v_iconst (n := -1) ok dX9_of_22 ?_
      exact v_iret ok rt dX9_of_23 (Or.inl (⟨rfl, rfl, (by omega)⟩))
  · skip
    subst M3
    show V z g 4 M [(0, rf g 0), (1, iv s), (2, iv h)] [rf g 11] 5
    refine v_astore_n ok [(3, rf g 11), (0, rf g 0), (1, iv s), (2, iv h)] dX9_of_5 rfl (by decide) rfl ?_
    refine v_aload_n ok 0 dX9_of_6 rfl rfl ?_
    refine v_ifnull ok dX9_of_7 ?_
    refine v_iload_n ok 3 dX9_of_10 rfl rfl ?_
    refine v_iconst (n := 0) ok dX9_of_11 ?_
    refine v_aload_n ok 0 dX9_of_12 rfl rfl ?_
    refine v_alen (n := 12) ok (Or.inl (by decide)) rfl dX9_of_13 ?_
    refine v_iconst (n := 1) ok dX9_of_14 ?_
    refine v_isub ok dX9_of_15 ?_
    show V z g 4 M [(3, rf g 11), (0, rf g 0), (1, iv s), (2, iv h)] [iv 11, iv 0, iv h] 16
    refine v_callS (na := 3) ok (ct_X9_between z.2.1 g M h 0 11 ⟨by omega, by omega⟩ (by decide) (by decide)) gX9_of_X9_between rfl (by decide +kernel) rfl (by decide) [] rfl (Nat.le_of_ble_eq_true rfl) dX9_of_16 (fun v18 M19 hp17 => ?_)
    rcases hp17 with ⟨rfl, eM19, h20⟩ | ⟨rfl, eM19, h21⟩
    · skip
      subst M19
      show V z g 4 M [(3, rf g 11), (0, rf g 0), (1, iv s), (2, iv h)] [iv 1] 19
      refine v_if_ne (tgt := 24) ok (by decide) dX9_of_19 (by decide) (fun c22 => ?_) (fun c22 => absurd c22 (by decide))
      refine v_aload_n ok 0 dX9_of_24 rfl rfl ?_
      refine v_iload_n ok 3 dX9_of_25 rfl rfl ?_
      refine v_iald (n := 12) (f0 := (M 11)) ok (by decide) rfl (by omega) rfl dX9_of_26 ?_
      exact v_iret ok rt dX9_of_27 (Or.inr (Or.inr (Or.inr (Or.inl (⟨rfl, rfl, (by omega), (by omega)⟩)))))
    · skip
      subst M19
      show V z g 4 M [(3, rf g 11), (0, rf g 0), (1, iv s), (2, iv h)] [iv 0] 19
      refine v_if_ne (tgt := 24) ok (by decide) dX9_of_19 (by decide) (fun c23 => absurd c23 (by decide)) (fun c23 => ?_)
      refine v_iconst (n := -1) ok dX9_of_22 ?_
      exact v_iret ok rt dX9_of_23 (Or.inl (⟨rfl, rfl, (by omega)⟩))
  · skip
    show V z g 4 (up1 (up1 (up1 M 53 (jnS M 2 ((M 2) 2).toNat)) 51 F6) 52 O7) [(0, rf g 0), (1, iv s), (2, iv h)] [rf g 53] 5
    refine v_astore_n ok [(3, rf g 53), (0, rf g 0), (1, iv s), (2, iv h)] dX9_of_5 rfl (by decide) rfl ?_
    refine v_aload_n ok 0 dX9_of_6 rfl rfl ?_
    refine v_ifnull ok dX9_of_7 ?_
    refine v_iload_n ok 3 dX9_of_10 rfl rfl ?_
    refine v_iconst (n := 0) ok dX9_of_11 ?_
    refine v_aload_n ok 0 dX9_of_12 rfl rfl ?_
    refine v_alen (n := 30) ok (Or.inl (by decide)) rfl dX9_of_13 ?_
    refine v_iconst (n := 1) ok dX9_of_14 ?_
    refine v_isub ok dX9_of_15 ?_
    show V z g 4 (up1 (up1 (up1 M 53 (jnS M 2 ((M 2) 2).toNat)) 51 F6) 52 O7) [(3, rf g 53), (0, rf g 0), (1, iv s), (2, iv h)] [iv 29, iv 0, iv h] 16
    refine v_callS (na := 3) ok (ct_X9_between z.2.1 g (up1 (up1 (up1 M 53 (jnS M 2 ((M 2) 2).toNat)) 51 F6) 52 O7) h 0 29 ⟨by omega, by omega⟩ (by decide) (by decide)) gX9_of_X9_between rfl (by decide +kernel) rfl (by decide) [] rfl (Nat.le_of_ble_eq_true rfl) dX9_of_16 (fun v25 M26 hp24 => ?_)
    rcases hp24 with ⟨rfl, rfl, h27⟩ | ⟨rfl, rfl, h28⟩
    · skip
      show V z g 4 (up1 (up1 (up1 M 53 (jnS M 2 ((M 2) 2).toNat)) 51 F6) 52 O7) [(3, rf g 53), (0, rf g 0), (1, iv s), (2, iv h)] [iv 1] 19
      refine v_if_ne (tgt := 24) ok (by decide) dX9_of_19 (by decide) (fun c29 => ?_) (fun c29 => absurd c29 (by decide))
      refine v_aload_n ok 0 dX9_of_24 rfl rfl ?_
      refine v_iload_n ok 3 dX9_of_25 rfl rfl ?_
      refine v_iald (n := 30) (f0 := (jnS M 2 ((M 2) 2).toNat)) ok (by decide) rfl (by omega) rfl dX9_of_26 ?_
      exact v_iret ok rt dX9_of_27 (Or.inr (Or.inr (Or.inr (Or.inr (⟨F6, O7, (congrArg (fun q : Int => some (iv q)) (show ((jnS M 2 ((M 2) 2).toNat) h) = ((jnS M 2 (M 2 2).toNat) h) from by rfl)), (by
            funext j
            by_cases hj0 : j = 53
            · subst hj0; simp [up1, up1_self]
            by_cases hj1 : j = 51
            · subst hj1; simp [up1, up1_self]
            by_cases hj2 : j = 52
            · subst hj2; simp [up1, up1_self]
            simp [up1, hj0, hj1, hj2]), (by omega), (by omega)⟩)))))
    · skip
      show V z g 4 (up1 (up1 (up1 M 53 (jnS M 2 ((M 2) 2).toNat)) 51 F6) 52 O7) [(3, rf g 53), (0, rf g 0), (1, iv s), (2, iv h)] [iv 0] 19
      refine v_if_ne (tgt := 24) ok (by decide) dX9_of_19 (by decide) (fun c30 => absurd c30 (by decide)) (fun c30 => ?_)
      refine v_iconst (n := -1) ok dX9_of_22 ?_
      exact v_iret ok rt dX9_of_23 (Or.inr (Or.inl (⟨F6, O7, rfl, (by
            funext j
            by_cases hj0 : j = 53
            · subst hj0; simp [up1, up1_self]
            by_cases hj1 : j = 51
            · subst hj1; simp [up1, up1_self]
            by_cases hj2 : j = 52
            · subst hj2; simp [up1, up1_self]
            simp [up1, hj0, hj1, hj2]), (by omega), (by omega)⟩)))
  · skip
    subst M3
    show V z g 4 M [(0, rf g 0), (1, iv s), (2, iv h)] [Value.null] 5
    refine v_astore_nN ok [(3, Value.null), (0, rf g 0), (1, iv s), (2, iv h)] dX9_of_5 rfl (by decide) rfl ?_
    refine v_aload_nN ok 0 dX9_of_6 rfl rfl ?_
    refine v_ifnullN (tgt := 22) ok dX9_of_7 (by decide) ?_
    refine v_iconst (n := -1) ok dX9_of_22 ?_
    exact v_iret ok rt dX9_of_23 (Or.inl (⟨rfl, rfl, (by omega)⟩))

theorem mk_X9_told_12 : Cond.fieldLink RX9 12 "StormRunoff" "now" "LStormRunoff$State;" ∈ wsX9_told := by decide +kernel
theorem mi_X9_told_9 : ∀ w ∈ wsX90, w ∈ wsX9_told := by decide +kernel
theorem mk_X9_told_67 : Cond.fieldLink RX9 67 "StormRunoff$State" "site" "LStormRunoff$Site;" ∈ wsX9_told := by decide +kernel
theorem mi_X9_told_7 : ∀ w ∈ wsX70, w ∈ wsX9_told := by decide +kernel
theorem mk_X9_told_87 : Cond.fieldLink RX9 87 "StormRunoff$Site" "basins" "[LStormRunoff$Basin;" ∈ wsX9_told := by decide +kernel
theorem mi_X9_told_6 : ∀ w ∈ wsX60, w ∈ wsX9_told := by decide +kernel
theorem mk_X9_told_140 : Cond.fieldLink RX9 140 "StormRunoff$Basin" "places" "I" ∈ wsX9_told := by decide +kernel
theorem mi_X9_told_0 : ∀ w ∈ wsX00, w ∈ wsX9_told := by decide +kernel
theorem mk_X9_told_101 : Cond.fieldLink RX9 101 "StormRunoff$Basin" "kind" "I" ∈ wsX9_told := by decide +kernel
theorem mk_X9_told_104 : Cond.fieldLink RX9 104 "StormRunoff$Basin" "number" "I" ∈ wsX9_told := by decide +kernel
theorem mk_X9_told_35 : Cond.fieldLink RX9 35 "StormRunoff" "course" "LStormRunoff$Course;" ∈ wsX9_told := by decide +kernel
theorem mk_X9_told_70 : Cond.fieldLink RX9 70 "StormRunoff$Site" "rain" "[I" ∈ wsX9_told := by decide +kernel
theorem mk_X9_told_146 : Cond.fieldLink RX9 146 "StormRunoff$Basin" "answer" "[I" ∈ wsX9_told := by decide +kernel
set_option maxRecDepth 100000 in
set_option maxHeartbeats 400000 in
theorem ct_X9_told (l : Launch) (g : Gl) (M : Mem) (b w : Int) (hb : i32 b) (hw : i32 w) (hs : SiteOk M 2) : Ct l g yX9_told wsX9_told 4 88 [rf g 0, iv b, iv w] M (fun rv M' => (rv = some (iv (-1)) ∧ M' = M ∧ (¬ (0 ≤ b ∧ b < M 2 2) ∨ ¬ (-1 ≤ w ∧ w ≤ 7))) ∨ (rv = some (iv (M (basQ b) 1)) ∧ M' = M ∧ (0 ≤ b ∧ b < M 2 2) ∧ (w = -1)) ∨ (rv = some (iv (M (basQ b) 2)) ∧ M' = M ∧ (0 ≤ b ∧ b < M 2 2) ∧ (w = 5)) ∨ (rv = some (iv (M (basQ b) 3)) ∧ M' = M ∧ (0 ≤ b ∧ b < M 2 2) ∧ (w = 6)) ∨ (rv = some (iv (sto (M (basQ b) 2) (M (basQ b) 3) (fl (M 3) (M (basQ b + 1)) 8) 30)) ∧ M' = (up1 (up1 M 51 (fl (M 3) (M (basQ b + 1)) 8)) 52 (otp (M (basQ b) 2) (M (basQ b) 3) (fl (M 3) (M (basQ b + 1)) 8))) ∧ (0 ≤ b ∧ b < M 2 2) ∧ (w = 7)) ∨ (rv = some (iv (M (basQ b + 1) w)) ∧ M' = M ∧ (0 ≤ b ∧ b < M 2 2) ∧ (0 ≤ w ∧ w ≤ 4))) := by
  refine Ct.of (cc := cX9_told) (nL := 4) (ret := (some .int)) (by decide) rfl (Nat.le_of_ble_eq_true rfl) (fun z hz ok rt => ?_)
  have ok : Ok z g cX9_told 4 RX9 wsX9_told 4 88 := ok
  show V z g 4 M [(0, rf g 0), (1, iv b), (2, iv w)] [] 0
  have hR : bdf (M 3) 8 0 20 := hs.1
  have hm : 0 ≤ M 2 2 ∧ M 2 2 ≤ 3 := hs.2.1
  have hA0 : bdf (M 6) 5 0 9 := hs.2.2.1.1
  have hk0 : 0 ≤ M 5 2 ∧ M 5 2 ≤ 4 := hs.2.2.1.2.2.1
  have hn0 : 0 ≤ M 5 3 ∧ M 5 3 ≤ 9 := hs.2.2.1.2.2.2
  have hA1 : bdf (M 8) 5 0 9 := hs.2.2.2.1.1
  have hk1 : 0 ≤ M 7 2 ∧ M 7 2 ≤ 4 := hs.2.2.2.1.2.2.1
  have hn1 : 0 ≤ M 7 3 ∧ M 7 3 ≤ 9 := hs.2.2.2.1.2.2.2
  have hA2 : bdf (M 10) 5 0 9 := hs.2.2.2.2.1
  have hk2 : 0 ≤ M 9 2 ∧ M 9 2 ≤ 4 := hs.2.2.2.2.2.2.1
  have hn2 : 0 ≤ M 9 3 ∧ M 9 3 ≤ 9 := hs.2.2.2.2.2.2.2
  refine v_aload_n ok 0 dX9_told_0 rfl rfl ?_
  refine v_get (T := TX9) (N := 9) (f0 := (M 0)) (v := rf g 1) ok mi_X9_told_9 (kd_lt (show kd 0 = 9 from rfl) (by decide)) rfl rfl (cellF_9 _ (by decide)) 0 (by decide) mk_X9_told_12 rfl rfl dX9_told_1 ?_
  refine v_get (T := TX7) (N := 5) (f0 := (M 1)) (v := rf g 2) ok mi_X9_told_7 (kd_lt (show kd 1 = 7 from rfl) (by decide)) rfl rfl (cellF_7 _ (by decide)) 0 (by decide) mk_X9_told_67 rfl rfl dX9_told_4 ?_
  refine v_iload_n ok 1 dX9_told_7 rfl rfl ?_
  refine v_callV (na := 1) (i := 2) (C := RX6) (T := TX6) (N := 3) (f0 := (M 2)) ok (ct_X6_has z.2.1 g M 2 b (by decide) ⟨by omega, by omega⟩ hm) gX9_told_X6_has (kd_lt (show kd 2 = 6 from rfl) (by decide)) rfl rfl (cellF_6 _ (by decide)) rfl (by decide +kernel) rfl (by decide) [] rfl (Nat.le_of_ble_eq_true rfl) dX9_told_8 (fun v2 M3 hp1 => ?_)
  rcases hp1 with ⟨rfl, eM3, h4⟩ | ⟨rfl, eM3, h5⟩
  · skip
    subst M3
    have h4 : 0 ≤ b ∧ b < (M 2) 2 := h4
    show V z g 4 M [(0, rf g 0), (1, iv b), (2, iv w)] [iv 1] 11
    refine v_if_eq (tgt := 24) ok (by decide) dX9_told_11 (by decide) (fun c6 => absurd c6 (by decide)) (fun c6 => ?_)
    refine v_iload_n ok 2 dX9_told_14 rfl rfl ?_
    refine v_iconst (n := -1) ok dX9_told_15 ?_
    refine v_bipush (n := 7) ok rfl dX9_told_16 ?_
    refine v_callS (na := 3) ok (ct_X9_between z.2.1 g M w (-1) 7 ⟨by omega, by omega⟩ (by decide) (by decide)) gX9_told_X9_between rfl (by decide +kernel) rfl (by decide) [] rfl (Nat.le_of_ble_eq_true rfl) dX9_told_18 (fun v8 M9 hp7 => ?_)
    rcases hp7 with ⟨rfl, eM9, h10⟩ | ⟨rfl, eM9, h11⟩
    · skip
      subst M9
      show V z g 4 M [(0, rf g 0), (1, iv b), (2, iv w)] [iv 1] 21
      refine v_if_ne (tgt := 26) ok (by decide) dX9_told_21 (by decide) (fun c12 => ?_) (fun c12 => absurd c12 (by decide))
      have hsp26 : b = 0 ∨ b = 1 ∨ b = 2 := by omega
      rcases hsp26 with rfl | rfl | rfl
      · skip
        refine v_aload_n ok 0 dX9_told_26 rfl rfl ?_
        refine v_get (T := TX9) (N := 9) (f0 := (M 0)) (v := rf g 1) ok mi_X9_told_9 (kd_lt (show kd 0 = 9 from rfl) (by decide)) rfl rfl (cellF_9 _ (by decide)) 0 (by decide) mk_X9_told_12 rfl rfl dX9_told_27 ?_
        refine v_get (T := TX7) (N := 5) (f0 := (M 1)) (v := rf g 2) ok mi_X9_told_7 (kd_lt (show kd 1 = 7 from rfl) (by decide)) rfl rfl (cellF_7 _ (by decide)) 0 (by decide) mk_X9_told_67 rfl rfl dX9_told_30 ?_
        refine v_get (T := TX6) (N := 3) (f0 := (M 2)) (v := rf g 4) ok mi_X9_told_6 (kd_lt (show kd 2 = 6 from rfl) (by decide)) rfl rfl (cellF_6 _ (by decide)) 1 (by decide) mk_X9_told_87 rfl rfl dX9_told_33 ?_
        refine v_iload_n ok 1 dX9_told_36 rfl rfl ?_
        refine v_aald13L (q := 5) ok (by decide) (by decide) rfl dX9_told_37 ?_
        refine v_astore_n ok [(3, rf g 5), (0, rf g 0), (1, iv 0), (2, iv w)] dX9_told_38 rfl (by decide) rfl ?_
        refine v_iload_n ok 3 dX9_told_39 rfl rfl ?_
        by_cases e13 : w = -1
        · skip
          refine v_tblIn (off := 52) (tgt := 92) ok ⟨by omega, by omega⟩ (by omega) (by omega) (by rw [e13]; rfl) dX9_told_40 (by decide) ?_
          refine v_aload_n ok 0 dX9_told_92 rfl rfl ?_
          refine v_get (T := TX0) (N := 4) (f0 := (M 5)) (v := iv (M 5 1)) ok mi_X9_told_0 (kd_lt (show kd 5 = 0 from rfl) (by decide)) rfl rfl (cellF_0 _ (by decide)) 1 (by decide) mk_X9_told_140 rfl rfl dX9_told_93 ?_
          exact v_iret ok rt dX9_told_96 (Or.inr (Or.inl (⟨(congrArg (fun q : Int => some (iv q)) (show (M 5 1) = (M (basQ 0) 1) from by rfl)), rfl, (by omega), (by omega)⟩)))
        · skip
          by_cases e14 : w = 5
          · skip
            refine v_tblIn (off := 57) (tgt := 97) ok ⟨by omega, by omega⟩ (by omega) (by omega) (by rw [e14]; rfl) dX9_told_40 (by decide) ?_
            refine v_aload_n ok 0 dX9_told_97 rfl rfl ?_
            refine v_get (T := TX0) (N := 4) (f0 := (M 5)) (v := iv (M 5 2)) ok mi_X9_told_0 (kd_lt (show kd 5 = 0 from rfl) (by decide)) rfl rfl (cellF_0 _ (by decide)) 2 (by decide) mk_X9_told_101 rfl rfl dX9_told_98 ?_
            exact v_iret ok rt dX9_told_101 (Or.inr (Or.inr (Or.inl (⟨(congrArg (fun q : Int => some (iv q)) (show (M 5 2) = (M (basQ 0) 2) from by rfl)), rfl, (by omega), (by omega)⟩))))
          · skip
            by_cases e15 : w = 6
            · skip
              refine v_tblIn (off := 62) (tgt := 102) ok ⟨by omega, by omega⟩ (by omega) (by omega) (by rw [e15]; rfl) dX9_told_40 (by decide) ?_
              refine v_aload_n ok 0 dX9_told_102 rfl rfl ?_
              refine v_get (T := TX0) (N := 4) (f0 := (M 5)) (v := iv (M 5 3)) ok mi_X9_told_0 (kd_lt (show kd 5 = 0 from rfl) (by decide)) rfl rfl (cellF_0 _ (by decide)) 3 (by decide) mk_X9_told_104 rfl rfl dX9_told_103 ?_
              exact v_iret ok rt dX9_told_106 (Or.inr (Or.inr (Or.inr (Or.inl (⟨(congrArg (fun q : Int => some (iv q)) (show (M 5 3) = (M (basQ 0) 3) from by rfl)), rfl, (by omega), (by omega)⟩)))))
            · skip
              by_cases e16 : w = 7
              · skip
                refine v_tblIn (off := 67) (tgt := 107) ok ⟨by omega, by omega⟩ (by omega) (by omega) (by rw [e16]; rfl) dX9_told_40 (by decide) ?_
                refine v_aload_n ok 1 dX9_told_107 rfl rfl ?_
                refine v_get (T := TX9) (N := 9) (f0 := (M 0)) (v := rf g 50) ok mi_X9_told_9 (kd_lt (show kd 0 = 9 from rfl) (by decide)) rfl rfl (cellF_9 _ (by decide)) 4 (by decide) mk_X9_told_35 rfl rfl dX9_told_108 ?_
                refine v_aload_n ok 0 dX9_told_111 rfl rfl ?_
                refine v_aload_n ok 1 dX9_told_112 rfl rfl ?_
                refine v_get (T := TX9) (N := 9) (f0 := (M 0)) (v := rf g 1) ok mi_X9_told_9 (kd_lt (show kd 0 = 9 from rfl) (by decide)) rfl rfl (cellF_9 _ (by decide)) 0 (by decide) mk_X9_told_12 rfl rfl dX9_told_113 ?_
                refine v_get (T := TX7) (N := 5) (f0 := (M 1)) (v := rf g 2) ok mi_X9_told_7 (kd_lt (show kd 1 = 7 from rfl) (by decide)) rfl rfl (cellF_7 _ (by decide)) 0 (by decide) mk_X9_told_67 rfl rfl dX9_told_116 ?_
                refine v_get (T := TX6) (N := 3) (f0 := (M 2)) (v := rf g 3) ok mi_X9_told_6 (kd_lt (show kd 2 = 6 from rfl) (by decide)) rfl rfl (cellF_6 _ (by decide)) 0 (by decide) mk_X9_told_70 rfl rfl dX9_told_119 ?_
                refine v_callV (na := 2) (i := 50) (C := RX1) (T := TX1) (N := 3) (f0 := (M 50)) ok (ct_X1_runOff z.2.1 g M 5 3 (by decide) (by decide) rfl (by first | omega | assumption) (by first | omega | assumption) hR (by assumption)) gX9_told_X1_runOff (kd_lt (show kd 50 = 1 from rfl) (by decide)) rfl rfl (cellF_1 _ (by decide)) rfl (by decide +kernel) rfl (by decide) [] rfl (Nat.le_of_ble_eq_true rfl) dX9_told_122 (fun v18 M19 hp17 => ?_)
                obtain ⟨rfl, rfl⟩ := hp17
                show V z g 4 (up1 (up1 M 51 (fl ((M 3)) ((M 6)) 8)) 52 (otp ((M 5) 2) ((M 5) 3) (fl ((M 3)) ((M 6)) 8))) [(3, rf g 5), (0, rf g 0), (1, iv 0), (2, iv w)] [iv (sto ((M 5) 2) ((M 5) 3) (fl ((M 3)) ((M 6)) 8) 30)] 125
                exact v_iret ok rt dX9_told_125 (Or.inr (Or.inr (Or.inr (Or.inr (Or.inl (⟨(congrArg (fun q : Int => some (iv q)) (show (sto ((M 5) 2) ((M 5) 3) (fl ((M 3)) ((M 6)) 8) 30) = (sto (M (basQ 0) 2) (M (basQ 0) 3) (fl (M 3) (M (basQ 0 + 1)) 8) 30) from by rfl)), rfl, (by omega), (by omega)⟩))))))
              · skip
                suffices hdef : V z g 4 M [(3, rf g 5), (0, rf g 0), (1, iv 0), (2, iv w)] [] 126 by
                  by_cases hlo : w < -1
                  · exact v_tblOut (tgt := 126) ok ⟨by omega, by omega⟩ (Or.inl hlo) dX9_told_40 (by decide) hdef
                  by_cases hhi : 7 < w
                  · exact v_tblOut (tgt := 126) ok ⟨by omega, by omega⟩ (Or.inr hhi) dX9_told_40 (by decide) hdef
                  have hcs : w = 0 ∨ w = 1 ∨ w = 2 ∨ w = 3 ∨ w = 4 := by omega
                  rcases hcs with hk | hk | hk | hk | hk
                  · exact v_tblIn (off := 86) (tgt := 126) ok ⟨by omega, by omega⟩ (by omega) (by omega) (by rw [hk]; rfl) dX9_told_40 (by decide) hdef
                  · exact v_tblIn (off := 86) (tgt := 126) ok ⟨by omega, by omega⟩ (by omega) (by omega) (by rw [hk]; rfl) dX9_told_40 (by decide) hdef
                  · exact v_tblIn (off := 86) (tgt := 126) ok ⟨by omega, by omega⟩ (by omega) (by omega) (by rw [hk]; rfl) dX9_told_40 (by decide) hdef
                  · exact v_tblIn (off := 86) (tgt := 126) ok ⟨by omega, by omega⟩ (by omega) (by omega) (by rw [hk]; rfl) dX9_told_40 (by decide) hdef
                  · exact v_tblIn (off := 86) (tgt := 126) ok ⟨by omega, by omega⟩ (by omega) (by omega) (by rw [hk]; rfl) dX9_told_40 (by decide) hdef
                refine v_iload_n ok 3 dX9_told_126 rfl rfl ?_
                refine v_aload_n ok 0 dX9_told_127 rfl rfl ?_
                refine v_get (T := TX0) (N := 4) (f0 := (M 5)) (v := rf g 6) ok mi_X9_told_0 (kd_lt (show kd 5 = 0 from rfl) (by decide)) rfl rfl (cellF_0 _ (by decide)) 0 (by decide) mk_X9_told_146 rfl rfl dX9_told_128 ?_
                refine v_alen (n := 5) ok (Or.inl (by decide)) rfl dX9_told_131 ?_
                refine v_icmp_ge (tgt := 144) ok ⟨by omega, by omega⟩ (by decide) dX9_told_132 (by decide) (fun c20 => absurd c20 (by omega)) (fun c20 => ?_)
                refine v_aload_n ok 0 dX9_told_135 rfl rfl ?_
                refine v_get (T := TX0) (N := 4) (f0 := (M 5)) (v := rf g 6) ok mi_X9_told_0 (kd_lt (show kd 5 = 0 from rfl) (by decide)) rfl rfl (cellF_0 _ (by decide)) 0 (by decide) mk_X9_told_146 rfl rfl dX9_told_136 ?_
                refine v_iload_n ok 3 dX9_told_139 rfl rfl ?_
                refine v_iald (n := 5) (f0 := (M 6)) ok (by decide) rfl (by omega) rfl dX9_told_140 ?_
                refine v_goto (tgt := 145) ok dX9_told_141 (by decide) ?_
                exact v_iret ok rt dX9_told_145 (Or.inr (Or.inr (Or.inr (Or.inr (Or.inr (⟨(congrArg (fun q : Int => some (iv q)) (show (M 6 w) = (M (basQ 0 + 1) w) from by rfl)), rfl, (by omega), (by omega)⟩))))))
      · skip
        refine v_aload_n ok 0 dX9_told_26 rfl rfl ?_
        refine v_get (T := TX9) (N := 9) (f0 := (M 0)) (v := rf g 1) ok mi_X9_told_9 (kd_lt (show kd 0 = 9 from rfl) (by decide)) rfl rfl (cellF_9 _ (by decide)) 0 (by decide) mk_X9_told_12 rfl rfl dX9_told_27 ?_
        refine v_get (T := TX7) (N := 5) (f0 := (M 1)) (v := rf g 2) ok mi_X9_told_7 (kd_lt (show kd 1 = 7 from rfl) (by decide)) rfl rfl (cellF_7 _ (by decide)) 0 (by decide) mk_X9_told_67 rfl rfl dX9_told_30 ?_
        refine v_get (T := TX6) (N := 3) (f0 := (M 2)) (v := rf g 4) ok mi_X9_told_6 (kd_lt (show kd 2 = 6 from rfl) (by decide)) rfl rfl (cellF_6 _ (by decide)) 1 (by decide) mk_X9_told_87 rfl rfl dX9_told_33 ?_
        refine v_iload_n ok 1 dX9_told_36 rfl rfl ?_
        refine v_aald13L (q := 7) ok (by decide) (by decide) rfl dX9_told_37 ?_
        refine v_astore_n ok [(3, rf g 7), (0, rf g 0), (1, iv 1), (2, iv w)] dX9_told_38 rfl (by decide) rfl ?_
        refine v_iload_n ok 3 dX9_told_39 rfl rfl ?_
        by_cases e21 : w = -1
        · skip
          refine v_tblIn (off := 52) (tgt := 92) ok ⟨by omega, by omega⟩ (by omega) (by omega) (by rw [e21]; rfl) dX9_told_40 (by decide) ?_
          refine v_aload_n ok 0 dX9_told_92 rfl rfl ?_
          refine v_get (T := TX0) (N := 4) (f0 := (M 7)) (v := iv (M 7 1)) ok mi_X9_told_0 (kd_lt (show kd 7 = 0 from rfl) (by decide)) rfl rfl (cellF_0 _ (by decide)) 1 (by decide) mk_X9_told_140 rfl rfl dX9_told_93 ?_
          exact v_iret ok rt dX9_told_96 (Or.inr (Or.inl (⟨(congrArg (fun q : Int => some (iv q)) (show (M 7 1) = (M (basQ 1) 1) from by rfl)), rfl, (by omega), (by omega)⟩)))
        · skip
          by_cases e22 : w = 5
          · skip
            refine v_tblIn (off := 57) (tgt := 97) ok ⟨by omega, by omega⟩ (by omega) (by omega) (by rw [e22]; rfl) dX9_told_40 (by decide) ?_
            refine v_aload_n ok 0 dX9_told_97 rfl rfl ?_
            refine v_get (T := TX0) (N := 4) (f0 := (M 7)) (v := iv (M 7 2)) ok mi_X9_told_0 (kd_lt (show kd 7 = 0 from rfl) (by decide)) rfl rfl (cellF_0 _ (by decide)) 2 (by decide) mk_X9_told_101 rfl rfl dX9_told_98 ?_
            exact v_iret ok rt dX9_told_101 (Or.inr (Or.inr (Or.inl (⟨(congrArg (fun q : Int => some (iv q)) (show (M 7 2) = (M (basQ 1) 2) from by rfl)), rfl, (by omega), (by omega)⟩))))
          · skip
            by_cases e23 : w = 6
            · skip
              refine v_tblIn (off := 62) (tgt := 102) ok ⟨by omega, by omega⟩ (by omega) (by omega) (by rw [e23]; rfl) dX9_told_40 (by decide) ?_
              refine v_aload_n ok 0 dX9_told_102 rfl rfl ?_
              refine v_get (T := TX0) (N := 4) (f0 := (M 7)) (v := iv (M 7 3)) ok mi_X9_told_0 (kd_lt (show kd 7 = 0 from rfl) (by decide)) rfl rfl (cellF_0 _ (by decide)) 3 (by decide) mk_X9_told_104 rfl rfl dX9_told_103 ?_
              exact v_iret ok rt dX9_told_106 (Or.inr (Or.inr (Or.inr (Or.inl (⟨(congrArg (fun q : Int => some (iv q)) (show (M 7 3) = (M (basQ 1) 3) from by rfl)), rfl, (by omega), (by omega)⟩)))))
            · skip
              by_cases e24 : w = 7
              · skip
                refine v_tblIn (off := 67) (tgt := 107) ok ⟨by omega, by omega⟩ (by omega) (by omega) (by rw [e24]; rfl) dX9_told_40 (by decide) ?_
                refine v_aload_n ok 1 dX9_told_107 rfl rfl ?_
                refine v_get (T := TX9) (N := 9) (f0 := (M 0)) (v := rf g 50) ok mi_X9_told_9 (kd_lt (show kd 0 = 9 from rfl) (by decide)) rfl rfl (cellF_9 _ (by decide)) 4 (by decide) mk_X9_told_35 rfl rfl dX9_told_108 ?_
                refine v_aload_n ok 0 dX9_told_111 rfl rfl ?_
                refine v_aload_n ok 1 dX9_told_112 rfl rfl ?_
                refine v_get (T := TX9) (N := 9) (f0 := (M 0)) (v := rf g 1) ok mi_X9_told_9 (kd_lt (show kd 0 = 9 from rfl) (by decide)) rfl rfl (cellF_9 _ (by decide)) 0 (by decide) mk_X9_told_12 rfl rfl dX9_told_113 ?_
                refine v_get (T := TX7) (N := 5) (f0 := (M 1)) (v := rf g 2) ok mi_X9_told_7 (kd_lt (show kd 1 = 7 from rfl) (by decide)) rfl rfl (cellF_7 _ (by decide)) 0 (by decide) mk_X9_told_67 rfl rfl dX9_told_116 ?_
                refine v_get (T := TX6) (N := 3) (f0 := (M 2)) (v := rf g 3) ok mi_X9_told_6 (kd_lt (show kd 2 = 6 from rfl) (by decide)) rfl rfl (cellF_6 _ (by decide)) 0 (by decide) mk_X9_told_70 rfl rfl dX9_told_119 ?_
                refine v_callV (na := 2) (i := 50) (C := RX1) (T := TX1) (N := 3) (f0 := (M 50)) ok (ct_X1_runOff z.2.1 g M 7 3 (by decide) (by decide) rfl (by first | omega | assumption) (by first | omega | assumption) hR (by assumption)) gX9_told_X1_runOff (kd_lt (show kd 50 = 1 from rfl) (by decide)) rfl rfl (cellF_1 _ (by decide)) rfl (by decide +kernel) rfl (by decide) [] rfl (Nat.le_of_ble_eq_true rfl) dX9_told_122 (fun v26 M27 hp25 => ?_)
                obtain ⟨rfl, rfl⟩ := hp25
                show V z g 4 (up1 (up1 M 51 (fl ((M 3)) ((M 8)) 8)) 52 (otp ((M 7) 2) ((M 7) 3) (fl ((M 3)) ((M 8)) 8))) [(3, rf g 7), (0, rf g 0), (1, iv 1), (2, iv w)] [iv (sto ((M 7) 2) ((M 7) 3) (fl ((M 3)) ((M 8)) 8) 30)] 125
                exact v_iret ok rt dX9_told_125 (Or.inr (Or.inr (Or.inr (Or.inr (Or.inl (⟨(congrArg (fun q : Int => some (iv q)) (show (sto ((M 7) 2) ((M 7) 3) (fl ((M 3)) ((M 8)) 8) 30) = (sto (M (basQ 1) 2) (M (basQ 1) 3) (fl (M 3) (M (basQ 1 + 1)) 8) 30) from by rfl)), rfl, (by omega), (by omega)⟩))))))
              · skip
                suffices hdef : V z g 4 M [(3, rf g 7), (0, rf g 0), (1, iv 1), (2, iv w)] [] 126 by
                  by_cases hlo : w < -1
                  · exact v_tblOut (tgt := 126) ok ⟨by omega, by omega⟩ (Or.inl hlo) dX9_told_40 (by decide) hdef
                  by_cases hhi : 7 < w
                  · exact v_tblOut (tgt := 126) ok ⟨by omega, by omega⟩ (Or.inr hhi) dX9_told_40 (by decide) hdef
                  have hcs : w = 0 ∨ w = 1 ∨ w = 2 ∨ w = 3 ∨ w = 4 := by omega
                  rcases hcs with hk | hk | hk | hk | hk
                  · exact v_tblIn (off := 86) (tgt := 126) ok ⟨by omega, by omega⟩ (by omega) (by omega) (by rw [hk]; rfl) dX9_told_40 (by decide) hdef
                  · exact v_tblIn (off := 86) (tgt := 126) ok ⟨by omega, by omega⟩ (by omega) (by omega) (by rw [hk]; rfl) dX9_told_40 (by decide) hdef
                  · exact v_tblIn (off := 86) (tgt := 126) ok ⟨by omega, by omega⟩ (by omega) (by omega) (by rw [hk]; rfl) dX9_told_40 (by decide) hdef
                  · exact v_tblIn (off := 86) (tgt := 126) ok ⟨by omega, by omega⟩ (by omega) (by omega) (by rw [hk]; rfl) dX9_told_40 (by decide) hdef
                  · exact v_tblIn (off := 86) (tgt := 126) ok ⟨by omega, by omega⟩ (by omega) (by omega) (by rw [hk]; rfl) dX9_told_40 (by decide) hdef
                refine v_iload_n ok 3 dX9_told_126 rfl rfl ?_
                refine v_aload_n ok 0 dX9_told_127 rfl rfl ?_
                refine v_get (T := TX0) (N := 4) (f0 := (M 7)) (v := rf g 8) ok mi_X9_told_0 (kd_lt (show kd 7 = 0 from rfl) (by decide)) rfl rfl (cellF_0 _ (by decide)) 0 (by decide) mk_X9_told_146 rfl rfl dX9_told_128 ?_
                refine v_alen (n := 5) ok (Or.inl (by decide)) rfl dX9_told_131 ?_
                refine v_icmp_ge (tgt := 144) ok ⟨by omega, by omega⟩ (by decide) dX9_told_132 (by decide) (fun c28 => absurd c28 (by omega)) (fun c28 => ?_)
                refine v_aload_n ok 0 dX9_told_135 rfl rfl ?_
                refine v_get (T := TX0) (N := 4) (f0 := (M 7)) (v := rf g 8) ok mi_X9_told_0 (kd_lt (show kd 7 = 0 from rfl) (by decide)) rfl rfl (cellF_0 _ (by decide)) 0 (by decide) mk_X9_told_146 rfl rfl dX9_told_136 ?_
                refine v_iload_n ok 3 dX9_told_139 rfl rfl ?_
                refine v_iald (n := 5) (f0 := (M 8)) ok (by decide) rfl (by omega) rfl dX9_told_140 ?_
                refine v_goto (tgt := 145) ok dX9_told_141 (by decide) ?_
                exact v_iret ok rt dX9_told_145 (Or.inr (Or.inr (Or.inr (Or.inr (Or.inr (⟨(congrArg (fun q : Int => some (iv q)) (show (M 8 w) = (M (basQ 1 + 1) w) from by rfl)), rfl, (by omega), (by omega)⟩))))))
      · skip
        refine v_aload_n ok 0 dX9_told_26 rfl rfl ?_
        refine v_get (T := TX9) (N := 9) (f0 := (M 0)) (v := rf g 1) ok mi_X9_told_9 (kd_lt (show kd 0 = 9 from rfl) (by decide)) rfl rfl (cellF_9 _ (by decide)) 0 (by decide) mk_X9_told_12 rfl rfl dX9_told_27 ?_
        refine v_get (T := TX7) (N := 5) (f0 := (M 1)) (v := rf g 2) ok mi_X9_told_7 (kd_lt (show kd 1 = 7 from rfl) (by decide)) rfl rfl (cellF_7 _ (by decide)) 0 (by decide) mk_X9_told_67 rfl rfl dX9_told_30 ?_
        refine v_get (T := TX6) (N := 3) (f0 := (M 2)) (v := rf g 4) ok mi_X9_told_6 (kd_lt (show kd 2 = 6 from rfl) (by decide)) rfl rfl (cellF_6 _ (by decide)) 1 (by decide) mk_X9_told_87 rfl rfl dX9_told_33 ?_
        refine v_iload_n ok 1 dX9_told_36 rfl rfl ?_
        refine v_aald13L (q := 9) ok (by decide) (by decide) rfl dX9_told_37 ?_
        refine v_astore_n ok [(3, rf g 9), (0, rf g 0), (1, iv 2), (2, iv w)] dX9_told_38 rfl (by decide) rfl ?_
        refine v_iload_n ok 3 dX9_told_39 rfl rfl ?_
        by_cases e29 : w = -1
        · skip
          refine v_tblIn (off := 52) (tgt := 92) ok ⟨by omega, by omega⟩ (by omega) (by omega) (by rw [e29]; rfl) dX9_told_40 (by decide) ?_
          refine v_aload_n ok 0 dX9_told_92 rfl rfl ?_
          refine v_get (T := TX0) (N := 4) (f0 := (M 9)) (v := iv (M 9 1)) ok mi_X9_told_0 (kd_lt (show kd 9 = 0 from rfl) (by decide)) rfl rfl (cellF_0 _ (by decide)) 1 (by decide) mk_X9_told_140 rfl rfl dX9_told_93 ?_
          exact v_iret ok rt dX9_told_96 (Or.inr (Or.inl (⟨(congrArg (fun q : Int => some (iv q)) (show (M 9 1) = (M (basQ 2) 1) from by rfl)), rfl, (by omega), (by omega)⟩)))
        · skip
          by_cases e30 : w = 5
          · skip
            refine v_tblIn (off := 57) (tgt := 97) ok ⟨by omega, by omega⟩ (by omega) (by omega) (by rw [e30]; rfl) dX9_told_40 (by decide) ?_
            refine v_aload_n ok 0 dX9_told_97 rfl rfl ?_
            refine v_get (T := TX0) (N := 4) (f0 := (M 9)) (v := iv (M 9 2)) ok mi_X9_told_0 (kd_lt (show kd 9 = 0 from rfl) (by decide)) rfl rfl (cellF_0 _ (by decide)) 2 (by decide) mk_X9_told_101 rfl rfl dX9_told_98 ?_
            exact v_iret ok rt dX9_told_101 (Or.inr (Or.inr (Or.inl (⟨(congrArg (fun q : Int => some (iv q)) (show (M 9 2) = (M (basQ 2) 2) from by rfl)), rfl, (by omega), (by omega)⟩))))
          · skip
            by_cases e31 : w = 6
            · skip
              refine v_tblIn (off := 62) (tgt := 102) ok ⟨by omega, by omega⟩ (by omega) (by omega) (by rw [e31]; rfl) dX9_told_40 (by decide) ?_
              refine v_aload_n ok 0 dX9_told_102 rfl rfl ?_
              refine v_get (T := TX0) (N := 4) (f0 := (M 9)) (v := iv (M 9 3)) ok mi_X9_told_0 (kd_lt (show kd 9 = 0 from rfl) (by decide)) rfl rfl (cellF_0 _ (by decide)) 3 (by decide) mk_X9_told_104 rfl rfl dX9_told_103 ?_
              exact v_iret ok rt dX9_told_106 (Or.inr (Or.inr (Or.inr (Or.inl (⟨(congrArg (fun q : Int => some (iv q)) (show (M 9 3) = (M (basQ 2) 3) from by rfl)), rfl, (by omega), (by omega)⟩)))))
            · skip
              by_cases e32 : w = 7
              · skip
                refine v_tblIn (off := 67) (tgt := 107) ok ⟨by omega, by omega⟩ (by omega) (by omega) (by rw [e32]; rfl) dX9_told_40 (by decide) ?_
                refine v_aload_n ok 1 dX9_told_107 rfl rfl ?_
                refine v_get (T := TX9) (N := 9) (f0 := (M 0)) (v := rf g 50) ok mi_X9_told_9 (kd_lt (show kd 0 = 9 from rfl) (by decide)) rfl rfl (cellF_9 _ (by decide)) 4 (by decide) mk_X9_told_35 rfl rfl dX9_told_108 ?_
                refine v_aload_n ok 0 dX9_told_111 rfl rfl ?_
                refine v_aload_n ok 1 dX9_told_112 rfl rfl ?_
                refine v_get (T := TX9) (N := 9) (f0 := (M 0)) (v := rf g 1) ok mi_X9_told_9 (kd_lt (show kd 0 = 9 from rfl) (by decide)) rfl rfl (cellF_9 _ (by decide)) 0 (by decide) mk_X9_told_12 rfl rfl dX9_told_113 ?_
                refine v_get (T := TX7) (N := 5) (f0 := (M 1)) (v := rf g 2) ok mi_X9_told_7 (kd_lt (show kd 1 = 7 from rfl) (by decide)) rfl rfl (cellF_7 _ (by decide)) 0 (by decide) mk_X9_told_67 rfl rfl dX9_told_116 ?_
                refine v_get (T := TX6) (N := 3) (f0 := (M 2)) (v := rf g 3) ok mi_X9_told_6 (kd_lt (show kd 2 = 6 from rfl) (by decide)) rfl rfl (cellF_6 _ (by decide)) 0 (by decide) mk_X9_told_70 rfl rfl dX9_told_119 ?_
                refine v_callV (na := 2) (i := 50) (C := RX1) (T := TX1) (N := 3) (f0 := (M 50)) ok (ct_X1_runOff z.2.1 g M 9 3 (by decide) (by decide) rfl (by first | omega | assumption) (by first | omega | assumption) hR (by assumption)) gX9_told_X1_runOff (kd_lt (show kd 50 = 1 from rfl) (by decide)) rfl rfl (cellF_1 _ (by decide)) rfl (by decide +kernel) rfl (by decide) [] rfl (Nat.le_of_ble_eq_true rfl) dX9_told_122 (fun v34 M35 hp33 => ?_)
                obtain ⟨rfl, rfl⟩ := hp33
                show V z g 4 (up1 (up1 M 51 (fl ((M 3)) ((M 10)) 8)) 52 (otp ((M 9) 2) ((M 9) 3) (fl ((M 3)) ((M 10)) 8))) [(3, rf g 9), (0, rf g 0), (1, iv 2), (2, iv w)] [iv (sto ((M 9) 2) ((M 9) 3) (fl ((M 3)) ((M 10)) 8) 30)] 125
                exact v_iret ok rt dX9_told_125 (Or.inr (Or.inr (Or.inr (Or.inr (Or.inl (⟨(congrArg (fun q : Int => some (iv q)) (show (sto ((M 9) 2) ((M 9) 3) (fl ((M 3)) ((M 10)) 8) 30) = (sto (M (basQ 2) 2) (M (basQ 2) 3) (fl (M 3) (M (basQ 2 + 1)) 8) 30) from by rfl)), rfl, (by omega), (by omega)⟩))))))
              · skip
                suffices hdef : V z g 4 M [(3, rf g 9), (0, rf g 0), (1, iv 2), (2, iv w)] [] 126 by
                  by_cases hlo : w < -1
                  · exact v_tblOut (tgt := 126) ok ⟨by omega, by omega⟩ (Or.inl hlo) dX9_told_40 (by decide) hdef
                  by_cases hhi : 7 < w
                  · exact v_tblOut (tgt := 126) ok ⟨by omega, by omega⟩ (Or.inr hhi) dX9_told_40 (by decide) hdef
                  have hcs : w = 0 ∨ w = 1 ∨ w = 2 ∨ w = 3 ∨ w = 4 := by omega
                  rcases hcs with hk | hk | hk | hk | hk
                  · exact v_tblIn (off := 86) (tgt := 126) ok ⟨by omega, by omega⟩ (by omega) (by omega) (by rw [hk]; rfl) dX9_told_40 (by decide) hdef
                  · exact v_tblIn (off := 86) (tgt := 126) ok ⟨by omega, by omega⟩ (by omega) (by omega) (by rw [hk]; rfl) dX9_told_40 (by decide) hdef
                  · exact v_tblIn (off := 86) (tgt := 126) ok ⟨by omega, by omega⟩ (by omega) (by omega) (by rw [hk]; rfl) dX9_told_40 (by decide) hdef
                  · exact v_tblIn (off := 86) (tgt := 126) ok ⟨by omega, by omega⟩ (by omega) (by omega) (by rw [hk]; rfl) dX9_told_40 (by decide) hdef
                  · exact v_tblIn (off := 86) (tgt := 126) ok ⟨by omega, by omega⟩ (by omega) (by omega) (by rw [hk]; rfl) dX9_told_40 (by decide) hdef
                refine v_iload_n ok 3 dX9_told_126 rfl rfl ?_
                refine v_aload_n ok 0 dX9_told_127 rfl rfl ?_
                refine v_get (T := TX0) (N := 4) (f0 := (M 9)) (v := rf g 10) ok mi_X9_told_0 (kd_lt (show kd 9 = 0 from rfl) (by decide)) rfl rfl (cellF_0 _ (by decide)) 0 (by decide) mk_X9_told_146 rfl rfl dX9_told_128 ?_
                refine v_alen (n := 5) ok (Or.inl (by decide)) rfl dX9_told_131 ?_
                refine v_icmp_ge (tgt := 144) ok ⟨by omega, by omega⟩ (by decide) dX9_told_132 (by decide) (fun c36 => absurd c36 (by omega)) (fun c36 => ?_)
                refine v_aload_n ok 0 dX9_told_135 rfl rfl ?_
                refine v_get (T := TX0) (N := 4) (f0 := (M 9)) (v := rf g 10) ok mi_X9_told_0 (kd_lt (show kd 9 = 0 from rfl) (by decide)) rfl rfl (cellF_0 _ (by decide)) 0 (by decide) mk_X9_told_146 rfl rfl dX9_told_136 ?_
                refine v_iload_n ok 3 dX9_told_139 rfl rfl ?_
                refine v_iald (n := 5) (f0 := (M 10)) ok (by decide) rfl (by omega) rfl dX9_told_140 ?_
                refine v_goto (tgt := 145) ok dX9_told_141 (by decide) ?_
                exact v_iret ok rt dX9_told_145 (Or.inr (Or.inr (Or.inr (Or.inr (Or.inr (⟨(congrArg (fun q : Int => some (iv q)) (show (M 10 w) = (M (basQ 2 + 1) w) from by rfl)), rfl, (by omega), (by omega)⟩))))))
    · skip
      subst M9
      show V z g 4 M [(0, rf g 0), (1, iv b), (2, iv w)] [iv 0] 21
      refine v_if_ne (tgt := 26) ok (by decide) dX9_told_21 (by decide) (fun c37 => absurd c37 (by decide)) (fun c37 => ?_)
      refine v_iconst (n := -1) ok dX9_told_24 ?_
      exact v_iret ok rt dX9_told_25 (Or.inl (⟨rfl, rfl, (by omega)⟩))
  · skip
    subst M3
    have h5 : ¬ (0 ≤ b ∧ b < (M 2) 2) := h5
    show V z g 4 M [(0, rf g 0), (1, iv b), (2, iv w)] [iv 0] 11
    refine v_if_eq (tgt := 24) ok (by decide) dX9_told_11 (by decide) (fun c38 => ?_) (fun c38 => absurd c38 (by decide))
    refine v_iconst (n := -1) ok dX9_told_24 ?_
    exact v_iret ok rt dX9_told_25 (Or.inl (⟨rfl, rfl, (by omega)⟩))

theorem mk_X9_flow_12 : Cond.fieldLink RX9 12 "StormRunoff" "now" "LStormRunoff$State;" ∈ wsX9_flow := by decide +kernel
theorem mi_X9_flow_9 : ∀ w ∈ wsX90, w ∈ wsX9_flow := by decide +kernel
theorem mk_X9_flow_67 : Cond.fieldLink RX9 67 "StormRunoff$State" "site" "LStormRunoff$Site;" ∈ wsX9_flow := by decide +kernel
theorem mi_X9_flow_7 : ∀ w ∈ wsX70, w ∈ wsX9_flow := by decide +kernel
theorem mk_X9_flow_35 : Cond.fieldLink RX9 35 "StormRunoff" "course" "LStormRunoff$Course;" ∈ wsX9_flow := by decide +kernel
theorem mk_X9_flow_87 : Cond.fieldLink RX9 87 "StormRunoff$Site" "basins" "[LStormRunoff$Basin;" ∈ wsX9_flow := by decide +kernel
theorem mi_X9_flow_6 : ∀ w ∈ wsX60, w ∈ wsX9_flow := by decide +kernel
theorem mk_X9_flow_70 : Cond.fieldLink RX9 70 "StormRunoff$Site" "rain" "[I" ∈ wsX9_flow := by decide +kernel
theorem mk_X9_flow_152 : Cond.fieldLink RX9 152 "StormRunoff$Course" "out" "[I" ∈ wsX9_flow := by decide +kernel
theorem mi_X9_flow_1 : ∀ w ∈ wsX10, w ∈ wsX9_flow := by decide +kernel
theorem mk_X9_flow_149 : Cond.fieldLink RX9 149 "StormRunoff$Course" "flow" "[I" ∈ wsX9_flow := by decide +kernel
set_option maxRecDepth 100000 in
set_option maxHeartbeats 400000 in
theorem ct_X9_flow (l : Launch) (g : Gl) (M : Mem) (s b h : Int) (hsi : i32 s) (hb : i32 b) (hh : i32 h) (hs : SiteOk M 2) : Ct l g yX9_flow wsX9_flow 4 88 [rf g 0, iv s, iv b, iv h] M (fun rv M' => (rv = some (iv (-1)) ∧ M' = M ∧ (¬ (0 ≤ s ∧ s ≤ 1) ∨ ¬ (0 ≤ b ∧ b < M 2 2) ∨ ¬ (0 ≤ h ∧ h ≤ 29))) ∨ (rv = some (iv ((fl (M 3) (M (basQ b + 1)) 8) h)) ∧ M' = (up1 (up1 M 51 (fl (M 3) (M (basQ b + 1)) 8)) 52 (otp (M (basQ b) 2) (M (basQ b) 3) (fl (M 3) (M (basQ b + 1)) 8))) ∧ (s = 0) ∧ (0 ≤ b ∧ b < M 2 2) ∧ (0 ≤ h ∧ h ≤ 29)) ∨ (rv = some (iv ((otp (M (basQ b) 2) (M (basQ b) 3) (fl (M 3) (M (basQ b + 1)) 8)) h)) ∧ M' = (up1 (up1 M 51 (fl (M 3) (M (basQ b + 1)) 8)) 52 (otp (M (basQ b) 2) (M (basQ b) 3) (fl (M 3) (M (basQ b + 1)) 8))) ∧ (s = 1) ∧ (0 ≤ b ∧ b < M 2 2) ∧ (0 ≤ h ∧ h ≤ 29))) := by
  refine Ct.of (cc := cX9_flow) (nL := 4) (ret := (some .int)) (by decide) rfl (Nat.le_of_ble_eq_true rfl) (fun z hz ok rt => ?_)
  have ok : Ok z g cX9_flow 4 RX9 wsX9_flow 4 88 := ok
  show V z g 4 M [(0, rf g 0), (1, iv s), (2, iv b), (3, iv h)] [] 0
  have hR : bdf (M 3) 8 0 20 := hs.1
  have hm : 0 ≤ M 2 2 ∧ M 2 2 ≤ 3 := hs.2.1
  have hA0 : bdf (M 6) 5 0 9 := hs.2.2.1.1
  have hk0 : 0 ≤ M 5 2 ∧ M 5 2 ≤ 4 := hs.2.2.1.2.2.1
  have hn0 : 0 ≤ M 5 3 ∧ M 5 3 ≤ 9 := hs.2.2.1.2.2.2
  have hA1 : bdf (M 8) 5 0 9 := hs.2.2.2.1.1
  have hk1 : 0 ≤ M 7 2 ∧ M 7 2 ≤ 4 := hs.2.2.2.1.2.2.1
  have hn1 : 0 ≤ M 7 3 ∧ M 7 3 ≤ 9 := hs.2.2.2.1.2.2.2
  have hA2 : bdf (M 10) 5 0 9 := hs.2.2.2.2.1
  have hk2 : 0 ≤ M 9 2 ∧ M 9 2 ≤ 4 := hs.2.2.2.2.2.2.1
  have hn2 : 0 ≤ M 9 3 ∧ M 9 3 ≤ 9 := hs.2.2.2.2.2.2.2
  refine v_iload_n ok 1 dX9_flow_0 rfl rfl ?_
  refine v_iconst (n := 0) ok dX9_flow_1 ?_
  refine v_iconst (n := 1) ok dX9_flow_2 ?_
  refine v_callS (na := 3) ok (ct_X9_between z.2.1 g M s 0 1 ⟨by omega, by omega⟩ (by decide) (by decide)) gX9_flow_X9_between rfl (by decide +kernel) rfl (by decide) [] rfl (Nat.le_of_ble_eq_true rfl) dX9_flow_3 (fun v2 M3 hp1 => ?_)
  rcases hp1 with ⟨rfl, eM3, h4⟩ | ⟨rfl, eM3, h5⟩
  · skip
    subst M3
    show V z g 4 M [(0, rf g 0), (1, iv s), (2, iv b), (3, iv h)] [iv 1] 6
    refine v_if_eq (tgt := 33) ok (by decide) dX9_flow_6 (by decide) (fun c6 => absurd c6 (by decide)) (fun c6 => ?_)
    refine v_aload_n ok 0 dX9_flow_9 rfl rfl ?_
    refine v_get (T := TX9) (N := 9) (f0 := (M 0)) (v := rf g 1) ok mi_X9_flow_9 (kd_lt (show kd 0 = 9 from rfl) (by decide)) rfl rfl (cellF_9 _ (by decide)) 0 (by decide) mk_X9_flow_12 rfl rfl dX9_flow_10 ?_
    refine v_get (T := TX7) (N := 5) (f0 := (M 1)) (v := rf g 2) ok mi_X9_flow_7 (kd_lt (show kd 1 = 7 from rfl) (by decide)) rfl rfl (cellF_7 _ (by decide)) 0 (by decide) mk_X9_flow_67 rfl rfl dX9_flow_13 ?_
    refine v_iload_n ok 2 dX9_flow_16 rfl rfl ?_
    refine v_callV (na := 1) (i := 2) (C := RX6) (T := TX6) (N := 3) (f0 := (M 2)) ok (ct_X6_has z.2.1 g M 2 b (by decide) ⟨by omega, by omega⟩ hm) gX9_flow_X6_has (kd_lt (show kd 2 = 6 from rfl) (by decide)) rfl rfl (cellF_6 _ (by decide)) rfl (by decide +kernel) rfl (by decide) [] rfl (Nat.le_of_ble_eq_true rfl) dX9_flow_17 (fun v8 M9 hp7 => ?_)
    rcases hp7 with ⟨rfl, eM9, h10⟩ | ⟨rfl, eM9, h11⟩
    · skip
      subst M9
      have h10 : 0 ≤ b ∧ b < (M 2) 2 := h10
      show V z g 4 M [(0, rf g 0), (1, iv s), (2, iv b), (3, iv h)] [iv 1] 20
      refine v_if_eq (tgt := 33) ok (by decide) dX9_flow_20 (by decide) (fun c12 => absurd c12 (by decide)) (fun c12 => ?_)
      refine v_iload_n ok 3 dX9_flow_23 rfl rfl ?_
      refine v_iconst (n := 0) ok dX9_flow_24 ?_
      refine v_bipush (n := 29) ok rfl dX9_flow_25 ?_
      refine v_callS (na := 3) ok (ct_X9_between z.2.1 g M h 0 29 ⟨by omega, by omega⟩ (by decide) (by decide)) gX9_flow_X9_between rfl (by decide +kernel) rfl (by decide) [] rfl (Nat.le_of_ble_eq_true rfl) dX9_flow_27 (fun v14 M15 hp13 => ?_)
      rcases hp13 with ⟨rfl, eM15, h16⟩ | ⟨rfl, eM15, h17⟩
      · skip
        subst M15
        show V z g 4 M [(0, rf g 0), (1, iv s), (2, iv b), (3, iv h)] [iv 1] 30
        refine v_if_ne (tgt := 35) ok (by decide) dX9_flow_30 (by decide) (fun c18 => ?_) (fun c18 => absurd c18 (by decide))
        have hsp35 : b = 0 ∨ b = 1 ∨ b = 2 := by omega
        rcases hsp35 with rfl | rfl | rfl
        · skip
          refine v_aload_n ok 0 dX9_flow_35 rfl rfl ?_
          refine v_get (T := TX9) (N := 9) (f0 := (M 0)) (v := rf g 50) ok mi_X9_flow_9 (kd_lt (show kd 0 = 9 from rfl) (by decide)) rfl rfl (cellF_9 _ (by decide)) 4 (by decide) mk_X9_flow_35 rfl rfl dX9_flow_36 ?_
          refine v_aload_n ok 0 dX9_flow_39 rfl rfl ?_
          refine v_get (T := TX9) (N := 9) (f0 := (M 0)) (v := rf g 1) ok mi_X9_flow_9 (kd_lt (show kd 0 = 9 from rfl) (by decide)) rfl rfl (cellF_9 _ (by decide)) 0 (by decide) mk_X9_flow_12 rfl rfl dX9_flow_40 ?_
          refine v_get (T := TX7) (N := 5) (f0 := (M 1)) (v := rf g 2) ok mi_X9_flow_7 (kd_lt (show kd 1 = 7 from rfl) (by decide)) rfl rfl (cellF_7 _ (by decide)) 0 (by decide) mk_X9_flow_67 rfl rfl dX9_flow_43 ?_
          refine v_get (T := TX6) (N := 3) (f0 := (M 2)) (v := rf g 4) ok mi_X9_flow_6 (kd_lt (show kd 2 = 6 from rfl) (by decide)) rfl rfl (cellF_6 _ (by decide)) 1 (by decide) mk_X9_flow_87 rfl rfl dX9_flow_46 ?_
          refine v_iload_n ok 2 dX9_flow_49 rfl rfl ?_
          refine v_aald13L (q := 5) ok (by decide) (by decide) rfl dX9_flow_50 ?_
          refine v_aload_n ok 0 dX9_flow_51 rfl rfl ?_
          refine v_get (T := TX9) (N := 9) (f0 := (M 0)) (v := rf g 1) ok mi_X9_flow_9 (kd_lt (show kd 0 = 9 from rfl) (by decide)) rfl rfl (cellF_9 _ (by decide)) 0 (by decide) mk_X9_flow_12 rfl rfl dX9_flow_52 ?_
          refine v_get (T := TX7) (N := 5) (f0 := (M 1)) (v := rf g 2) ok mi_X9_flow_7 (kd_lt (show kd 1 = 7 from rfl) (by decide)) rfl rfl (cellF_7 _ (by decide)) 0 (by decide) mk_X9_flow_67 rfl rfl dX9_flow_55 ?_
          refine v_get (T := TX6) (N := 3) (f0 := (M 2)) (v := rf g 3) ok mi_X9_flow_6 (kd_lt (show kd 2 = 6 from rfl) (by decide)) rfl rfl (cellF_6 _ (by decide)) 0 (by decide) mk_X9_flow_70 rfl rfl dX9_flow_58 ?_
          refine v_callV (na := 2) (i := 50) (C := RX1) (T := TX1) (N := 3) (f0 := (M 50)) ok (ct_X1_runOff z.2.1 g M 5 3 (by decide) (by decide) rfl (by first | omega | assumption) (by first | omega | assumption) hR (by assumption)) gX9_flow_X1_runOff (kd_lt (show kd 50 = 1 from rfl) (by decide)) rfl rfl (cellF_1 _ (by decide)) rfl (by decide +kernel) rfl (by decide) [] rfl (Nat.le_of_ble_eq_true rfl) dX9_flow_61 (fun v20 M21 hp19 => ?_)
          obtain ⟨rfl, rfl⟩ := hp19
          show V z g 4 (up1 (up1 M 51 (fl ((M 3)) ((M 6)) 8)) 52 (otp ((M 5) 2) ((M 5) 3) (fl ((M 3)) ((M 6)) 8))) [(0, rf g 0), (1, iv s), (2, iv 0), (3, iv h)] [iv (sto ((M 5) 2) ((M 5) 3) (fl ((M 3)) ((M 6)) 8) 30)] 64
          refine v_pop ok rfl dX9_flow_64 ?_
          refine v_iload_n ok 1 dX9_flow_65 rfl rfl ?_
          refine v_if_ne (tgt := 81) ok ⟨by omega, by omega⟩ dX9_flow_66 (by decide) (fun c22 => ?_) (fun c22 => ?_)
          · skip
            refine v_aload_n ok 0 dX9_flow_81 rfl rfl ?_
            refine v_get (T := TX9) (N := 9) (f0 := (M 0)) (v := rf g 50) ok mi_X9_flow_9 (kd_lt (show kd 0 = 9 from rfl) (by decide)) rfl rfl (cellF_9 _ (by decide)) 4 (by decide) mk_X9_flow_35 rfl rfl dX9_flow_82 ?_
            refine v_get (T := TX1) (N := 3) (f0 := (M 50)) (v := rf g 52) ok mi_X9_flow_1 (kd_lt (show kd 50 = 1 from rfl) (by decide)) rfl rfl (cellF_1 _ (by decide)) 1 (by decide) mk_X9_flow_152 rfl rfl dX9_flow_85 ?_
            refine v_iload_n ok 3 dX9_flow_88 rfl rfl ?_
            refine v_iald (n := 30) (f0 := (otp ((M 5) 2) ((M 5) 3) (fl ((M 3)) ((M 6)) 8))) ok (by decide) rfl (by omega) rfl dX9_flow_89 ?_
            exact v_iret ok rt dX9_flow_90 (Or.inr (Or.inr (⟨(congrArg (fun q : Int => some (iv q)) (show ((otp ((M 5) 2) ((M 5) 3) (fl ((M 3)) ((M 6)) 8)) h) = ((otp (M (basQ 0) 2) (M (basQ 0) 3) (fl (M 3) (M (basQ 0 + 1)) 8)) h) from by rfl)), rfl, (by omega), (by omega), (by omega)⟩)))
          · skip
            refine v_aload_n ok 0 dX9_flow_69 rfl rfl ?_
            refine v_get (T := TX9) (N := 9) (f0 := (M 0)) (v := rf g 50) ok mi_X9_flow_9 (kd_lt (show kd 0 = 9 from rfl) (by decide)) rfl rfl (cellF_9 _ (by decide)) 4 (by decide) mk_X9_flow_35 rfl rfl dX9_flow_70 ?_
            refine v_get (T := TX1) (N := 3) (f0 := (M 50)) (v := rf g 51) ok mi_X9_flow_1 (kd_lt (show kd 50 = 1 from rfl) (by decide)) rfl rfl (cellF_1 _ (by decide)) 0 (by decide) mk_X9_flow_149 rfl rfl dX9_flow_73 ?_
            refine v_iload_n ok 3 dX9_flow_76 rfl rfl ?_
            refine v_iald (n := 30) (f0 := (fl ((M 3)) ((M 6)) 8)) ok (by decide) rfl (by omega) rfl dX9_flow_77 ?_
            refine v_goto (tgt := 90) ok dX9_flow_78 (by decide) ?_
            exact v_iret ok rt dX9_flow_90 (Or.inr (Or.inl (⟨(congrArg (fun q : Int => some (iv q)) (show ((fl ((M 3)) ((M 6)) 8) h) = ((fl (M 3) (M (basQ 0 + 1)) 8) h) from by rfl)), rfl, (by omega), (by omega), (by omega)⟩)))
        · skip
          refine v_aload_n ok 0 dX9_flow_35 rfl rfl ?_
          refine v_get (T := TX9) (N := 9) (f0 := (M 0)) (v := rf g 50) ok mi_X9_flow_9 (kd_lt (show kd 0 = 9 from rfl) (by decide)) rfl rfl (cellF_9 _ (by decide)) 4 (by decide) mk_X9_flow_35 rfl rfl dX9_flow_36 ?_
          refine v_aload_n ok 0 dX9_flow_39 rfl rfl ?_
          refine v_get (T := TX9) (N := 9) (f0 := (M 0)) (v := rf g 1) ok mi_X9_flow_9 (kd_lt (show kd 0 = 9 from rfl) (by decide)) rfl rfl (cellF_9 _ (by decide)) 0 (by decide) mk_X9_flow_12 rfl rfl dX9_flow_40 ?_
          refine v_get (T := TX7) (N := 5) (f0 := (M 1)) (v := rf g 2) ok mi_X9_flow_7 (kd_lt (show kd 1 = 7 from rfl) (by decide)) rfl rfl (cellF_7 _ (by decide)) 0 (by decide) mk_X9_flow_67 rfl rfl dX9_flow_43 ?_
          refine v_get (T := TX6) (N := 3) (f0 := (M 2)) (v := rf g 4) ok mi_X9_flow_6 (kd_lt (show kd 2 = 6 from rfl) (by decide)) rfl rfl (cellF_6 _ (by decide)) 1 (by decide) mk_X9_flow_87 rfl rfl dX9_flow_46 ?_
          refine v_iload_n ok 2 dX9_flow_49 rfl rfl ?_
          refine v_aald13L (q := 7) ok (by decide) (by decide) rfl dX9_flow_50 ?_
          refine v_aload_n ok 0 dX9_flow_51 rfl rfl ?_
          refine v_get (T := TX9) (N := 9) (f0 := (M 0)) (v := rf g 1) ok mi_X9_flow_9 (kd_lt (show kd 0 = 9 from rfl) (by decide)) rfl rfl (cellF_9 _ (by decide)) 0 (by decide) mk_X9_flow_12 rfl rfl dX9_flow_52 ?_
          refine v_get (T := TX7) (N := 5) (f0 := (M 1)) (v := rf g 2) ok mi_X9_flow_7 (kd_lt (show kd 1 = 7 from rfl) (by decide)) rfl rfl (cellF_7 _ (by decide)) 0 (by decide) mk_X9_flow_67 rfl rfl dX9_flow_55 ?_
          refine v_get (T := TX6) (N := 3) (f0 := (M 2)) (v := rf g 3) ok mi_X9_flow_6 (kd_lt (show kd 2 = 6 from rfl) (by decide)) rfl rfl (cellF_6 _ (by decide)) 0 (by decide) mk_X9_flow_70 rfl rfl dX9_flow_58 ?_
          refine v_callV (na := 2) (i := 50) (C := RX1) (T := TX1) (N := 3) (f0 := (M 50)) ok (ct_X1_runOff z.2.1 g M 7 3 (by decide) (by decide) rfl (by first | omega | assumption) (by first | omega | assumption) hR (by assumption)) gX9_flow_X1_runOff (kd_lt (show kd 50 = 1 from rfl) (by decide)) rfl rfl (cellF_1 _ (by decide)) rfl (by decide +kernel) rfl (by decide) [] rfl (Nat.le_of_ble_eq_true rfl) dX9_flow_61 (fun v24 M25 hp23 => ?_)
          obtain ⟨rfl, rfl⟩ := hp23
          show V z g 4 (up1 (up1 M 51 (fl ((M 3)) ((M 8)) 8)) 52 (otp ((M 7) 2) ((M 7) 3) (fl ((M 3)) ((M 8)) 8))) [(0, rf g 0), (1, iv s), (2, iv 1), (3, iv h)] [iv (sto ((M 7) 2) ((M 7) 3) (fl ((M 3)) ((M 8)) 8) 30)] 64
          refine v_pop ok rfl dX9_flow_64 ?_
          refine v_iload_n ok 1 dX9_flow_65 rfl rfl ?_
          refine v_if_ne (tgt := 81) ok ⟨by omega, by omega⟩ dX9_flow_66 (by decide) (fun c26 => ?_) (fun c26 => ?_)
          · skip
            refine v_aload_n ok 0 dX9_flow_81 rfl rfl ?_
            refine v_get (T := TX9) (N := 9) (f0 := (M 0)) (v := rf g 50) ok mi_X9_flow_9 (kd_lt (show kd 0 = 9 from rfl) (by decide)) rfl rfl (cellF_9 _ (by decide)) 4 (by decide) mk_X9_flow_35 rfl rfl dX9_flow_82 ?_
            refine v_get (T := TX1) (N := 3) (f0 := (M 50)) (v := rf g 52) ok mi_X9_flow_1 (kd_lt (show kd 50 = 1 from rfl) (by decide)) rfl rfl (cellF_1 _ (by decide)) 1 (by decide) mk_X9_flow_152 rfl rfl dX9_flow_85 ?_
            refine v_iload_n ok 3 dX9_flow_88 rfl rfl ?_
            refine v_iald (n := 30) (f0 := (otp ((M 7) 2) ((M 7) 3) (fl ((M 3)) ((M 8)) 8))) ok (by decide) rfl (by omega) rfl dX9_flow_89 ?_
            exact v_iret ok rt dX9_flow_90 (Or.inr (Or.inr (⟨(congrArg (fun q : Int => some (iv q)) (show ((otp ((M 7) 2) ((M 7) 3) (fl ((M 3)) ((M 8)) 8)) h) = ((otp (M (basQ 1) 2) (M (basQ 1) 3) (fl (M 3) (M (basQ 1 + 1)) 8)) h) from by rfl)), rfl, (by omega), (by omega), (by omega)⟩)))
          · skip
            refine v_aload_n ok 0 dX9_flow_69 rfl rfl ?_
            refine v_get (T := TX9) (N := 9) (f0 := (M 0)) (v := rf g 50) ok mi_X9_flow_9 (kd_lt (show kd 0 = 9 from rfl) (by decide)) rfl rfl (cellF_9 _ (by decide)) 4 (by decide) mk_X9_flow_35 rfl rfl dX9_flow_70 ?_
            refine v_get (T := TX1) (N := 3) (f0 := (M 50)) (v := rf g 51) ok mi_X9_flow_1 (kd_lt (show kd 50 = 1 from rfl) (by decide)) rfl rfl (cellF_1 _ (by decide)) 0 (by decide) mk_X9_flow_149 rfl rfl dX9_flow_73 ?_
            refine v_iload_n ok 3 dX9_flow_76 rfl rfl ?_
            refine v_iald (n := 30) (f0 := (fl ((M 3)) ((M 8)) 8)) ok (by decide) rfl (by omega) rfl dX9_flow_77 ?_
            refine v_goto (tgt := 90) ok dX9_flow_78 (by decide) ?_
            exact v_iret ok rt dX9_flow_90 (Or.inr (Or.inl (⟨(congrArg (fun q : Int => some (iv q)) (show ((fl ((M 3)) ((M 8)) 8) h) = ((fl (M 3) (M (basQ 1 + 1)) 8) h) from by rfl)), rfl, (by omega), (by omega), (by omega)⟩)))
        · skip
          refine v_aload_n ok 0 dX9_flow_35 rfl rfl ?_
          refine v_get (T := TX9) (N := 9) (f0 := (M 0)) (v := rf g 50) ok mi_X9_flow_9 (kd_lt (show kd 0 = 9 from rfl) (by decide)) rfl rfl (cellF_9 _ (by decide)) 4 (by decide) mk_X9_flow_35 rfl rfl dX9_flow_36 ?_
          refine v_aload_n ok 0 dX9_flow_39 rfl rfl ?_
          refine v_get (T := TX9) (N := 9) (f0 := (M 0)) (v := rf g 1) ok mi_X9_flow_9 (kd_lt (show kd 0 = 9 from rfl) (by decide)) rfl rfl (cellF_9 _ (by decide)) 0 (by decide) mk_X9_flow_12 rfl rfl dX9_flow_40 ?_
          refine v_get (T := TX7) (N := 5) (f0 := (M 1)) (v := rf g 2) ok mi_X9_flow_7 (kd_lt (show kd 1 = 7 from rfl) (by decide)) rfl rfl (cellF_7 _ (by decide)) 0 (by decide) mk_X9_flow_67 rfl rfl dX9_flow_43 ?_
          refine v_get (T := TX6) (N := 3) (f0 := (M 2)) (v := rf g 4) ok mi_X9_flow_6 (kd_lt (show kd 2 = 6 from rfl) (by decide)) rfl rfl (cellF_6 _ (by decide)) 1 (by decide) mk_X9_flow_87 rfl rfl dX9_flow_46 ?_
          refine v_iload_n ok 2 dX9_flow_49 rfl rfl ?_
          refine v_aald13L (q := 9) ok (by decide) (by decide) rfl dX9_flow_50 ?_
          refine v_aload_n ok 0 dX9_flow_51 rfl rfl ?_
          refine v_get (T := TX9) (N := 9) (f0 := (M 0)) (v := rf g 1) ok mi_X9_flow_9 (kd_lt (show kd 0 = 9 from rfl) (by decide)) rfl rfl (cellF_9 _ (by decide)) 0 (by decide) mk_X9_flow_12 rfl rfl dX9_flow_52 ?_
          refine v_get (T := TX7) (N := 5) (f0 := (M 1)) (v := rf g 2) ok mi_X9_flow_7 (kd_lt (show kd 1 = 7 from rfl) (by decide)) rfl rfl (cellF_7 _ (by decide)) 0 (by decide) mk_X9_flow_67 rfl rfl dX9_flow_55 ?_
          refine v_get (T := TX6) (N := 3) (f0 := (M 2)) (v := rf g 3) ok mi_X9_flow_6 (kd_lt (show kd 2 = 6 from rfl) (by decide)) rfl rfl (cellF_6 _ (by decide)) 0 (by decide) mk_X9_flow_70 rfl rfl dX9_flow_58 ?_
          refine v_callV (na := 2) (i := 50) (C := RX1) (T := TX1) (N := 3) (f0 := (M 50)) ok (ct_X1_runOff z.2.1 g M 9 3 (by decide) (by decide) rfl (by first | omega | assumption) (by first | omega | assumption) hR (by assumption)) gX9_flow_X1_runOff (kd_lt (show kd 50 = 1 from rfl) (by decide)) rfl rfl (cellF_1 _ (by decide)) rfl (by decide +kernel) rfl (by decide) [] rfl (Nat.le_of_ble_eq_true rfl) dX9_flow_61 (fun v28 M29 hp27 => ?_)
          obtain ⟨rfl, rfl⟩ := hp27
          show V z g 4 (up1 (up1 M 51 (fl ((M 3)) ((M 10)) 8)) 52 (otp ((M 9) 2) ((M 9) 3) (fl ((M 3)) ((M 10)) 8))) [(0, rf g 0), (1, iv s), (2, iv 2), (3, iv h)] [iv (sto ((M 9) 2) ((M 9) 3) (fl ((M 3)) ((M 10)) 8) 30)] 64
          refine v_pop ok rfl dX9_flow_64 ?_
          refine v_iload_n ok 1 dX9_flow_65 rfl rfl ?_
          refine v_if_ne (tgt := 81) ok ⟨by omega, by omega⟩ dX9_flow_66 (by decide) (fun c30 => ?_) (fun c30 => ?_)
          · skip
            refine v_aload_n ok 0 dX9_flow_81 rfl rfl ?_
            refine v_get (T := TX9) (N := 9) (f0 := (M 0)) (v := rf g 50) ok mi_X9_flow_9 (kd_lt (show kd 0 = 9 from rfl) (by decide)) rfl rfl (cellF_9 _ (by decide)) 4 (by decide) mk_X9_flow_35 rfl rfl dX9_flow_82 ?_
            refine v_get (T := TX1) (N := 3) (f0 := (M 50)) (v := rf g 52) ok mi_X9_flow_1 (kd_lt (show kd 50 = 1 from rfl) (by decide)) rfl rfl (cellF_1 _ (by decide)) 1 (by decide) mk_X9_flow_152 rfl rfl dX9_flow_85 ?_
            refine v_iload_n ok 3 dX9_flow_88 rfl rfl ?_
            refine v_iald (n := 30) (f0 := (otp ((M 9) 2) ((M 9) 3) (fl ((M 3)) ((M 10)) 8))) ok (by decide) rfl (by omega) rfl dX9_flow_89 ?_
            exact v_iret ok rt dX9_flow_90 (Or.inr (Or.inr (⟨(congrArg (fun q : Int => some (iv q)) (show ((otp ((M 9) 2) ((M 9) 3) (fl ((M 3)) ((M 10)) 8)) h) = ((otp (M (basQ 2) 2) (M (basQ 2) 3) (fl (M 3) (M (basQ 2 + 1)) 8)) h) from by rfl)), rfl, (by omega), (by omega), (by omega)⟩)))
          · skip
            refine v_aload_n ok 0 dX9_flow_69 rfl rfl ?_
            refine v_get (T := TX9) (N := 9) (f0 := (M 0)) (v := rf g 50) ok mi_X9_flow_9 (kd_lt (show kd 0 = 9 from rfl) (by decide)) rfl rfl (cellF_9 _ (by decide)) 4 (by decide) mk_X9_flow_35 rfl rfl dX9_flow_70 ?_
            refine v_get (T := TX1) (N := 3) (f0 := (M 50)) (v := rf g 51) ok mi_X9_flow_1 (kd_lt (show kd 50 = 1 from rfl) (by decide)) rfl rfl (cellF_1 _ (by decide)) 0 (by decide) mk_X9_flow_149 rfl rfl dX9_flow_73 ?_
            refine v_iload_n ok 3 dX9_flow_76 rfl rfl ?_
            refine v_iald (n := 30) (f0 := (fl ((M 3)) ((M 10)) 8)) ok (by decide) rfl (by omega) rfl dX9_flow_77 ?_
            refine v_goto (tgt := 90) ok dX9_flow_78 (by decide) ?_
            exact v_iret ok rt dX9_flow_90 (Or.inr (Or.inl (⟨(congrArg (fun q : Int => some (iv q)) (show ((fl ((M 3)) ((M 10)) 8) h) = ((fl (M 3) (M (basQ 2 + 1)) 8) h) from by rfl)), rfl, (by omega), (by omega), (by omega)⟩)))
      · skip
        subst M15
        show V z g 4 M [(0, rf g 0), (1, iv s), (2, iv b), (3, iv h)] [iv 0] 30
        refine v_if_ne (tgt := 35) ok (by decide) dX9_flow_30 (by decide) (fun c31 => absurd c31 (by decide)) (fun c31 => ?_)
        refine v_iconst (n := -1) ok dX9_flow_33 ?_
        exact v_iret ok rt dX9_flow_34 (Or.inl (⟨rfl, rfl, (by omega)⟩))
    · skip
      subst M9
      have h11 : ¬ (0 ≤ b ∧ b < (M 2) 2) := h11
      show V z g 4 M [(0, rf g 0), (1, iv s), (2, iv b), (3, iv h)] [iv 0] 20
      refine v_if_eq (tgt := 33) ok (by decide) dX9_flow_20 (by decide) (fun c32 => ?_) (fun c32 => absurd c32 (by decide))
      refine v_iconst (n := -1) ok dX9_flow_33 ?_
      exact v_iret ok rt dX9_flow_34 (Or.inl (⟨rfl, rfl, (by omega)⟩))
  · skip
    subst M3
    show V z g 4 M [(0, rf g 0), (1, iv s), (2, iv b), (3, iv h)] [iv 0] 6
    refine v_if_eq (tgt := 33) ok (by decide) dX9_flow_6 (by decide) (fun c33 => ?_) (fun c33 => absurd c33 (by decide))
    refine v_iconst (n := -1) ok dX9_flow_33 ?_
    exact v_iret ok rt dX9_flow_34 (Or.inl (⟨rfl, rfl, (by omega)⟩))

set_option maxRecDepth 100000 in
set_option maxHeartbeats 400000 in
theorem ct_X9_row (l : Launch) (g : Gl) (M : Mem) (s w : Int) (hsi : i32 s) (hw : i32 w) (hs : SiteOk M 2) (hT : bdf (M 11) 12 0 999) : Ct l g yX9_row wsX9_row 6 132 [rf g 0, iv s, iv w] M (fun rv M' => (rv = some (iv (-1)) ∧ M' = M ∧ ((0 ≤ s ∧ s ≤ 1 ∧ ¬ (0 ≤ w ∧ w ≤ 2)) ∨ s < 0 ∨ (3 ≤ s ∧ ¬ (s - 3 < M 2 2)))) ∨ (∃ (F O : Int → Int), rv = some (iv (-1)) ∧ M' = (up1 (up1 (up1 M 53 (jnS M 2 (M 2 2).toNat)) 51 F) 52 O) ∧ (s = 2) ∧ (¬ (0 ≤ w ∧ w ≤ 2))) ∨ (∃ (F : Int → Int), rv = some (iv (-1)) ∧ M' = (up1 (up1 M 51 F) 52 (otp (M (basQ (s - 3)) 2) (M (basQ (s - 3)) 3) (fl (M 3) (M (basQ (s - 3) + 1)) 8))) ∧ (3 ≤ s ∧ s - 3 < M 2 2) ∧ (¬ (0 ≤ w ∧ w ≤ 2))) ∨ (rv = some (iv (msr w (M 3) 8)) ∧ M' = M ∧ (s = 0) ∧ (0 ≤ w ∧ w ≤ 2)) ∨ (rv = some (iv (msr w (M 11) 12)) ∧ M' = M ∧ (s = 1) ∧ (0 ≤ w ∧ w ≤ 2)) ∨ (∃ (F O : Int → Int), rv = some (iv (msr w (jnS M 2 (M 2 2).toNat) 30)) ∧ M' = (up1 (up1 (up1 M 53 (jnS M 2 (M 2 2).toNat)) 51 F) 52 O) ∧ (s = 2) ∧ (0 ≤ w ∧ w ≤ 2)) ∨ (∃ (F : Int → Int), rv = some (iv (msr w (otp (M (basQ (s - 3)) 2) (M (basQ (s - 3)) 3) (fl (M 3) (M (basQ (s - 3) + 1)) 8)) 30)) ∧ M' = (up1 (up1 M 51 F) 52 (otp (M (basQ (s - 3)) 2) (M (basQ (s - 3)) 3) (fl (M 3) (M (basQ (s - 3) + 1)) 8))) ∧ (3 ≤ s ∧ s - 3 < M 2 2) ∧ (0 ≤ w ∧ w ≤ 2))) := by
  refine Ct.of (cc := cX9_row) (nL := 4) (ret := (some .int)) (by decide) rfl (Nat.le_of_ble_eq_true rfl) (fun z hz ok rt => ?_)
  have ok : Ok z g cX9_row 4 RX9 wsX9_row 6 132 := ok
  show V z g 4 M [(0, rf g 0), (1, iv s), (2, iv w)] [] 0
  have hR : bdf (M 3) 8 0 20 := hs.1
  have hm : 0 ≤ M 2 2 ∧ M 2 2 ≤ 3 := hs.2.1
  have hA0 : bdf (M 6) 5 0 9 := hs.2.2.1.1
  have hk0 : 0 ≤ M 5 2 ∧ M 5 2 ≤ 4 := hs.2.2.1.2.2.1
  have hn0 : 0 ≤ M 5 3 ∧ M 5 3 ≤ 9 := hs.2.2.1.2.2.2
  have hA1 : bdf (M 8) 5 0 9 := hs.2.2.2.1.1
  have hk1 : 0 ≤ M 7 2 ∧ M 7 2 ≤ 4 := hs.2.2.2.1.2.2.1
  have hn1 : 0 ≤ M 7 3 ∧ M 7 3 ≤ 9 := hs.2.2.2.1.2.2.2
  have hA2 : bdf (M 10) 5 0 9 := hs.2.2.2.2.1
  have hk2 : 0 ≤ M 9 2 ∧ M 9 2 ≤ 4 := hs.2.2.2.2.2.2.1
  have hn2 : 0 ≤ M 9 3 ∧ M 9 3 ≤ 9 := hs.2.2.2.2.2.2.2
  refine v_iload_n ok 1 dX9_row_0 rfl rfl ?_
  refine v_iconst (n := 3) ok dX9_row_1 ?_
  refine v_icmp_ge (tgt := 13) ok ⟨by omega, by omega⟩ (by decide) dX9_row_2 (by decide) (fun c1 => ?_) (fun c1 => ?_)
  · skip
    refine v_aload_n ok 0 dX9_row_13 rfl rfl ?_
    refine v_iload_n ok 1 dX9_row_14 rfl rfl ?_
    refine v_iconst (n := 3) ok dX9_row_15 ?_
    refine v_isub ok dX9_row_16 ?_
    refine v_callV (na := 1) (i := 0) (C := RX9) (T := TX9) (N := 9) (f0 := (M 0)) ok (ct_X9_outOf z.2.1 g M (s - 3) hs ⟨by omega, by omega⟩) gX9_row_X9_outOf (kd_lt (show kd 0 = 9 from rfl) (by decide)) rfl rfl (cellF_9 _ (by decide)) rfl (by decide +kernel) rfl (by decide) [] rfl (Nat.le_of_ble_eq_true rfl) dX9_row_17 (fun v3 M4 hp2 => ?_)
    rcases hp2 with ⟨rfl, eM4, h5⟩ | ⟨F6, rfl, rfl, h7⟩
    · skip
      subst M4
      have h5 : ¬ (0 ≤ (s - 3) ∧ (s - 3) < (M 2) 2) := h5
      show V z g 4 M [(0, rf g 0), (1, iv s), (2, iv w)] [Value.null] 20
      refine v_astore_nN ok [(3, Value.null), (0, rf g 0), (1, iv s), (2, iv w)] dX9_row_20 rfl (by decide) rfl ?_
      refine v_aload_nN ok 0 dX9_row_21 rfl rfl ?_
      refine v_ifnullN (tgt := 34) ok dX9_row_22 (by decide) ?_
      refine v_iconst (n := -1) ok dX9_row_34 ?_
      exact v_iret ok rt dX9_row_35 (Or.inl (⟨rfl, rfl, (by omega)⟩))
    · skip
      have h7 : 0 ≤ (s - 3) ∧ (s - 3) < (M 2) 2 := h7
      show V z g 4 (up1 (up1 M 51 F6) 52 (otp (M (basQ (s - 3)) 2) (M (basQ (s - 3)) 3) (fl ((M 3)) (M (basQ (s - 3) + 1)) 8))) [(0, rf g 0), (1, iv s), (2, iv w)] [rf g 52] 20
      refine v_astore_n ok [(3, rf g 52), (0, rf g 0), (1, iv s), (2, iv w)] dX9_row_20 rfl (by decide) rfl ?_
      refine v_aload_n ok 0 dX9_row_21 rfl rfl ?_
      refine v_ifnull ok dX9_row_22 ?_
      refine v_iload_n ok 3 dX9_row_25 rfl rfl ?_
      refine v_iconst (n := 0) ok dX9_row_26 ?_
      refine v_iconst (n := 2) ok dX9_row_27 ?_
      refine v_callS (na := 3) ok (ct_X9_between z.2.1 g (up1 (up1 M 51 F6) 52 (otp (M (basQ (s - 3)) 2) (M (basQ (s - 3)) 3) (fl ((M 3)) (M (basQ (s - 3) + 1)) 8))) w 0 2 ⟨by omega, by omega⟩ (by decide) (by decide)) gX9_row_X9_between rfl (by decide +kernel) rfl (by decide) [] rfl (Nat.le_of_ble_eq_true rfl) dX9_row_28 (fun v9 M10 hp8 => ?_)
      rcases hp8 with ⟨rfl, rfl, h11⟩ | ⟨rfl, rfl, h12⟩
      · skip
        show V z g 4 (up1 (up1 M 51 F6) 52 (otp (M (basQ (s - 3)) 2) (M (basQ (s - 3)) 3) (fl ((M 3)) (M (basQ (s - 3) + 1)) 8))) [(3, rf g 52), (0, rf g 0), (1, iv s), (2, iv w)] [iv 1] 31
        refine v_if_ne (tgt := 36) ok (by decide) dX9_row_31 (by decide) (fun c13 => ?_) (fun c13 => absurd c13 (by decide))
        refine v_aload_n ok 0 dX9_row_36 rfl rfl ?_
        refine v_iload_n ok 3 dX9_row_37 rfl rfl ?_
        refine v_callS (na := 2) ok (ct_X9_measure z.2.1 g (up1 (up1 M 51 F6) 52 (otp (M (basQ (s - 3)) 2) (M (basQ (s - 3)) 3) (fl ((M 3)) (M (basQ (s - 3) + 1)) 8))) 52 30 43200 w (by decide) rfl (by decide) (by omega) (otp_rng (bas_ok hs (b := s - 3) (by omega) (by omega)).2.2.2.1 (fl_rng hs.1 (bas_ok hs (b := s - 3) (by omega) (by omega)).1 30)) (by decide)) gX9_row_X9_measure rfl (by decide +kernel) rfl (by decide) [] rfl (Nat.le_of_ble_eq_true rfl) dX9_row_38 (fun v15 M16 hp14 => ?_)
        obtain ⟨r17, rfl, rfl, h18⟩ := hp14
        have h18 : r17 = msr w ((otp (M (basQ (s - 3)) 2) (M (basQ (s - 3)) 3) (fl ((M 3)) (M (basQ (s - 3) + 1)) 8))) (30 : Int).toNat := h18
        show V z g 4 (up1 (up1 M 51 F6) 52 (otp (M (basQ (s - 3)) 2) (M (basQ (s - 3)) 3) (fl ((M 3)) (M (basQ (s - 3) + 1)) 8))) [(3, rf g 52), (0, rf g 0), (1, iv s), (2, iv w)] [iv r17] 41
        have hmr := h18
        exact v_iret ok rt dX9_row_41 (Or.inr (Or.inr (Or.inr (Or.inr (Or.inr (Or.inr (⟨F6, (congrArg (fun q : Int => some (iv q)) (show r17 = (msr w (otp (M (basQ (s - 3)) 2) (M (basQ (s - 3)) 3) (fl (M 3) (M (basQ (s - 3) + 1)) 8)) 30) from by exact hmr)), rfl, (by omega), (by omega)⟩)))))))
      · skip
        show V z g 4 (up1 (up1 M 51 F6) 52 (otp (M (basQ (s - 3)) 2) (M (basQ (s - 3)) 3) (fl ((M 3)) (M (basQ (s - 3) + 1)) 8))) [(3, rf g 52), (0, rf g 0), (1, iv s), (2, iv w)] [iv 0] 31
        refine v_if_ne (tgt := 36) ok (by decide) dX9_row_31 (by decide) (fun c19 => absurd c19 (by decide)) (fun c19 => ?_)
        refine v_iconst (n := -1) ok dX9_row_34 ?_
        exact v_iret ok rt dX9_row_35 (Or.inr (Or.inr (Or.inl (⟨F6, rfl, rfl, (by omega), (by omega)⟩))))
  · skip
    refine v_aload_n ok 0 dX9_row_5 rfl rfl ?_
    refine v_iload_n ok 1 dX9_row_6 rfl rfl ?_
    refine v_callV (na := 1) (i := 0) (C := RX9) (T := TX9) (N := 9) (f0 := (M 0)) ok (ct_X9_numbersOf z.2.1 g M s hs hsi) gX9_row_X9_numbersOf (kd_lt (show kd 0 = 9 from rfl) (by decide)) rfl rfl (cellF_9 _ (by decide)) rfl (by decide +kernel) rfl (by decide) [] rfl (Nat.le_of_ble_eq_true rfl) dX9_row_7 (fun v21 M22 hp20 => ?_)
    rcases hp20 with ⟨rfl, eM22, h23⟩ | ⟨rfl, eM22, h24⟩ | ⟨F25, O26, rfl, rfl, h27⟩ | ⟨rfl, eM22, h28⟩
    · skip
      subst M22
      show V z g 4 M [(0, rf g 0), (1, iv s), (2, iv w)] [rf g 3] 10
      refine v_goto (tgt := 20) ok dX9_row_10 (by decide) ?_
      refine v_astore_n ok [(3, rf g 3), (0, rf g 0), (1, iv s), (2, iv w)] dX9_row_20 rfl (by decide) rfl ?_
      refine v_aload_n ok 0 dX9_row_21 rfl rfl ?_
      refine v_ifnull ok dX9_row_22 ?_
      refine v_iload_n ok 3 dX9_row_25 rfl rfl ?_
      refine v_iconst (n := 0) ok dX9_row_26 ?_
      refine v_iconst (n := 2) ok dX9_row_27 ?_
      refine v_callS (na := 3) ok (ct_X9_between z.2.1 g M w 0 2 ⟨by omega, by omega⟩ (by decide) (by decide)) gX9_row_X9_between rfl (by decide +kernel) rfl (by decide) [] rfl (Nat.le_of_ble_eq_true rfl) dX9_row_28 (fun v30 M31 hp29 => ?_)
      rcases hp29 with ⟨rfl, eM31, h32⟩ | ⟨rfl, eM31, h33⟩
      · skip
        subst M31
        show V z g 4 M [(3, rf g 3), (0, rf g 0), (1, iv s), (2, iv w)] [iv 1] 31
        refine v_if_ne (tgt := 36) ok (by decide) dX9_row_31 (by decide) (fun c34 => ?_) (fun c34 => absurd c34 (by decide))
        refine v_aload_n ok 0 dX9_row_36 rfl rfl ?_
        refine v_iload_n ok 3 dX9_row_37 rfl rfl ?_
        refine v_callS (na := 2) ok (ct_X9_measure z.2.1 g M 3 8 20 w (by decide) rfl (by decide) (by omega) hs.1 (by decide)) gX9_row_X9_measure rfl (by decide +kernel) rfl (by decide) [] rfl (Nat.le_of_ble_eq_true rfl) dX9_row_38 (fun v36 M37 hp35 => ?_)
        obtain ⟨r38, rfl, eM37, h39⟩ := hp35
        subst M37
        have h39 : r38 = msr w ((M 3)) (8 : Int).toNat := h39
        show V z g 4 M [(3, rf g 3), (0, rf g 0), (1, iv s), (2, iv w)] [iv r38] 41
        have hmr := h39
        exact v_iret ok rt dX9_row_41 (Or.inr (Or.inr (Or.inr (Or.inl (⟨(congrArg (fun q : Int => some (iv q)) (show r38 = (msr w (M 3) 8) from by exact hmr)), rfl, (by omega), (by omega)⟩)))))
      · skip
        subst M31
        show V z g 4 M [(3, rf g 3), (0, rf g 0), (1, iv s), (2, iv w)] [iv 0] 31
        refine v_if_ne (tgt := 36) ok (by decide) dX9_row_31 (by decide) (fun c40 => absurd c40 (by decide)) (fun c40 => ?_)
        refine v_iconst (n := -1) ok dX9_row_34 ?_
        exact v_iret ok rt dX9_row_35 (Or.inl (⟨rfl, rfl, (by omega)⟩))
    · skip
      subst M22
      show V z g 4 M [(0, rf g 0), (1, iv s), (2, iv w)] [rf g 11] 10
      refine v_goto (tgt := 20) ok dX9_row_10 (by decide) ?_
      refine v_astore_n ok [(3, rf g 11), (0, rf g 0), (1, iv s), (2, iv w)] dX9_row_20 rfl (by decide) rfl ?_
      refine v_aload_n ok 0 dX9_row_21 rfl rfl ?_
      refine v_ifnull ok dX9_row_22 ?_
      refine v_iload_n ok 3 dX9_row_25 rfl rfl ?_
      refine v_iconst (n := 0) ok dX9_row_26 ?_
      refine v_iconst (n := 2) ok dX9_row_27 ?_
      refine v_callS (na := 3) ok (ct_X9_between z.2.1 g M w 0 2 ⟨by omega, by omega⟩ (by decide) (by decide)) gX9_row_X9_between rfl (by decide +kernel) rfl (by decide) [] rfl (Nat.le_of_ble_eq_true rfl) dX9_row_28 (fun v42 M43 hp41 => ?_)
      rcases hp41 with ⟨rfl, eM43, h44⟩ | ⟨rfl, eM43, h45⟩
      · skip
        subst M43
        show V z g 4 M [(3, rf g 11), (0, rf g 0), (1, iv s), (2, iv w)] [iv 1] 31
        refine v_if_ne (tgt := 36) ok (by decide) dX9_row_31 (by decide) (fun c46 => ?_) (fun c46 => absurd c46 (by decide))
        refine v_aload_n ok 0 dX9_row_36 rfl rfl ?_
        refine v_iload_n ok 3 dX9_row_37 rfl rfl ?_
        refine v_callS (na := 2) ok (ct_X9_measure z.2.1 g M 11 12 999 w (by decide) rfl (by decide) (by omega) hT (by decide)) gX9_row_X9_measure rfl (by decide +kernel) rfl (by decide) [] rfl (Nat.le_of_ble_eq_true rfl) dX9_row_38 (fun v48 M49 hp47 => ?_)
        obtain ⟨r50, rfl, eM49, h51⟩ := hp47
        subst M49
        have h51 : r50 = msr w ((M 11)) (12 : Int).toNat := h51
        show V z g 4 M [(3, rf g 11), (0, rf g 0), (1, iv s), (2, iv w)] [iv r50] 41
        have hmr := h51
        exact v_iret ok rt dX9_row_41 (Or.inr (Or.inr (Or.inr (Or.inr (Or.inl (⟨(congrArg (fun q : Int => some (iv q)) (show r50 = (msr w (M 11) 12) from by exact hmr)), rfl, (by omega), (by omega)⟩))))))
      · skip
        subst M43
        show V z g 4 M [(3, rf g 11), (0, rf g 0), (1, iv s), (2, iv w)] [iv 0] 31
        refine v_if_ne (tgt := 36) ok (by decide) dX9_row_31 (by decide) (fun c52 => absurd c52 (by decide)) (fun c52 => ?_)
        refine v_iconst (n := -1) ok dX9_row_34 ?_
        exact v_iret ok rt dX9_row_35 (Or.inl (⟨rfl, rfl, (by omega)⟩))
    · skip
      show V z g 4 (up1 (up1 (up1 M 53 (jnS M 2 ((M 2) 2).toNat)) 51 F25) 52 O26) [(0, rf g 0), (1, iv s), (2, iv w)] [rf g 53] 10
      refine v_goto (tgt := 20) ok dX9_row_10 (by decide) ?_
      refine v_astore_n ok [(3, rf g 53), (0, rf g 0), (1, iv s), (2, iv w)] dX9_row_20 rfl (by decide) rfl ?_
      refine v_aload_n ok 0 dX9_row_21 rfl rfl ?_
      refine v_ifnull ok dX9_row_22 ?_
      refine v_iload_n ok 3 dX9_row_25 rfl rfl ?_
      refine v_iconst (n := 0) ok dX9_row_26 ?_
      refine v_iconst (n := 2) ok dX9_row_27 ?_
      refine v_callS (na := 3) ok (ct_X9_between z.2.1 g (up1 (up1 (up1 M 53 (jnS M 2 ((M 2) 2).toNat)) 51 F25) 52 O26) w 0 2 ⟨by omega, by omega⟩ (by decide) (by decide)) gX9_row_X9_between rfl (by decide +kernel) rfl (by decide) [] rfl (Nat.le_of_ble_eq_true rfl) dX9_row_28 (fun v54 M55 hp53 => ?_)
      rcases hp53 with ⟨rfl, rfl, h56⟩ | ⟨rfl, rfl, h57⟩
      · skip
        show V z g 4 (up1 (up1 (up1 M 53 (jnS M 2 ((M 2) 2).toNat)) 51 F25) 52 O26) [(3, rf g 53), (0, rf g 0), (1, iv s), (2, iv w)] [iv 1] 31
        refine v_if_ne (tgt := 36) ok (by decide) dX9_row_31 (by decide) (fun c58 => ?_) (fun c58 => absurd c58 (by decide))
        refine v_aload_n ok 0 dX9_row_36 rfl rfl ?_
        refine v_iload_n ok 3 dX9_row_37 rfl rfl ?_
        refine v_callS (na := 2) ok (ct_X9_measure z.2.1 g (up1 (up1 (up1 M 53 (jnS M 2 ((M 2) 2).toNat)) 51 F25) 52 O26) 53 30 129600 w (by decide) rfl (by decide) (by omega) (jnS_rng hs) (by decide)) gX9_row_X9_measure rfl (by decide +kernel) rfl (by decide) [] rfl (Nat.le_of_ble_eq_true rfl) dX9_row_38 (fun v60 M61 hp59 => ?_)
        obtain ⟨r62, rfl, rfl, h63⟩ := hp59
        have h63 : r62 = msr w ((jnS M 2 ((M 2) 2).toNat)) (30 : Int).toNat := h63
        show V z g 4 (up1 (up1 (up1 M 53 (jnS M 2 ((M 2) 2).toNat)) 51 F25) 52 O26) [(3, rf g 53), (0, rf g 0), (1, iv s), (2, iv w)] [iv r62] 41
        have hmr := h63
        exact v_iret ok rt dX9_row_41 (Or.inr (Or.inr (Or.inr (Or.inr (Or.inr (Or.inl (⟨F25, O26, (congrArg (fun q : Int => some (iv q)) (show r62 = (msr w (jnS M 2 (M 2 2).toNat) 30) from by exact hmr)), (by
              funext j
              by_cases hj0 : j = 53
              · subst hj0; simp [up1, up1_self]
              by_cases hj1 : j = 51
              · subst hj1; simp [up1, up1_self]
              by_cases hj2 : j = 52
              · subst hj2; simp [up1, up1_self]
              simp [up1, hj0, hj1, hj2]), (by omega), (by omega)⟩)))))))
      · skip
        show V z g 4 (up1 (up1 (up1 M 53 (jnS M 2 ((M 2) 2).toNat)) 51 F25) 52 O26) [(3, rf g 53), (0, rf g 0), (1, iv s), (2, iv w)] [iv 0] 31
        refine v_if_ne (tgt := 36) ok (by decide) dX9_row_31 (by decide) (fun c64 => absurd c64 (by decide)) (fun c64 => ?_)
        refine v_iconst (n := -1) ok dX9_row_34 ?_
        exact v_iret ok rt dX9_row_35 (Or.inr (Or.inl (⟨F25, O26, rfl, (by
              funext j
              by_cases hj0 : j = 53
              · subst hj0; simp [up1, up1_self]
              by_cases hj1 : j = 51
              · subst hj1; simp [up1, up1_self]
              by_cases hj2 : j = 52
              · subst hj2; simp [up1, up1_self]
              simp [up1, hj0, hj1, hj2]), (by omega), (by omega)⟩)))
    · skip
      subst M22
      show V z g 4 M [(0, rf g 0), (1, iv s), (2, iv w)] [Value.null] 10
      refine v_goto (tgt := 20) ok dX9_row_10 (by decide) ?_
      refine v_astore_nN ok [(3, Value.null), (0, rf g 0), (1, iv s), (2, iv w)] dX9_row_20 rfl (by decide) rfl ?_
      refine v_aload_nN ok 0 dX9_row_21 rfl rfl ?_
      refine v_ifnullN (tgt := 34) ok dX9_row_22 (by decide) ?_
      refine v_iconst (n := -1) ok dX9_row_34 ?_
      exact v_iret ok rt dX9_row_35 (Or.inl (⟨rfl, rfl, (by omega)⟩))

theorem mk_X9_mean_35 : Cond.fieldLink RX9 35 "StormRunoff" "course" "LStormRunoff$Course;" ∈ wsX9_mean := by decide +kernel
theorem mi_X9_mean_9 : ∀ w ∈ wsX90, w ∈ wsX9_mean := by decide +kernel
theorem mk_X9_mean_12 : Cond.fieldLink RX9 12 "StormRunoff" "now" "LStormRunoff$State;" ∈ wsX9_mean := by decide +kernel
theorem mk_X9_mean_67 : Cond.fieldLink RX9 67 "StormRunoff$State" "site" "LStormRunoff$Site;" ∈ wsX9_mean := by decide +kernel
theorem mi_X9_mean_7 : ∀ w ∈ wsX70, w ∈ wsX9_mean := by decide +kernel
theorem mk_X9_mean_196 : Cond.fieldLink RX9 196 "StormRunoff$Course" "joined" "[I" ∈ wsX9_mean := by decide +kernel
theorem mi_X9_mean_1 : ∀ w ∈ wsX10, w ∈ wsX9_mean := by decide +kernel
set_option maxRecDepth 100000 in
set_option maxHeartbeats 400000 in
theorem ct_X9_mean (l : Launch) (g : Gl) (M : Mem) (p : Int) (hp : i32 p) (hs : SiteOk M 2) : Ct l g yX9_mean wsX9_mean 5 111 [rf g 0, iv p] M (fun rv M' => (∃ (F O : Int → Int), rv = some (jv (-9223372036854775808)) ∧ M' = (up1 (up1 (up1 M 53 (jnS M 2 (M 2 2).toNat)) 51 F) 52 O) ∧ ((cntp (jnS M 2 (M 2 2).toNat) 30) = 0 ∨ ¬ (0 ≤ p ∧ p ≤ 1))) ∨ (∃ (F O : Int → Int), rv = some (jv ((if p = 0 then (msr 0 (jnS M 2 (M 2 2).toNat) 30) else (cntp (jnS M 2 (M 2 2).toNat) 30)) / gcdI (cntp (jnS M 2 (M 2 2).toNat) 30) (msr 0 (jnS M 2 (M 2 2).toNat) 30))) ∧ M' = (up1 (up1 (up1 M 53 (jnS M 2 (M 2 2).toNat)) 51 F) 52 O) ∧ (0 < (cntp (jnS M 2 (M 2 2).toNat) 30)) ∧ (0 ≤ p ∧ p ≤ 1))) := by
  refine Ct.of (cc := cX9_mean) (nL := 4) (ret := (some .long)) (by decide) rfl (Nat.le_of_ble_eq_true rfl) (fun z hz ok rt => ?_)
  have ok : Ok z g cX9_mean 4 RX9 wsX9_mean 5 111 := ok
  show V z g 4 M [(0, rf g 0), (1, iv p)] [] 0
  have hJ := jnS_rng hs
  refine v_aload_n ok 0 dX9_mean_0 rfl rfl ?_
  refine v_get (T := TX9) (N := 9) (f0 := (M 0)) (v := rf g 50) ok mi_X9_mean_9 (kd_lt (show kd 0 = 9 from rfl) (by decide)) rfl rfl (cellF_9 _ (by decide)) 4 (by decide) mk_X9_mean_35 rfl rfl dX9_mean_1 ?_
  refine v_aload_n ok 0 dX9_mean_4 rfl rfl ?_
  refine v_get (T := TX9) (N := 9) (f0 := (M 0)) (v := rf g 1) ok mi_X9_mean_9 (kd_lt (show kd 0 = 9 from rfl) (by decide)) rfl rfl (cellF_9 _ (by decide)) 0 (by decide) mk_X9_mean_12 rfl rfl dX9_mean_5 ?_
  refine v_get (T := TX7) (N := 5) (f0 := (M 1)) (v := rf g 2) ok mi_X9_mean_7 (kd_lt (show kd 1 = 7 from rfl) (by decide)) rfl rfl (cellF_7 _ (by decide)) 0 (by decide) mk_X9_mean_67 rfl rfl dX9_mean_8 ?_
  refine v_callV (na := 1) (i := 50) (C := RX1) (T := TX1) (N := 3) (f0 := (M 50)) ok (ct_X1_join_2 z.2.1 g M  hs) gX9_mean_X1_join (kd_lt (show kd 50 = 1 from rfl) (by decide)) rfl rfl (cellF_1 _ (by decide)) rfl (by decide +kernel) rfl (by decide) [] rfl (Nat.le_of_ble_eq_true rfl) dX9_mean_11 (fun v2 M3 hp1 => ?_)
  obtain ⟨F4, O5, rfl, rfl⟩ := hp1
  show V z g 4 (up1 (up1 (up1 M 53 (jnS M 2 ((M 2) 2).toNat)) 51 F4) 52 O5) [(0, rf g 0), (1, iv p)] [] 14
  refine v_iconst (n := 0) ok dX9_mean_14 ?_
  refine v_istore_n ok [(2, iv 0), (0, rf g 0), (1, iv p)] dX9_mean_15 rfl (by decide) rfl ?_
  refine v_iconst (n := 0) ok dX9_mean_16 ?_
  refine v_istore_n ok [(3, iv 0), (2, iv 0), (0, rf g 0), (1, iv p)] dX9_mean_17 rfl (by decide) rfl ?_
  have lp18 : ∀ (fu : Nat) (i n : Int) (F O : Int → Int), (0 ≤ i ∧ i ≤ 30) → (n = cntp (jnS M 2 (M 2 2).toNat) i.toNat) → (30 - i).toNat < fu → V z g 4 (up1 (up1 (up1 M 53 (jnS M 2 (M 2 2).toNat)) 51 F) 52 O) [(0, rf g 0), (1, iv p), (2, iv n), (3, iv i)] [] 18 := by
    intro fu
    induction fu with
    | zero => intro i n F O _ _ hm; exact absurd hm (Nat.not_lt_zero _)
    | succ fu ih18 =>
      intro i n F O i18_0 i18_1 hm18
      have hcr := cntp_rng (jnS M 2 (M 2 2).toNat) i.toNat
      refine v_iload_n ok 3 dX9_mean_18 rfl rfl ?_
      refine v_aload_n ok 0 dX9_mean_19 rfl rfl ?_
      refine v_get (T := TX9) (N := 9) (f0 := (M 0)) (v := rf g 50) ok mi_X9_mean_9 (kd_lt (show kd 0 = 9 from rfl) (by decide)) rfl rfl (cellF_9 _ (by decide)) 4 (by decide) mk_X9_mean_35 rfl rfl dX9_mean_20 ?_
      refine v_get (T := TX1) (N := 3) (f0 := (M 50)) (v := rf g 53) ok mi_X9_mean_1 (kd_lt (show kd 50 = 1 from rfl) (by decide)) rfl rfl (cellF_1 _ (by decide)) 2 (by decide) mk_X9_mean_196 rfl rfl dX9_mean_23 ?_
      refine v_alen (n := 30) ok (Or.inl (by decide)) rfl dX9_mean_26 ?_
      refine v_icmp_ge (tgt := 51) ok ⟨by omega, by omega⟩ (by decide) dX9_mean_27 (by decide) (fun c6 => ?_) (fun c6 => ?_)
      · skip
        have e30 : i.toNat = 30 := by omega
        rw [e30] at i18_1
        rw [show (n : Int) = (cntp (jnS M 2 (M 2 2).toNat) 30) from i18_1]
        have hsum := sumf_rng hJ 30 (by decide)
        have hcr2 := cntp_rng (jnS M 2 (M 2 2).toNat) 30
        refine v_aload_n ok 0 dX9_mean_51 rfl rfl ?_
        refine v_get (T := TX9) (N := 9) (f0 := (M 0)) (v := rf g 50) ok mi_X9_mean_9 (kd_lt (show kd 0 = 9 from rfl) (by decide)) rfl rfl (cellF_9 _ (by decide)) 4 (by decide) mk_X9_mean_35 rfl rfl dX9_mean_52 ?_
        refine v_get (T := TX1) (N := 3) (f0 := (M 50)) (v := rf g 53) ok mi_X9_mean_1 (kd_lt (show kd 50 = 1 from rfl) (by decide)) rfl rfl (cellF_1 _ (by decide)) 2 (by decide) mk_X9_mean_196 rfl rfl dX9_mean_55 ?_
        refine v_iconst (n := 0) ok dX9_mean_58 ?_
        refine v_callS (na := 2) ok (ct_X9_measure z.2.1 g (up1 (up1 (up1 M 53 (jnS M 2 (M 2 2).toNat)) 51 F) 52 O) 53 30 129600 0 (by decide) rfl (by decide) (by decide) hJ (by decide)) gX9_mean_X9_measure rfl (by decide +kernel) rfl (by decide) [] rfl (Nat.le_of_ble_eq_true rfl) dX9_mean_59 (fun v8 M9 hp7 => ?_)
        obtain ⟨r10, rfl, rfl, h11⟩ := hp7
        have h11 : r10 = msr 0 ((jnS M 2 (M 2 2).toNat)) (30 : Int).toNat := h11
        show V z g 4 (up1 (up1 (up1 M 53 (jnS M 2 (M 2 2).toNat)) 51 F) 52 O) [(0, rf g 0), (1, iv p), (2, iv (cntp (jnS M 2 (M 2 2).toNat) 30)), (3, iv i)] [iv r10] 62
        have hv0 : r10 = (msr 0 (jnS M 2 (M 2 2).toNat) 30) := h11
        rw [show (r10 : Int) = (msr 0 (jnS M 2 (M 2 2).toNat) 30) from hv0]
        have hv1 : 0 ≤ (msr 0 (jnS M 2 (M 2 2).toNat) 30) ∧ (msr 0 (jnS M 2 (M 2 2).toNat) 30) ≤ 3888000 := hsum
        refine v_iload_n ok 2 dX9_mean_62 rfl rfl ?_
        refine v_iload_n ok 1 dX9_mean_63 rfl rfl ?_
        refine v_callS (na := 3) ok (ct_X9_inLowestTerms z.2.1 g (up1 (up1 (up1 M 53 (jnS M 2 (M 2 2).toNat)) 51 F) 52 O) (msr 0 (jnS M 2 (M 2 2).toNat) 30) (cntp (jnS M 2 (M 2 2).toNat) 30) p (by first | omega | assumption) (by first | omega | assumption) ⟨by omega, by omega⟩) gX9_mean_X9_inLowestTerms rfl (by decide +kernel) rfl (by decide) [] rfl (Nat.le_of_ble_eq_true rfl) dX9_mean_64 (fun v13 M14 hp12 => ?_)
        rcases hp12 with ⟨rfl, rfl, h15⟩ | ⟨rfl, rfl, h16, h17⟩
        · skip
          show V z g 4 (up1 (up1 (up1 M 53 (jnS M 2 (M 2 2).toNat)) 51 F) 52 O) [(0, rf g 0), (1, iv p), (2, iv (cntp (jnS M 2 (M 2 2).toNat) 30)), (3, iv i)] [jv (-9223372036854775808)] 67
          exact v_lret ok rt dX9_mean_67 (Or.inl (⟨F, O, rfl, rfl, (by omega)⟩))
        · skip
          show V z g 4 (up1 (up1 (up1 M 53 (jnS M 2 (M 2 2).toNat)) 51 F) 52 O) [(0, rf g 0), (1, iv p), (2, iv (cntp (jnS M 2 (M 2 2).toNat) 30)), (3, iv i)] [jv ((if p = 0 then (msr 0 (jnS M 2 (M 2 2).toNat) 30) else (cntp (jnS M 2 (M 2 2).toNat) 30)) / gcdI (cntp (jnS M 2 (M 2 2).toNat) 30) (msr 0 (jnS M 2 (M 2 2).toNat) 30))] 67
          exact v_lret ok rt dX9_mean_67 (Or.inr (⟨F, O, rfl, rfl, (by omega), (by omega)⟩))
      · skip
        refine v_aload_n ok 0 dX9_mean_30 rfl rfl ?_
        refine v_get (T := TX9) (N := 9) (f0 := (M 0)) (v := rf g 50) ok mi_X9_mean_9 (kd_lt (show kd 0 = 9 from rfl) (by decide)) rfl rfl (cellF_9 _ (by decide)) 4 (by decide) mk_X9_mean_35 rfl rfl dX9_mean_31 ?_
        refine v_get (T := TX1) (N := 3) (f0 := (M 50)) (v := rf g 53) ok mi_X9_mean_1 (kd_lt (show kd 50 = 1 from rfl) (by decide)) rfl rfl (cellF_1 _ (by decide)) 2 (by decide) mk_X9_mean_196 rfl rfl dX9_mean_34 ?_
        refine v_iload_n ok 3 dX9_mean_37 rfl rfl ?_
        refine v_iald (n := 30) (f0 := (jnS M 2 (M 2 2).toNat)) ok (by decide) rfl (by omega) rfl dX9_mean_38 ?_
        have b18 := hJ i (by omega) (by omega)
        refine v_if_le (tgt := 45) ok ⟨by omega, by omega⟩ dX9_mean_39 (by decide) (fun c19 => ?_) (fun c19 => ?_)
        · skip
          refine v_iinc ok 3 [(3, iv (i + 1)), (0, rf g 0), (1, iv p), (2, iv n)] dX9_mean_45 rfl (by decide) rfl ?_
          refine v_goto (tgt := 18) ok dX9_mean_48 (by decide) ?_
          refine v_lv (ls' := [(0, rf g 0), (1, iv p), (2, iv n), (3, iv (i + 1))]) ok [1, 2, 3, 0] rfl ?_
          exact ih18 (i + 1) n F O (by omega) (by rw [cntp_s i18_0.1, i18_1]; first | rw [if_pos (by omega)] | (rw [if_neg (by omega)]; omega)) (by omega)
        · skip
          refine v_iinc ok 2 [(2, iv (n + 1)), (0, rf g 0), (1, iv p), (3, iv i)] dX9_mean_42 rfl (by decide) rfl ?_
          refine v_iinc ok 3 [(3, iv (i + 1)), (2, iv (n + 1)), (0, rf g 0), (1, iv p)] dX9_mean_45 rfl (by decide) rfl ?_
          refine v_goto (tgt := 18) ok dX9_mean_48 (by decide) ?_
          refine v_lv (ls' := [(0, rf g 0), (1, iv p), (2, iv (n + 1)), (3, iv (i + 1))]) ok [2, 3, 1, 0] rfl ?_
          exact ih18 (i + 1) (n + 1) F O (by omega) (by rw [cntp_s i18_0.1, i18_1]; first | rw [if_pos (by omega)] | (rw [if_neg (by omega)]; omega)) (by omega)
  refine v_lv (ls' := [(0, rf g 0), (1, iv p), (2, iv 0), (3, iv 0)]) ok [2, 3, 1, 0] rfl ?_
  rw [show ((up1 (up1 (up1 M 53 (jnS M 2 ((M 2) 2).toNat)) 51 F4) 52 O5) : Mem) = (up1 (up1 (up1 M 53 (jnS M 2 (M 2 2).toNat)) 51 F4) 52 O5) from (by
        funext j
        by_cases hj0 : j = 53
        · subst hj0; simp [up1, up1_self]
        by_cases hj1 : j = 51
        · subst hj1; simp [up1, up1_self]
        by_cases hj2 : j = 52
        · subst hj2; simp [up1, up1_self]
        simp [up1, hj0, hj1, hj2])]
  exact lp18 _ 0 0 F4 O5 (by omega) rfl (Nat.lt_succ_self _)
