theorem mk_X9_rain_12 : Cond.fieldLink RX9 12 "StormRunoff" "now" "LStormRunoff$State;" ∈ wsX9_rain := by decide +kernel
theorem mi_X9_rain_9 : ∀ w ∈ wsX90, w ∈ wsX9_rain := by decide +kernel
theorem mk_X9_rain_67 : Cond.fieldLink RX9 67 "StormRunoff$State" "site" "LStormRunoff$Site;" ∈ wsX9_rain := by decide +kernel
theorem mi_X9_rain_7 : ∀ w ∈ wsX70, w ∈ wsX9_rain := by decide +kernel
theorem mk_X9_rain_70 : Cond.fieldLink RX9 70 "StormRunoff$Site" "rain" "[I" ∈ wsX9_rain := by decide +kernel
theorem mi_X9_rain_6 : ∀ w ∈ wsX60, w ∈ wsX9_rain := by decide +kernel
set_option maxRecDepth 100000 in
set_option maxHeartbeats 400000 in
theorem ct_X9_rain (l : Launch) (g : Gl) (M : Mem) (h v : Int) (hh : i32 h) (hv : i32 v) : Ct l g yX9_rain wsX9_rain 2 46 [rf g 0, iv h, iv v] M (fun rv M' => (rv = some (iv (-1)) ∧ M' = M ∧ (¬ (0 ≤ h ∧ h < 8))) ∨ (rv = some (iv (-2)) ∧ M' = M ∧ (0 ≤ h ∧ h < 8) ∧ (¬ (0 ≤ v ∧ v ≤ 20))) ∨ (rv = some (iv (M 3 h)) ∧ M' = (up1 M 3 (up (M 3) h v)) ∧ (0 ≤ h ∧ h < 8) ∧ (0 ≤ v ∧ v ≤ 20))) := by
  refine Ct.of (cc := cX9_rain) (nL := 3) (ret := (some .int)) (by decide) rfl (Nat.le_of_ble_eq_true rfl) (fun z hz ok rt => ?_)
  have ok : Ok z g cX9_rain 3 RX9 wsX9_rain 2 46 := ok
  show V z g 3 M [(0, rf g 0), (1, iv h), (2, iv v)] [] 0
  refine v_aload_n ok 0 dX9_rain_0 rfl rfl ?_
  refine v_get (T := TX9) (N := 9) (f0 := (M 0)) (v := rf g 1) ok mi_X9_rain_9 (kd_lt (show kd 0 = 9 from rfl) (by decide)) rfl rfl (cellF_9 _ (by decide)) 0 (by decide) mk_X9_rain_12 rfl rfl dX9_rain_1 ?_
  refine v_get (T := TX7) (N := 5) (f0 := (M 1)) (v := rf g 2) ok mi_X9_rain_7 (kd_lt (show kd 1 = 7 from rfl) (by decide)) rfl rfl (cellF_7 _ (by decide)) 0 (by decide) mk_X9_rain_67 rfl rfl dX9_rain_4 ?_
  refine v_get (T := TX6) (N := 3) (f0 := (M 2)) (v := rf g 3) ok mi_X9_rain_6 (kd_lt (show kd 2 = 6 from rfl) (by decide)) rfl rfl (cellF_6 _ (by decide)) 0 (by decide) mk_X9_rain_70 rfl rfl dX9_rain_7 ?_
  refine v_iload_n ok 1 dX9_rain_10 rfl rfl ?_
  refine v_iload_n ok 2 dX9_rain_11 rfl rfl ?_
  refine v_bipush (n := 20) ok rfl dX9_rain_12 ?_
  refine v_callS (na := 4) ok (ct_X9_exchangeNumber z.2.1 g M 3 8 h v 20 (by decide) rfl ⟨by omega, by omega⟩ ⟨by omega, by omega⟩ (by decide)) gX9_rain_X9_exchangeNumber rfl (by decide +kernel) rfl (by decide) [] rfl (Nat.le_of_ble_eq_true rfl) dX9_rain_14 (fun v2 M3 hp1 => ?_)
  rcases hp1 with ⟨rfl, eM3, h4⟩ | ⟨rfl, eM3, h5, h6⟩ | ⟨rfl, rfl, h7, h8⟩
  · skip
    subst M3
    show V z g 3 M [(0, rf g 0), (1, iv h), (2, iv v)] [iv (-1)] 17
    first | (exact v_iret ok rt dX9_rain_17 (Or.inl (⟨rfl, rfl, (by omega)⟩))) | (exact v_iret ok rt dX9_rain_17 (Or.inr (Or.inr (⟨(congrArg (fun q : Int => some (iv q)) (show (-1) = (M 3 h) from by omega)), (by
          funext j
          by_cases hj0 : j = 3
          · subst hj0; simp [up1, up1_self]
          simp [up1, hj0]), (by omega), (by omega)⟩))))
  · skip
    subst M3
    show V z g 3 M [(0, rf g 0), (1, iv h), (2, iv v)] [iv (-2)] 17
    first | (exact v_iret ok rt dX9_rain_17 (Or.inr (Or.inl (⟨rfl, rfl, (by omega), (by omega)⟩)))) | (exact v_iret ok rt dX9_rain_17 (Or.inr (Or.inr (⟨(congrArg (fun q : Int => some (iv q)) (show (-2) = (M 3 h) from by omega)), (by
          funext j
          by_cases hj0 : j = 3
          · subst hj0; simp [up1, up1_self]
          simp [up1, hj0]), (by omega), (by omega)⟩))))
  · skip
    show V z g 3 (up1 M 3 (up ((M 3)) h v)) [(0, rf g 0), (1, iv h), (2, iv v)] [iv ((M 3) h)] 17
    first | (exact v_iret ok rt dX9_rain_17 (Or.inl (⟨rfl, (by
          funext j
          by_cases hj0 : j = 3
          · subst hj0; simp [up1, up1_self]
          simp [up1, hj0]), (by omega)⟩))) | (exact v_iret ok rt dX9_rain_17 (Or.inr (Or.inl (⟨rfl, (by
          funext j
          by_cases hj0 : j = 3
          · subst hj0; simp [up1, up1_self]
          simp [up1, hj0]), (by omega), (by omega)⟩)))) | (exact v_iret ok rt dX9_rain_17 (Or.inr (Or.inr (⟨(congrArg (fun q : Int => some (iv q)) (show ((M 3) h) = (M 3 h) from by omega)), rfl, (by omega), (by omega)⟩))))

theorem mk_X9_tell_12 : Cond.fieldLink RX9 12 "StormRunoff" "now" "LStormRunoff$State;" ∈ wsX9_tell := by decide +kernel
theorem mi_X9_tell_9 : ∀ w ∈ wsX90, w ∈ wsX9_tell := by decide +kernel
theorem mk_X9_tell_107 : Cond.fieldLink RX9 107 "StormRunoff$State" "told" "[I" ∈ wsX9_tell := by decide +kernel
theorem mi_X9_tell_7 : ∀ w ∈ wsX70, w ∈ wsX9_tell := by decide +kernel
set_option maxRecDepth 100000 in
set_option maxHeartbeats 400000 in
theorem ct_X9_tell (l : Launch) (g : Gl) (M : Mem) (h v : Int) (hh : i32 h) (hv : i32 v) : Ct l g yX9_tell wsX9_tell 2 46 [rf g 0, iv h, iv v] M (fun rv M' => (rv = some (iv (-1)) ∧ M' = M ∧ (¬ (0 ≤ h ∧ h < 12))) ∨ (rv = some (iv (-2)) ∧ M' = M ∧ (0 ≤ h ∧ h < 12) ∧ (¬ (0 ≤ v ∧ v ≤ 999))) ∨ (rv = some (iv (M 11 h)) ∧ M' = (up1 M 11 (up (M 11) h v)) ∧ (0 ≤ h ∧ h < 12) ∧ (0 ≤ v ∧ v ≤ 999))) := by
  refine Ct.of (cc := cX9_tell) (nL := 3) (ret := (some .int)) (by decide) rfl (Nat.le_of_ble_eq_true rfl) (fun z hz ok rt => ?_)
  have ok : Ok z g cX9_tell 3 RX9 wsX9_tell 2 46 := ok
  show V z g 3 M [(0, rf g 0), (1, iv h), (2, iv v)] [] 0
  refine v_aload_n ok 0 dX9_tell_0 rfl rfl ?_
  refine v_get (T := TX9) (N := 9) (f0 := (M 0)) (v := rf g 1) ok mi_X9_tell_9 (kd_lt (show kd 0 = 9 from rfl) (by decide)) rfl rfl (cellF_9 _ (by decide)) 0 (by decide) mk_X9_tell_12 rfl rfl dX9_tell_1 ?_
  refine v_get (T := TX7) (N := 5) (f0 := (M 1)) (v := rf g 11) ok mi_X9_tell_7 (kd_lt (show kd 1 = 7 from rfl) (by decide)) rfl rfl (cellF_7 _ (by decide)) 1 (by decide) mk_X9_tell_107 rfl rfl dX9_tell_4 ?_
  refine v_iload_n ok 1 dX9_tell_7 rfl rfl ?_
  refine v_iload_n ok 2 dX9_tell_8 rfl rfl ?_
  refine v_sipush (n := 999) ok rfl dX9_tell_9 ?_
  refine v_callS (na := 4) ok (ct_X9_exchangeNumber z.2.1 g M 11 12 h v 999 (by decide) rfl ⟨by omega, by omega⟩ ⟨by omega, by omega⟩ (by decide)) gX9_tell_X9_exchangeNumber rfl (by decide +kernel) rfl (by decide) [] rfl (Nat.le_of_ble_eq_true rfl) dX9_tell_12 (fun v2 M3 hp1 => ?_)
  rcases hp1 with ⟨rfl, eM3, h4⟩ | ⟨rfl, eM3, h5, h6⟩ | ⟨rfl, rfl, h7, h8⟩
  · skip
    subst M3
    show V z g 3 M [(0, rf g 0), (1, iv h), (2, iv v)] [iv (-1)] 15
    first | (exact v_iret ok rt dX9_tell_15 (Or.inl (⟨rfl, rfl, (by omega)⟩))) | (exact v_iret ok rt dX9_tell_15 (Or.inr (Or.inr (⟨(congrArg (fun q : Int => some (iv q)) (show (-1) = (M 11 h) from by omega)), (by
          funext j
          by_cases hj0 : j = 11
          · subst hj0; simp [up1, up1_self]
          simp [up1, hj0]), (by omega), (by omega)⟩))))
  · skip
    subst M3
    show V z g 3 M [(0, rf g 0), (1, iv h), (2, iv v)] [iv (-2)] 15
    first | (exact v_iret ok rt dX9_tell_15 (Or.inr (Or.inl (⟨rfl, rfl, (by omega), (by omega)⟩)))) | (exact v_iret ok rt dX9_tell_15 (Or.inr (Or.inr (⟨(congrArg (fun q : Int => some (iv q)) (show (-2) = (M 11 h) from by omega)), (by
          funext j
          by_cases hj0 : j = 11
          · subst hj0; simp [up1, up1_self]
          simp [up1, hj0]), (by omega), (by omega)⟩))))
  · skip
    show V z g 3 (up1 M 11 (up ((M 11)) h v)) [(0, rf g 0), (1, iv h), (2, iv v)] [iv ((M 11) h)] 15
    first | (exact v_iret ok rt dX9_tell_15 (Or.inl (⟨rfl, (by
          funext j
          by_cases hj0 : j = 11
          · subst hj0; simp [up1, up1_self]
          simp [up1, hj0]), (by omega)⟩))) | (exact v_iret ok rt dX9_tell_15 (Or.inr (Or.inl (⟨rfl, (by
          funext j
          by_cases hj0 : j = 11
          · subst hj0; simp [up1, up1_self]
          simp [up1, hj0]), (by omega), (by omega)⟩)))) | (exact v_iret ok rt dX9_tell_15 (Or.inr (Or.inr (⟨(congrArg (fun q : Int => some (iv q)) (show ((M 11) h) = (M 11 h) from by omega)), rfl, (by omega), (by omega)⟩))))

theorem mk_X9_basin_78 : Cond.constant RX9 78 (99999) ∈ wsX9_basin := by decide +kernel
theorem mk_X9_basin_12 : Cond.fieldLink RX9 12 "StormRunoff" "now" "LStormRunoff$State;" ∈ wsX9_basin := by decide +kernel
theorem mi_X9_basin_9 : ∀ w ∈ wsX90, w ∈ wsX9_basin := by decide +kernel
theorem mk_X9_basin_67 : Cond.fieldLink RX9 67 "StormRunoff$State" "site" "LStormRunoff$Site;" ∈ wsX9_basin := by decide +kernel
theorem mi_X9_basin_7 : ∀ w ∈ wsX70, w ∈ wsX9_basin := by decide +kernel
theorem mk_X9_basin_83 : Cond.fieldLink RX9 83 "StormRunoff$Site" "many" "I" ∈ wsX9_basin := by decide +kernel
theorem mi_X9_basin_6 : ∀ w ∈ wsX60, w ∈ wsX9_basin := by decide +kernel
theorem mk_X9_basin_87 : Cond.fieldLink RX9 87 "StormRunoff$Site" "basins" "[LStormRunoff$Basin;" ∈ wsX9_basin := by decide +kernel
set_option maxRecDepth 100000 in
set_option maxHeartbeats 400000 in
theorem ct_X9_basin (l : Launch) (g : Gl) (M : Mem) (v : Int) (hv : i32 v) (hs : SiteOk M 2) : Ct l g yX9_basin wsX9_basin 1 23 [rf g 0, iv v] M (fun rv M' => (rv = some (iv (-2)) ∧ M' = M ∧ (¬ (1 ≤ v ∧ v ≤ 99999))) ∨ (rv = some (iv (-4)) ∧ M' = M ∧ (1 ≤ v ∧ v ≤ 99999) ∧ (M 2 2 = 3)) ∨ (rv = some (iv (M 2 2)) ∧ M' = (up1 (up1 (up1 M (basQ (M 2 2)) (up (up (up (M (basQ (M 2 2))) 1 (dgn v)) 2 0) 3 0)) (basQ (M 2 2) + 1) (dgt v (dgn v))) 2 (up (M 2) 2 (M 2 2 + 1))) ∧ (1 ≤ v ∧ v ≤ 99999) ∧ (M 2 2 < 3))) := by
  refine Ct.of (cc := cX9_basin) (nL := 4) (ret := (some .int)) (by decide) rfl (Nat.le_of_ble_eq_true rfl) (fun z hz ok rt => ?_)
  have ok : Ok z g cX9_basin 4 RX9 wsX9_basin 1 23 := ok
  show V z g 4 M [(0, rf g 0), (1, iv v)] [] 0
  have hR : bdf (M 3) 8 0 20 := hs.1
  have hm : 0 ≤ M 2 2 ∧ M 2 2 ≤ 3 := hs.2.1
  have hA0 : bdf (M 6) 5 0 9 := hs.2.2.1.1
  have hk0 : 0 ≤ M 5 2 ∧ M 5 2 ≤ 4 := hs.2.2.1.2.2.1
  have hn0 : 0 ≤ M 5 3 ∧ M 5 3 ≤ 9 := hs.2.2.1.2.2.2
  have hA1 : bdf (M 8) 5 0 9 := hs.2.2.2.1.1
  have hk1 : 0 ≤ M 7 2 ∧ M 7 2 ≤ 4 := hs.2.2.2.1.2.2.1
  have hn1 : 0 ≤ M 7 3 ∧ M 7 3 ≤ 9 := hs.2.2.2.1.2.2.2
  have hA2 : bdf (M 10) 5 0 9 := hs.2.2.2.2.1
  have hk2 : 0 ≤ M 9 2 ∧ M 9 2 ≤ 4 := hs.2.2.2.2.2.2.1
  have hn2 : 0 ≤ M 9 3 ∧ M 9 3 ≤ 9 := hs.2.2.2.2.2.2.2
  refine v_iload_n ok 1 dX9_basin_0 rfl rfl ?_
  refine v_iconst (n := 1) ok dX9_basin_1 ?_
  refine v_ldc (n := 99999) ok mk_X9_basin_78 rfl dX9_basin_2 ?_
  refine v_callS (na := 3) ok (ct_X9_between z.2.1 g M v 1 99999 ⟨by omega, by omega⟩ (by decide) (by decide)) gX9_basin_X9_between rfl (by decide +kernel) rfl (by decide) [] rfl (Nat.le_of_ble_eq_true rfl) dX9_basin_4 (fun v2 M3 hp1 => ?_)
  rcases hp1 with ⟨rfl, eM3, h4⟩ | ⟨rfl, eM3, h5⟩
  · skip
    subst M3
    show V z g 4 M [(0, rf g 0), (1, iv v)] [iv 1] 7
    refine v_if_ne (tgt := 13) ok (by decide) dX9_basin_7 (by decide) (fun c6 => ?_) (fun c6 => absurd c6 (by decide))
    refine v_aload_n ok 0 dX9_basin_13 rfl rfl ?_
    refine v_get (T := TX9) (N := 9) (f0 := (M 0)) (v := rf g 1) ok mi_X9_basin_9 (kd_lt (show kd 0 = 9 from rfl) (by decide)) rfl rfl (cellF_9 _ (by decide)) 0 (by decide) mk_X9_basin_12 rfl rfl dX9_basin_14 ?_
    refine v_get (T := TX7) (N := 5) (f0 := (M 1)) (v := rf g 2) ok mi_X9_basin_7 (kd_lt (show kd 1 = 7 from rfl) (by decide)) rfl rfl (cellF_7 _ (by decide)) 0 (by decide) mk_X9_basin_67 rfl rfl dX9_basin_17 ?_
    refine v_astore_n ok [(2, rf g 2), (0, rf g 0), (1, iv v)] dX9_basin_20 rfl (by decide) rfl ?_
    refine v_aload_n ok 0 dX9_basin_21 rfl rfl ?_
    refine v_get (T := TX6) (N := 3) (f0 := (M 2)) (v := iv (M 2 2)) ok mi_X9_basin_6 (kd_lt (show kd 2 = 6 from rfl) (by decide)) rfl rfl (cellF_6 _ (by decide)) 2 (by decide) mk_X9_basin_83 rfl rfl dX9_basin_22 ?_
    refine v_istore_n ok [(3, iv (M 2 2)), (2, rf g 2), (0, rf g 0), (1, iv v)] dX9_basin_25 rfl (by decide) rfl ?_
    refine v_iload_n ok 0 dX9_basin_26 rfl rfl ?_
    refine v_if_lt (tgt := 39) ok ⟨by omega, by omega⟩ dX9_basin_27 (by decide) (fun c7 => absurd c7 (by omega)) (fun c7 => ?_)
    refine v_iload_n ok 0 dX9_basin_30 rfl rfl ?_
    refine v_aload_n ok 1 dX9_basin_31 rfl rfl ?_
    refine v_get (T := TX6) (N := 3) (f0 := (M 2)) (v := rf g 4) ok mi_X9_basin_6 (kd_lt (show kd 2 = 6 from rfl) (by decide)) rfl rfl (cellF_6 _ (by decide)) 1 (by decide) mk_X9_basin_87 rfl rfl dX9_basin_32 ?_
    refine v_alen13 ok (by decide) dX9_basin_35 ?_
    refine v_icmp_lt (tgt := 42) ok ⟨by omega, by omega⟩ (by decide) dX9_basin_36 (by decide) (fun c8 => ?_) (fun c8 => ?_)
    · skip
      refine v_aload_n ok 1 dX9_basin_42 rfl rfl ?_
      refine v_get (T := TX6) (N := 3) (f0 := (M 2)) (v := rf g 4) ok mi_X9_basin_6 (kd_lt (show kd 2 = 6 from rfl) (by decide)) rfl rfl (cellF_6 _ (by decide)) 1 (by decide) mk_X9_basin_87 rfl rfl dX9_basin_43 ?_
      refine v_iload_n ok 0 dX9_basin_46 rfl rfl ?_
      refine v_aald13 ok (by decide) (by omega) dX9_basin_47 (fun q9 eq9 kq9 kkq9 lnq9 => ?_)
      have hq : q9 = basQ (M 2 2) := by rw [eq9]; unfold basQ; omega
      refine v_iload_n ok 3 dX9_basin_48 rfl rfl ?_
      refine v_callV (na := 1) (i := q9) (C := RX0) (T := TX0) (N := 4) (f0 := (M q9)) ok (ct_X0_comeWith z.2.1 g M q9 v kq9 (by first | omega | assumption)) gX9_basin_X0_comeWith (kd_lt kq9 (by decide)) rfl rfl (cellF_0 _ kq9) rfl (by decide +kernel) rfl (by decide) [] rfl (Nat.le_of_ble_eq_true rfl) dX9_basin_49 (fun v11 M12 hp10 => ?_)
      obtain ⟨rfl, rfl⟩ := hp10
      show V z g 4 (up1 (up1 M q9 (up (up (up ((M q9)) 1 (dgn v)) 2 0) 3 0)) (q9 + 1) (dgt v (dgn v))) [(3, iv (M 2 2)), (2, rf g 2), (0, rf g 0), (1, iv v)] [] 52
      refine v_aload_n ok 1 dX9_basin_52 rfl rfl ?_
      refine v_iload_n ok 0 dX9_basin_53 rfl rfl ?_
      refine v_iconst (n := 1) ok dX9_basin_54 ?_
      refine v_iadd ok dX9_basin_55 ?_
      refine v_put (T := TX6) (N := 3) (f0 := (M 2)) (f' := up (M 2) 2 ((M 2 2) + 1)) (ty := .int) ok mi_X9_basin_6 (kd_lt (show kd 2 = 6 from rfl) (by decide)) rfl (by rw [up1_ne (kd_ne (show kd 2 = 6 from rfl) (show kd (q9 + 1) = 11 from kkq9) (by decide)), up1_ne (kd_ne (show kd 2 = 6 from rfl) (show kd q9 = 0 from kq9) (by decide))]) (cellF_6 _ (by decide)) tyX6 tyX6_ok nmX6 2 (by decide) mk_X9_basin_83 rfl rfl (by decide +kernel) rfl rfl (Nat.le_of_ble_eq_true rfl) ((cellF_6 _ (by decide)).trans rfl) dX9_basin_56 ?_
      refine v_iload_n ok 0 dX9_basin_59 rfl rfl ?_
      exact v_iret ok rt dX9_basin_60 (Or.inr (Or.inr (⟨rfl, (by rw [hq]), (by omega), (by omega)⟩)))
    · skip
      refine v_bipush (n := -4) ok rfl dX9_basin_39 ?_
      exact v_iret ok rt dX9_basin_41 (Or.inr (Or.inl (⟨rfl, rfl, (by omega), (by omega)⟩)))
  · skip
    subst M3
    show V z g 4 M [(0, rf g 0), (1, iv v)] [iv 0] 7
    refine v_if_ne (tgt := 13) ok (by decide) dX9_basin_7 (by decide) (fun c13 => absurd c13 (by decide)) (fun c13 => ?_)
    refine v_bipush (n := -2) ok rfl dX9_basin_10 ?_
    exact v_iret ok rt dX9_basin_12 (Or.inl (⟨rfl, rfl, (by omega)⟩))

theorem mk_X9_hold_12 : Cond.fieldLink RX9 12 "StormRunoff" "now" "LStormRunoff$State;" ∈ wsX9_hold := by decide +kernel
theorem mi_X9_hold_9 : ∀ w ∈ wsX90, w ∈ wsX9_hold := by decide +kernel
theorem mk_X9_hold_67 : Cond.fieldLink RX9 67 "StormRunoff$State" "site" "LStormRunoff$Site;" ∈ wsX9_hold := by decide +kernel
theorem mi_X9_hold_7 : ∀ w ∈ wsX70, w ∈ wsX9_hold := by decide +kernel
theorem mk_X9_hold_87 : Cond.fieldLink RX9 87 "StormRunoff$Site" "basins" "[LStormRunoff$Basin;" ∈ wsX9_hold := by decide +kernel
theorem mi_X9_hold_6 : ∀ w ∈ wsX60, w ∈ wsX9_hold := by decide +kernel
theorem mk_X9_hold_101 : Cond.fieldLink RX9 101 "StormRunoff$Basin" "kind" "I" ∈ wsX9_hold := by decide +kernel
theorem mi_X9_hold_0 : ∀ w ∈ wsX00, w ∈ wsX9_hold := by decide +kernel
theorem mk_X9_hold_104 : Cond.fieldLink RX9 104 "StormRunoff$Basin" "number" "I" ∈ wsX9_hold := by decide +kernel
set_option maxRecDepth 100000 in
set_option maxHeartbeats 400000 in
theorem ct_X9_hold (l : Launch) (g : Gl) (M : Mem) (b k n : Int) (hb : i32 b) (hk : i32 k) (hn : i32 n) (hs : SiteOk M 2) : Ct l g yX9_hold wsX9_hold 1 22 [rf g 0, iv b, iv k, iv n] M (fun rv M' => (rv = some (iv (-1)) ∧ M' = M ∧ (¬ (0 ≤ b ∧ b < M 2 2))) ∨ (rv = some (iv (-2)) ∧ M' = M ∧ (0 ≤ b ∧ b < M 2 2) ∧ (¬ (0 ≤ k ∧ k ≤ 4) ∨ ¬ (0 ≤ n ∧ n ≤ 9) ∨ (k = 2 ∧ n = 0))) ∨ (rv = some (iv (10 * M (basQ b) 2 + M (basQ b) 3)) ∧ M' = (up1 M (basQ b) (up (up (M (basQ b)) 2 k) 3 n)) ∧ (0 ≤ b ∧ b < M 2 2) ∧ ((0 ≤ k ∧ k ≤ 4) ∧ (0 ≤ n ∧ n ≤ 9) ∧ ¬ (k = 2 ∧ n = 0)))) := by
  refine Ct.of (cc := cX9_hold) (nL := 6) (ret := (some .int)) (by decide) rfl (Nat.le_of_ble_eq_true rfl) (fun z hz ok rt => ?_)
  have ok : Ok z g cX9_hold 6 RX9 wsX9_hold 1 22 := ok
  show V z g 6 M [(0, rf g 0), (1, iv b), (2, iv k), (3, iv n)] [] 0
  have hR : bdf (M 3) 8 0 20 := hs.1
  have hm : 0 ≤ M 2 2 ∧ M 2 2 ≤ 3 := hs.2.1
  have hA0 : bdf (M 6) 5 0 9 := hs.2.2.1.1
  have hk0 : 0 ≤ M 5 2 ∧ M 5 2 ≤ 4 := hs.2.2.1.2.2.1
  have hn0 : 0 ≤ M 5 3 ∧ M 5 3 ≤ 9 := hs.2.2.1.2.2.2
  have hA1 : bdf (M 8) 5 0 9 := hs.2.2.2.1.1
  have hk1 : 0 ≤ M 7 2 ∧ M 7 2 ≤ 4 := hs.2.2.2.1.2.2.1
  have hn1 : 0 ≤ M 7 3 ∧ M 7 3 ≤ 9 := hs.2.2.2.1.2.2.2
  have hA2 : bdf (M 10) 5 0 9 := hs.2.2.2.2.1
  have hk2 : 0 ≤ M 9 2 ∧ M 9 2 ≤ 4 := hs.2.2.2.2.2.2.1
  have hn2 : 0 ≤ M 9 3 ∧ M 9 3 ≤ 9 := hs.2.2.2.2.2.2.2
  refine v_aload_n ok 0 dX9_hold_0 rfl rfl ?_
  refine v_get (T := TX9) (N := 9) (f0 := (M 0)) (v := rf g 1) ok mi_X9_hold_9 (kd_lt (show kd 0 = 9 from rfl) (by decide)) rfl rfl (cellF_9 _ (by decide)) 0 (by decide) mk_X9_hold_12 rfl rfl dX9_hold_1 ?_
  refine v_get (T := TX7) (N := 5) (f0 := (M 1)) (v := rf g 2) ok mi_X9_hold_7 (kd_lt (show kd 1 = 7 from rfl) (by decide)) rfl rfl (cellF_7 _ (by decide)) 0 (by decide) mk_X9_hold_67 rfl rfl dX9_hold_4 ?_
  refine v_iload_n ok 1 dX9_hold_7 rfl rfl ?_
  refine v_callV (na := 1) (i := 2) (C := RX6) (T := TX6) (N := 3) (f0 := (M 2)) ok (ct_X6_has z.2.1 g M 2 b (by decide) ⟨by omega, by omega⟩ hm) gX9_hold_X6_has (kd_lt (show kd 2 = 6 from rfl) (by decide)) rfl rfl (cellF_6 _ (by decide)) rfl (by decide +kernel) rfl (by decide) [] rfl (Nat.le_of_ble_eq_true rfl) dX9_hold_8 (fun v2 M3 hp1 => ?_)
  rcases hp1 with ⟨rfl, eM3, h4⟩ | ⟨rfl, eM3, h5⟩
  · skip
    subst M3
    have h4 : 0 ≤ b ∧ b < (M 2) 2 := h4
    show V z g 6 M [(0, rf g 0), (1, iv b), (2, iv k), (3, iv n)] [iv 1] 11
    refine v_if_ne (tgt := 16) ok (by decide) dX9_hold_11 (by decide) (fun c6 => ?_) (fun c6 => absurd c6 (by decide))
    refine v_iload_n ok 2 dX9_hold_16 rfl rfl ?_
    refine v_iconst (n := 0) ok dX9_hold_17 ?_
    refine v_iconst (n := 4) ok dX9_hold_18 ?_
    refine v_callS (na := 3) ok (ct_X9_between z.2.1 g M k 0 4 ⟨by omega, by omega⟩ (by decide) (by decide)) gX9_hold_X9_between rfl (by decide +kernel) rfl (by decide) [] rfl (Nat.le_of_ble_eq_true rfl) dX9_hold_19 (fun v8 M9 hp7 => ?_)
    rcases hp7 with ⟨rfl, eM9, h10⟩ | ⟨rfl, eM9, h11⟩
    · skip
      subst M9
      show V z g 6 M [(0, rf g 0), (1, iv b), (2, iv k), (3, iv n)] [iv 1] 22
      refine v_if_eq (tgt := 44) ok (by decide) dX9_hold_22 (by decide) (fun c12 => absurd c12 (by decide)) (fun c12 => ?_)
      refine v_iload_n ok 3 dX9_hold_25 rfl rfl ?_
      refine v_iload_n ok 2 dX9_hold_26 rfl rfl ?_
      refine v_iconst (n := 2) ok dX9_hold_27 ?_
      refine v_icmp_ne (tgt := 35) ok ⟨by omega, by omega⟩ (by decide) dX9_hold_28 (by decide) (fun c13 => ?_) (fun c13 => ?_)
      · skip
        refine v_iconst (n := 0) ok dX9_hold_35 ?_
        refine v_bipush (n := 9) ok rfl dX9_hold_36 ?_
        refine v_callS (na := 3) ok (ct_X9_between z.2.1 g M n 0 9 ⟨by omega, by omega⟩ (by decide) (by decide)) gX9_hold_X9_between rfl (by decide +kernel) rfl (by decide) [] rfl (Nat.le_of_ble_eq_true rfl) dX9_hold_38 (fun v15 M16 hp14 => ?_)
        rcases hp14 with ⟨rfl, eM16, h17⟩ | ⟨rfl, eM16, h18⟩
        · skip
          subst M16
          show V z g 6 M [(0, rf g 0), (1, iv b), (2, iv k), (3, iv n)] [iv 1] 41
          refine v_if_ne (tgt := 47) ok (by decide) dX9_hold_41 (by decide) (fun c19 => ?_) (fun c19 => absurd c19 (by decide))
          have hsp47 : b = 0 ∨ b = 1 ∨ b = 2 := by omega
          rcases hsp47 with rfl | rfl | rfl
          · skip
            refine v_aload_n ok 0 dX9_hold_47 rfl rfl ?_
            refine v_get (T := TX9) (N := 9) (f0 := (M 0)) (v := rf g 1) ok mi_X9_hold_9 (kd_lt (show kd 0 = 9 from rfl) (by decide)) rfl rfl (cellF_9 _ (by decide)) 0 (by decide) mk_X9_hold_12 rfl rfl dX9_hold_48 ?_
            refine v_get (T := TX7) (N := 5) (f0 := (M 1)) (v := rf g 2) ok mi_X9_hold_7 (kd_lt (show kd 1 = 7 from rfl) (by decide)) rfl rfl (cellF_7 _ (by decide)) 0 (by decide) mk_X9_hold_67 rfl rfl dX9_hold_51 ?_
            refine v_get (T := TX6) (N := 3) (f0 := (M 2)) (v := rf g 4) ok mi_X9_hold_6 (kd_lt (show kd 2 = 6 from rfl) (by decide)) rfl rfl (cellF_6 _ (by decide)) 1 (by decide) mk_X9_hold_87 rfl rfl dX9_hold_54 ?_
            refine v_iload_n ok 1 dX9_hold_57 rfl rfl ?_
            refine v_aald13L (q := 5) ok (by decide) (by decide) rfl dX9_hold_58 ?_
            refine v_astore ok [(4, rf g 5), (0, rf g 0), (1, iv 0), (2, iv k), (3, iv n)] dX9_hold_59 (by decide) rfl ?_
            refine v_bipush (n := 10) ok rfl dX9_hold_61 ?_
            refine v_aload ok 0 dX9_hold_63 rfl ?_
            refine v_get (T := TX0) (N := 4) (f0 := (M 5)) (v := iv (M 5 2)) ok mi_X9_hold_0 (kd_lt (show kd 5 = 0 from rfl) (by decide)) rfl rfl (cellF_0 _ (by decide)) 2 (by decide) mk_X9_hold_101 rfl rfl dX9_hold_65 ?_
            refine v_imul ok dX9_hold_68 ?_
            refine v_aload ok 0 dX9_hold_69 rfl ?_
            refine v_get (T := TX0) (N := 4) (f0 := (M 5)) (v := iv (M 5 3)) ok mi_X9_hold_0 (kd_lt (show kd 5 = 0 from rfl) (by decide)) rfl rfl (cellF_0 _ (by decide)) 3 (by decide) mk_X9_hold_104 rfl rfl dX9_hold_71 ?_
            refine v_iadd ok dX9_hold_74 ?_
            refine v_istore ok [(5, iv ((10 * (M 5 2)) + (M 5 3))), (4, rf g 5), (0, rf g 0), (1, iv 0), (2, iv k), (3, iv n)] dX9_hold_75 (by decide) rfl ?_
            refine v_aload ok 1 dX9_hold_77 rfl ?_
            refine v_iload_n ok 4 dX9_hold_79 rfl rfl ?_
            refine v_put (T := TX0) (N := 4) (f0 := (M 5)) (f' := up (M 5) 2 k) (ty := .int) ok mi_X9_hold_0 (kd_lt (show kd 5 = 0 from rfl) (by decide)) rfl rfl (cellF_0 _ (by decide)) tyX0 tyX0_ok nmX0 2 (by decide) mk_X9_hold_101 rfl rfl (by decide +kernel) rfl rfl (Nat.le_of_ble_eq_true rfl) ((cellF_0 _ (by decide)).trans rfl) dX9_hold_80 ?_
            refine v_aload ok 1 dX9_hold_83 rfl ?_
            refine v_iload_n ok 5 dX9_hold_85 rfl rfl ?_
            refine v_put (T := TX0) (N := 4) (f0 := up (M 5) 2 k) (f' := up (up (M 5) 2 k) 3 n) (ty := .int) ok mi_X9_hold_0 (kd_lt (show kd 5 = 0 from rfl) (by decide)) rfl rfl (cellF_0 _ (by decide)) tyX0 tyX0_ok nmX0 3 (by decide) mk_X9_hold_104 rfl rfl (by decide +kernel) rfl rfl (Nat.le_of_ble_eq_true rfl) ((cellF_0 _ (by decide)).trans rfl) dX9_hold_86 ?_
            rw [up1_up1]
            refine v_iload ok 0 dX9_hold_89 rfl ?_
            exact v_iret ok rt dX9_hold_91 (Or.inr (Or.inr (⟨(congrArg (fun q : Int => some (iv q)) (show ((10 * (M 5 2)) + (M 5 3)) = (10 * M (basQ 0) 2 + M (basQ 0) 3) from by rfl)), rfl, (by omega), (by omega)⟩)))
          · skip
            refine v_aload_n ok 0 dX9_hold_47 rfl rfl ?_
            refine v_get (T := TX9) (N := 9) (f0 := (M 0)) (v := rf g 1) ok mi_X9_hold_9 (kd_lt (show kd 0 = 9 from rfl) (by decide)) rfl rfl (cellF_9 _ (by decide)) 0 (by decide) mk_X9_hold_12 rfl rfl dX9_hold_48 ?_
            refine v_get (T := TX7) (N := 5) (f0 := (M 1)) (v := rf g 2) ok mi_X9_hold_7 (kd_lt (show kd 1 = 7 from rfl) (by decide)) rfl rfl (cellF_7 _ (by decide)) 0 (by decide) mk_X9_hold_67 rfl rfl dX9_hold_51 ?_
            refine v_get (T := TX6) (N := 3) (f0 := (M 2)) (v := rf g 4) ok mi_X9_hold_6 (kd_lt (show kd 2 = 6 from rfl) (by decide)) rfl rfl (cellF_6 _ (by decide)) 1 (by decide) mk_X9_hold_87 rfl rfl dX9_hold_54 ?_
            refine v_iload_n ok 1 dX9_hold_57 rfl rfl ?_
            refine v_aald13L (q := 7) ok (by decide) (by decide) rfl dX9_hold_58 ?_
            refine v_astore ok [(4, rf g 7), (0, rf g 0), (1, iv 1), (2, iv k), (3, iv n)] dX9_hold_59 (by decide) rfl ?_
            refine v_bipush (n := 10) ok rfl dX9_hold_61 ?_
            refine v_aload ok 0 dX9_hold_63 rfl ?_
            refine v_get (T := TX0) (N := 4) (f0 := (M 7)) (v := iv (M 7 2)) ok mi_X9_hold_0 (kd_lt (show kd 7 = 0 from rfl) (by decide)) rfl rfl (cellF_0 _ (by decide)) 2 (by decide) mk_X9_hold_101 rfl rfl dX9_hold_65 ?_
            refine v_imul ok dX9_hold_68 ?_
            refine v_aload ok 0 dX9_hold_69 rfl ?_
            refine v_get (T := TX0) (N := 4) (f0 := (M 7)) (v := iv (M 7 3)) ok mi_X9_hold_0 (kd_lt (show kd 7 = 0 from rfl) (by decide)) rfl rfl (cellF_0 _ (by decide)) 3 (by decide) mk_X9_hold_104 rfl rfl dX9_hold_71 ?_
            refine v_iadd ok dX9_hold_74 ?_
            refine v_istore ok [(5, iv ((10 * (M 7 2)) + (M 7 3))), (4, rf g 7), (0, rf g 0), (1, iv 1), (2, iv k), (3, iv n)] dX9_hold_75 (by decide) rfl ?_
            refine v_aload ok 1 dX9_hold_77 rfl ?_
            refine v_iload_n ok 4 dX9_hold_79 rfl rfl ?_
            refine v_put (T := TX0) (N := 4) (f0 := (M 7)) (f' := up (M 7) 2 k) (ty := .int) ok mi_X9_hold_0 (kd_lt (show kd 7 = 0 from rfl) (by decide)) rfl rfl (cellF_0 _ (by decide)) tyX0 tyX0_ok nmX0 2 (by decide) mk_X9_hold_101 rfl rfl (by decide +kernel) rfl rfl (Nat.le_of_ble_eq_true rfl) ((cellF_0 _ (by decide)).trans rfl) dX9_hold_80 ?_
            refine v_aload ok 1 dX9_hold_83 rfl ?_
            refine v_iload_n ok 5 dX9_hold_85 rfl rfl ?_
            refine v_put (T := TX0) (N := 4) (f0 := up (M 7) 2 k) (f' := up (up (M 7) 2 k) 3 n) (ty := .int) ok mi_X9_hold_0 (kd_lt (show kd 7 = 0 from rfl) (by decide)) rfl rfl (cellF_0 _ (by decide)) tyX0 tyX0_ok nmX0 3 (by decide) mk_X9_hold_104 rfl rfl (by decide +kernel) rfl rfl (Nat.le_of_ble_eq_true rfl) ((cellF_0 _ (by decide)).trans rfl) dX9_hold_86 ?_
            rw [up1_up1]
            refine v_iload ok 0 dX9_hold_89 rfl ?_
            exact v_iret ok rt dX9_hold_91 (Or.inr (Or.inr (⟨(congrArg (fun q : Int => some (iv q)) (show ((10 * (M 7 2)) + (M 7 3)) = (10 * M (basQ 1) 2 + M (basQ 1) 3) from by rfl)), rfl, (by omega), (by omega)⟩)))
          · skip
            refine v_aload_n ok 0 dX9_hold_47 rfl rfl ?_
            refine v_get (T := TX9) (N := 9) (f0 := (M 0)) (v := rf g 1) ok mi_X9_hold_9 (kd_lt (show kd 0 = 9 from rfl) (by decide)) rfl rfl (cellF_9 _ (by decide)) 0 (by decide) mk_X9_hold_12 rfl rfl dX9_hold_48 ?_
            refine v_get (T := TX7) (N := 5) (f0 := (M 1)) (v := rf g 2) ok mi_X9_hold_7 (kd_lt (show kd 1 = 7 from rfl) (by decide)) rfl rfl (cellF_7 _ (by decide)) 0 (by decide) mk_X9_hold_67 rfl rfl dX9_hold_51 ?_
            refine v_get (T := TX6) (N := 3) (f0 := (M 2)) (v := rf g 4) ok mi_X9_hold_6 (kd_lt (show kd 2 = 6 from rfl) (by decide)) rfl rfl (cellF_6 _ (by decide)) 1 (by decide) mk_X9_hold_87 rfl rfl dX9_hold_54 ?_
            refine v_iload_n ok 1 dX9_hold_57 rfl rfl ?_
            refine v_aald13L (q := 9) ok (by decide) (by decide) rfl dX9_hold_58 ?_
            refine v_astore ok [(4, rf g 9), (0, rf g 0), (1, iv 2), (2, iv k), (3, iv n)] dX9_hold_59 (by decide) rfl ?_
            refine v_bipush (n := 10) ok rfl dX9_hold_61 ?_
            refine v_aload ok 0 dX9_hold_63 rfl ?_
            refine v_get (T := TX0) (N := 4) (f0 := (M 9)) (v := iv (M 9 2)) ok mi_X9_hold_0 (kd_lt (show kd 9 = 0 from rfl) (by decide)) rfl rfl (cellF_0 _ (by decide)) 2 (by decide) mk_X9_hold_101 rfl rfl dX9_hold_65 ?_
            refine v_imul ok dX9_hold_68 ?_
            refine v_aload ok 0 dX9_hold_69 rfl ?_
            refine v_get (T := TX0) (N := 4) (f0 := (M 9)) (v := iv (M 9 3)) ok mi_X9_hold_0 (kd_lt (show kd 9 = 0 from rfl) (by decide)) rfl rfl (cellF_0 _ (by decide)) 3 (by decide) mk_X9_hold_104 rfl rfl dX9_hold_71 ?_
            refine v_iadd ok dX9_hold_74 ?_
            refine v_istore ok [(5, iv ((10 * (M 9 2)) + (M 9 3))), (4, rf g 9), (0, rf g 0), (1, iv 2), (2, iv k), (3, iv n)] dX9_hold_75 (by decide) rfl ?_
            refine v_aload ok 1 dX9_hold_77 rfl ?_
            refine v_iload_n ok 4 dX9_hold_79 rfl rfl ?_
            refine v_put (T := TX0) (N := 4) (f0 := (M 9)) (f' := up (M 9) 2 k) (ty := .int) ok mi_X9_hold_0 (kd_lt (show kd 9 = 0 from rfl) (by decide)) rfl rfl (cellF_0 _ (by decide)) tyX0 tyX0_ok nmX0 2 (by decide) mk_X9_hold_101 rfl rfl (by decide +kernel) rfl rfl (Nat.le_of_ble_eq_true rfl) ((cellF_0 _ (by decide)).trans rfl) dX9_hold_80 ?_
            refine v_aload ok 1 dX9_hold_83 rfl ?_
            refine v_iload_n ok 5 dX9_hold_85 rfl rfl ?_
            refine v_put (T := TX0) (N := 4) (f0 := up (M 9) 2 k) (f' := up (up (M 9) 2 k) 3 n) (ty := .int) ok mi_X9_hold_0 (kd_lt (show kd 9 = 0 from rfl) (by decide)) rfl rfl (cellF_0 _ (by decide)) tyX0 tyX0_ok nmX0 3 (by decide) mk_X9_hold_104 rfl rfl (by decide +kernel) rfl rfl (Nat.le_of_ble_eq_true rfl) ((cellF_0 _ (by decide)).trans rfl) dX9_hold_86 ?_
            rw [up1_up1]
            refine v_iload ok 0 dX9_hold_89 rfl ?_
            exact v_iret ok rt dX9_hold_91 (Or.inr (Or.inr (⟨(congrArg (fun q : Int => some (iv q)) (show ((10 * (M 9 2)) + (M 9 3)) = (10 * M (basQ 2) 2 + M (basQ 2) 3) from by rfl)), rfl, (by omega), (by omega)⟩)))
        · skip
          subst M16
          show V z g 6 M [(0, rf g 0), (1, iv b), (2, iv k), (3, iv n)] [iv 0] 41
          refine v_if_ne (tgt := 47) ok (by decide) dX9_hold_41 (by decide) (fun c20 => absurd c20 (by decide)) (fun c20 => ?_)
          refine v_bipush (n := -2) ok rfl dX9_hold_44 ?_
          exact v_iret ok rt dX9_hold_46 (Or.inr (Or.inl (⟨rfl, rfl, (by omega), (by omega)⟩)))
      · skip
        refine v_iconst (n := 1) ok dX9_hold_31 ?_
        refine v_goto (tgt := 36) ok dX9_hold_32 (by decide) ?_
        refine v_bipush (n := 9) ok rfl dX9_hold_36 ?_
        refine v_callS (na := 3) ok (ct_X9_between z.2.1 g M n 1 9 ⟨by omega, by omega⟩ (by decide) (by decide)) gX9_hold_X9_between rfl (by decide +kernel) rfl (by decide) [] rfl (Nat.le_of_ble_eq_true rfl) dX9_hold_38 (fun v22 M23 hp21 => ?_)
        rcases hp21 with ⟨rfl, eM23, h24⟩ | ⟨rfl, eM23, h25⟩
        · skip
          subst M23
          show V z g 6 M [(0, rf g 0), (1, iv b), (2, iv k), (3, iv n)] [iv 1] 41
          refine v_if_ne (tgt := 47) ok (by decide) dX9_hold_41 (by decide) (fun c26 => ?_) (fun c26 => absurd c26 (by decide))
          have hsp47 : b = 0 ∨ b = 1 ∨ b = 2 := by omega
          rcases hsp47 with rfl | rfl | rfl
          · skip
            refine v_aload_n ok 0 dX9_hold_47 rfl rfl ?_
            refine v_get (T := TX9) (N := 9) (f0 := (M 0)) (v := rf g 1) ok mi_X9_hold_9 (kd_lt (show kd 0 = 9 from rfl) (by decide)) rfl rfl (cellF_9 _ (by decide)) 0 (by decide) mk_X9_hold_12 rfl rfl dX9_hold_48 ?_
            refine v_get (T := TX7) (N := 5) (f0 := (M 1)) (v := rf g 2) ok mi_X9_hold_7 (kd_lt (show kd 1 = 7 from rfl) (by decide)) rfl rfl (cellF_7 _ (by decide)) 0 (by decide) mk_X9_hold_67 rfl rfl dX9_hold_51 ?_
            refine v_get (T := TX6) (N := 3) (f0 := (M 2)) (v := rf g 4) ok mi_X9_hold_6 (kd_lt (show kd 2 = 6 from rfl) (by decide)) rfl rfl (cellF_6 _ (by decide)) 1 (by decide) mk_X9_hold_87 rfl rfl dX9_hold_54 ?_
            refine v_iload_n ok 1 dX9_hold_57 rfl rfl ?_
            refine v_aald13L (q := 5) ok (by decide) (by decide) rfl dX9_hold_58 ?_
            refine v_astore ok [(4, rf g 5), (0, rf g 0), (1, iv 0), (2, iv k), (3, iv n)] dX9_hold_59 (by decide) rfl ?_
            refine v_bipush (n := 10) ok rfl dX9_hold_61 ?_
            refine v_aload ok 0 dX9_hold_63 rfl ?_
            refine v_get (T := TX0) (N := 4) (f0 := (M 5)) (v := iv (M 5 2)) ok mi_X9_hold_0 (kd_lt (show kd 5 = 0 from rfl) (by decide)) rfl rfl (cellF_0 _ (by decide)) 2 (by decide) mk_X9_hold_101 rfl rfl dX9_hold_65 ?_
            refine v_imul ok dX9_hold_68 ?_
            refine v_aload ok 0 dX9_hold_69 rfl ?_
            refine v_get (T := TX0) (N := 4) (f0 := (M 5)) (v := iv (M 5 3)) ok mi_X9_hold_0 (kd_lt (show kd 5 = 0 from rfl) (by decide)) rfl rfl (cellF_0 _ (by decide)) 3 (by decide) mk_X9_hold_104 rfl rfl dX9_hold_71 ?_
            refine v_iadd ok dX9_hold_74 ?_
            refine v_istore ok [(5, iv ((10 * (M 5 2)) + (M 5 3))), (4, rf g 5), (0, rf g 0), (1, iv 0), (2, iv k), (3, iv n)] dX9_hold_75 (by decide) rfl ?_
            refine v_aload ok 1 dX9_hold_77 rfl ?_
            refine v_iload_n ok 4 dX9_hold_79 rfl rfl ?_
            refine v_put (T := TX0) (N := 4) (f0 := (M 5)) (f' := up (M 5) 2 k) (ty := .int) ok mi_X9_hold_0 (kd_lt (show kd 5 = 0 from rfl) (by decide)) rfl rfl (cellF_0 _ (by decide)) tyX0 tyX0_ok nmX0 2 (by decide) mk_X9_hold_101 rfl rfl (by decide +kernel) rfl rfl (Nat.le_of_ble_eq_true rfl) ((cellF_0 _ (by decide)).trans rfl) dX9_hold_80 ?_
            refine v_aload ok 1 dX9_hold_83 rfl ?_
            refine v_iload_n ok 5 dX9_hold_85 rfl rfl ?_
            refine v_put (T := TX0) (N := 4) (f0 := up (M 5) 2 k) (f' := up (up (M 5) 2 k) 3 n) (ty := .int) ok mi_X9_hold_0 (kd_lt (show kd 5 = 0 from rfl) (by decide)) rfl rfl (cellF_0 _ (by decide)) tyX0 tyX0_ok nmX0 3 (by decide) mk_X9_hold_104 rfl rfl (by decide +kernel) rfl rfl (Nat.le_of_ble_eq_true rfl) ((cellF_0 _ (by decide)).trans rfl) dX9_hold_86 ?_
            rw [up1_up1]
            refine v_iload ok 0 dX9_hold_89 rfl ?_
            exact v_iret ok rt dX9_hold_91 (Or.inr (Or.inr (⟨(congrArg (fun q : Int => some (iv q)) (show ((10 * (M 5 2)) + (M 5 3)) = (10 * M (basQ 0) 2 + M (basQ 0) 3) from by rfl)), rfl, (by omega), (by omega)⟩)))
          · skip
            refine v_aload_n ok 0 dX9_hold_47 rfl rfl ?_
            refine v_get (T := TX9) (N := 9) (f0 := (M 0)) (v := rf g 1) ok mi_X9_hold_9 (kd_lt (show kd 0 = 9 from rfl) (by decide)) rfl rfl (cellF_9 _ (by decide)) 0 (by decide) mk_X9_hold_12 rfl rfl dX9_hold_48 ?_
            refine v_get (T := TX7) (N := 5) (f0 := (M 1)) (v := rf g 2) ok mi_X9_hold_7 (kd_lt (show kd 1 = 7 from rfl) (by decide)) rfl rfl (cellF_7 _ (by decide)) 0 (by decide) mk_X9_hold_67 rfl rfl dX9_hold_51 ?_
            refine v_get (T := TX6) (N := 3) (f0 := (M 2)) (v := rf g 4) ok mi_X9_hold_6 (kd_lt (show kd 2 = 6 from rfl) (by decide)) rfl rfl (cellF_6 _ (by decide)) 1 (by decide) mk_X9_hold_87 rfl rfl dX9_hold_54 ?_
            refine v_iload_n ok 1 dX9_hold_57 rfl rfl ?_
            refine v_aald13L (q := 7) ok (by decide) (by decide) rfl dX9_hold_58 ?_
            refine v_astore ok [(4, rf g 7), (0, rf g 0), (1, iv 1), (2, iv k), (3, iv n)] dX9_hold_59 (by decide) rfl ?_
            refine v_bipush (n := 10) ok rfl dX9_hold_61 ?_
            refine v_aload ok 0 dX9_hold_63 rfl ?_
            refine v_get (T := TX0) (N := 4) (f0 := (M 7)) (v := iv (M 7 2)) ok mi_X9_hold_0 (kd_lt (show kd 7 = 0 from rfl) (by decide)) rfl rfl (cellF_0 _ (by decide)) 2 (by decide) mk_X9_hold_101 rfl rfl dX9_hold_65 ?_
            refine v_imul ok dX9_hold_68 ?_
            refine v_aload ok 0 dX9_hold_69 rfl ?_
            refine v_get (T := TX0) (N := 4) (f0 := (M 7)) (v := iv (M 7 3)) ok mi_X9_hold_0 (kd_lt (show kd 7 = 0 from rfl) (by decide)) rfl rfl (cellF_0 _ (by decide)) 3 (by decide) mk_X9_hold_104 rfl rfl dX9_hold_71 ?_
            refine v_iadd ok dX9_hold_74 ?_
            refine v_istore ok [(5, iv ((10 * (M 7 2)) + (M 7 3))), (4, rf g 7), (0, rf g 0), (1, iv 1), (2, iv k), (3, iv n)] dX9_hold_75 (by decide) rfl ?_
            refine v_aload ok 1 dX9_hold_77 rfl ?_
            refine v_iload_n ok 4 dX9_hold_79 rfl rfl ?_
            refine v_put (T := TX0) (N := 4) (f0 := (M 7)) (f' := up (M 7) 2 k) (ty := .int) ok mi_X9_hold_0 (kd_lt (show kd 7 = 0 from rfl) (by decide)) rfl rfl (cellF_0 _ (by decide)) tyX0 tyX0_ok nmX0 2 (by decide) mk_X9_hold_101 rfl rfl (by decide +kernel) rfl rfl (Nat.le_of_ble_eq_true rfl) ((cellF_0 _ (by decide)).trans rfl) dX9_hold_80 ?_
            refine v_aload ok 1 dX9_hold_83 rfl ?_
            refine v_iload_n ok 5 dX9_hold_85 rfl rfl ?_
            refine v_put (T := TX0) (N := 4) (f0 := up (M 7) 2 k) (f' := up (up (M 7) 2 k) 3 n) (ty := .int) ok mi_X9_hold_0 (kd_lt (show kd 7 = 0 from rfl) (by decide)) rfl rfl (cellF_0 _ (by decide)) tyX0 tyX0_ok nmX0 3 (by decide) mk_X9_hold_104 rfl rfl (by decide +kernel) rfl rfl (Nat.le_of_ble_eq_true rfl) ((cellF_0 _ (by decide)).trans rfl) dX9_hold_86 ?_
            rw [up1_up1]
            refine v_iload ok 0 dX9_hold_89 rfl ?_
            exact v_iret ok rt dX9_hold_91 (Or.inr (Or.inr (⟨(congrArg (fun q : Int => some (iv q)) (show ((10 * (M 7 2)) + (M 7 3)) = (10 * M (basQ 1) 2 + M (basQ 1) 3) from by rfl)), rfl, (by omega), (by omega)⟩)))
          · skip
            refine v_aload_n ok 0 dX9_hold_47 rfl rfl ?_
            refine v_get (T := TX9) (N := 9) (f0 := (M 0)) (v := rf g 1) ok mi_X9_hold_9 (kd_lt (show kd 0 = 9 from rfl) (by decide)) rfl rfl (cellF_9 _ (by decide)) 0 (by decide) mk_X9_hold_12 rfl rfl dX9_hold_48 ?_
            refine v_get (T := TX7) (N := 5) (f0 := (M 1)) (v := rf g 2) ok mi_X9_hold_7 (kd_lt (show kd 1 = 7 from rfl) (by decide)) rfl rfl (cellF_7 _ (by decide)) 0 (by decide) mk_X9_hold_67 rfl rfl dX9_hold_51 ?_
            refine v_get (T := TX6) (N := 3) (f0 := (M 2)) (v := rf g 4) ok mi_X9_hold_6 (kd_lt (show kd 2 = 6 from rfl) (by decide)) rfl rfl (cellF_6 _ (by decide)) 1 (by decide) mk_X9_hold_87 rfl rfl dX9_hold_54 ?_
            refine v_iload_n ok 1 dX9_hold_57 rfl rfl ?_
            refine v_aald13L (q := 9) ok (by decide) (by decide) rfl dX9_hold_58 ?_
            refine v_astore ok [(4, rf g 9), (0, rf g 0), (1, iv 2), (2, iv k), (3, iv n)] dX9_hold_59 (by decide) rfl ?_
            refine v_bipush (n := 10) ok rfl dX9_hold_61 ?_
            refine v_aload ok 0 dX9_hold_63 rfl ?_
            refine v_get (T := TX0) (N := 4) (f0 := (M 9)) (v := iv (M 9 2)) ok mi_X9_hold_0 (kd_lt (show kd 9 = 0 from rfl) (by decide)) rfl rfl (cellF_0 _ (by decide)) 2 (by decide) mk_X9_hold_101 rfl rfl dX9_hold_65 ?_
            refine v_imul ok dX9_hold_68 ?_
            refine v_aload ok 0 dX9_hold_69 rfl ?_
            refine v_get (T := TX0) (N := 4) (f0 := (M 9)) (v := iv (M 9 3)) ok mi_X9_hold_0 (kd_lt (show kd 9 = 0 from rfl) (by decide)) rfl rfl (cellF_0 _ (by decide)) 3 (by decide) mk_X9_hold_104 rfl rfl dX9_hold_71 ?_
            refine v_iadd ok dX9_hold_74 ?_
            refine v_istore ok [(5, iv ((10 * (M 9 2)) + (M 9 3))), (4, rf g 9), (0, rf g 0), (1, iv 2), (2, iv k), (3, iv n)] dX9_hold_75 (by decide) rfl ?_
            refine v_aload ok 1 dX9_hold_77 rfl ?_
            refine v_iload_n ok 4 dX9_hold_79 rfl rfl ?_
            refine v_put (T := TX0) (N := 4) (f0 := (M 9)) (f' := up (M 9) 2 k) (ty := .int) ok mi_X9_hold_0 (kd_lt (show kd 9 = 0 from rfl) (by decide)) rfl rfl (cellF_0 _ (by decide)) tyX0 tyX0_ok nmX0 2 (by decide) mk_X9_hold_101 rfl rfl (by decide +kernel) rfl rfl (Nat.le_of_ble_eq_true rfl) ((cellF_0 _ (by decide)).trans rfl) dX9_hold_80 ?_
            refine v_aload ok 1 dX9_hold_83 rfl ?_
            refine v_iload_n ok 5 dX9_hold_85 rfl rfl ?_
            refine v_put (T := TX0) (N := 4) (f0 := up (M 9) 2 k) (f' := up (up (M 9) 2 k) 3 n) (ty := .int) ok mi_X9_hold_0 (kd_lt (show kd 9 = 0 from rfl) (by decide)) rfl rfl (cellF_0 _ (by decide)) tyX0 tyX0_ok nmX0 3 (by decide) mk_X9_hold_104 rfl rfl (by decide +kernel) rfl rfl (Nat.le_of_ble_eq_true rfl) ((cellF_0 _ (by decide)).trans rfl) dX9_hold_86 ?_
            rw [up1_up1]
            refine v_iload ok 0 dX9_hold_89 rfl ?_
            exact v_iret ok rt dX9_hold_91 (Or.inr (Or.inr (⟨(congrArg (fun q : Int => some (iv q)) (show ((10 * (M 9 2)) + (M 9 3)) = (10 * M (basQ 2) 2 + M (basQ 2) 3) from by rfl)), rfl, (by omega), (by omega)⟩)))
        · skip
          subst M23
          show V z g 6 M [(0, rf g 0), (1, iv b), (2, iv k), (3, iv n)] [iv 0] 41
          refine v_if_ne (tgt := 47) ok (by decide) dX9_hold_41 (by decide) (fun c27 => absurd c27 (by decide)) (fun c27 => ?_)
          refine v_bipush (n := -2) ok rfl dX9_hold_44 ?_
          exact v_iret ok rt dX9_hold_46 (Or.inr (Or.inl (⟨rfl, rfl, (by omega), (by omega)⟩)))
    · skip
      subst M9
      show V z g 6 M [(0, rf g 0), (1, iv b), (2, iv k), (3, iv n)] [iv 0] 22
      refine v_if_eq (tgt := 44) ok (by decide) dX9_hold_22 (by decide) (fun c28 => ?_) (fun c28 => absurd c28 (by decide))
      refine v_bipush (n := -2) ok rfl dX9_hold_44 ?_
      exact v_iret ok rt dX9_hold_46 (Or.inr (Or.inl (⟨rfl, rfl, (by omega), (by omega)⟩)))
  · skip
    subst M3
    have h5 : ¬ (0 ≤ b ∧ b < (M 2) 2) := h5
    show V z g 6 M [(0, rf g 0), (1, iv b), (2, iv k), (3, iv n)] [iv 0] 11
    refine v_if_ne (tgt := 16) ok (by decide) dX9_hold_11 (by decide) (fun c29 => absurd c29 (by decide)) (fun c29 => ?_)
    refine v_iconst (n := -1) ok dX9_hold_14 ?_
    exact v_iret ok rt dX9_hold_15 (Or.inl (⟨rfl, rfl, (by omega)⟩))

theorem mk_X9_flaw_12 : Cond.fieldLink RX9 12 "StormRunoff" "now" "LStormRunoff$State;" ∈ wsX9_flaw := by decide +kernel
theorem mi_X9_flaw_9 : ∀ w ∈ wsX90, w ∈ wsX9_flaw := by decide +kernel
theorem mk_X9_flaw_67 : Cond.fieldLink RX9 67 "StormRunoff$State" "site" "LStormRunoff$Site;" ∈ wsX9_flaw := by decide +kernel
theorem mi_X9_flaw_7 : ∀ w ∈ wsX70, w ∈ wsX9_flaw := by decide +kernel
theorem mk_X9_flaw_42 : Cond.fieldLink RX9 42 "StormRunoff" "division" "LStormRunoff$Division;" ∈ wsX9_flaw := by decide +kernel
theorem mk_X9_flaw_87 : Cond.fieldLink RX9 87 "StormRunoff$Site" "basins" "[LStormRunoff$Basin;" ∈ wsX9_flaw := by decide +kernel
theorem mi_X9_flaw_6 : ∀ w ∈ wsX60, w ∈ wsX9_flaw := by decide +kernel
theorem mk_X9_flaw_107 : Cond.fieldLink RX9 107 "StormRunoff$State" "told" "[I" ∈ wsX9_flaw := by decide +kernel
set_option maxRecDepth 100000 in
set_option maxHeartbeats 400000 in
theorem ct_X9_flaw (l : Launch) (g : Gl) (M : Mem) (b : Int) (hb : i32 b) (hs : SiteOk M 2) (hT : bdf (M 11) 12 0 999) : Ct l g yX9_flaw wsX9_flaw 3 69 [rf g 0, iv b] M (fun rv M' => (rv = some (iv (-1)) ∧ M' = M ∧ (¬ (0 ≤ b ∧ b < M 2 2))) ∨ (∃ (L U : Int → Int), rv = some (iv (unfR (M 11) (M (basQ b + 1)))) ∧ M' = (up1 (up1 M 55 L) 56 U) ∧ (0 ≤ b ∧ b < M 2 2))) := by
  refine Ct.of (cc := cX9_flaw) (nL := 2) (ret := (some .int)) (by decide) rfl (Nat.le_of_ble_eq_true rfl) (fun z hz ok rt => ?_)
  have ok : Ok z g cX9_flaw 2 RX9 wsX9_flaw 3 69 := ok
  show V z g 2 M [(0, rf g 0), (1, iv b)] [] 0
  have hR : bdf (M 3) 8 0 20 := hs.1
  have hm : 0 ≤ M 2 2 ∧ M 2 2 ≤ 3 := hs.2.1
  have hA0 : bdf (M 6) 5 0 9 := hs.2.2.1.1
  have hk0 : 0 ≤ M 5 2 ∧ M 5 2 ≤ 4 := hs.2.2.1.2.2.1
  have hn0 : 0 ≤ M 5 3 ∧ M 5 3 ≤ 9 := hs.2.2.1.2.2.2
  have hA1 : bdf (M 8) 5 0 9 := hs.2.2.2.1.1
  have hk1 : 0 ≤ M 7 2 ∧ M 7 2 ≤ 4 := hs.2.2.2.1.2.2.1
  have hn1 : 0 ≤ M 7 3 ∧ M 7 3 ≤ 9 := hs.2.2.2.1.2.2.2
  have hA2 : bdf (M 10) 5 0 9 := hs.2.2.2.2.1
  have hk2 : 0 ≤ M 9 2 ∧ M 9 2 ≤ 4 := hs.2.2.2.2.2.2.1
  have hn2 : 0 ≤ M 9 3 ∧ M 9 3 ≤ 9 := hs.2.2.2.2.2.2.2
  refine v_aload_n ok 0 dX9_flaw_0 rfl rfl ?_
  refine v_get (T := TX9) (N := 9) (f0 := (M 0)) (v := rf g 1) ok mi_X9_flaw_9 (kd_lt (show kd 0 = 9 from rfl) (by decide)) rfl rfl (cellF_9 _ (by decide)) 0 (by decide) mk_X9_flaw_12 rfl rfl dX9_flaw_1 ?_
  refine v_get (T := TX7) (N := 5) (f0 := (M 1)) (v := rf g 2) ok mi_X9_flaw_7 (kd_lt (show kd 1 = 7 from rfl) (by decide)) rfl rfl (cellF_7 _ (by decide)) 0 (by decide) mk_X9_flaw_67 rfl rfl dX9_flaw_4 ?_
  refine v_iload_n ok 1 dX9_flaw_7 rfl rfl ?_
  refine v_callV (na := 1) (i := 2) (C := RX6) (T := TX6) (N := 3) (f0 := (M 2)) ok (ct_X6_has z.2.1 g M 2 b (by decide) ⟨by omega, by omega⟩ hm) gX9_flaw_X6_has (kd_lt (show kd 2 = 6 from rfl) (by decide)) rfl rfl (cellF_6 _ (by decide)) rfl (by decide +kernel) rfl (by decide) [] rfl (Nat.le_of_ble_eq_true rfl) dX9_flaw_8 (fun v2 M3 hp1 => ?_)
  rcases hp1 with ⟨rfl, eM3, h4⟩ | ⟨rfl, eM3, h5⟩
  · skip
    subst M3
    have h4 : 0 ≤ b ∧ b < (M 2) 2 := h4
    show V z g 2 M [(0, rf g 0), (1, iv b)] [iv 1] 11
    refine v_if_ne (tgt := 16) ok (by decide) dX9_flaw_11 (by decide) (fun c6 => ?_) (fun c6 => absurd c6 (by decide))
    have hsp16 : b = 0 ∨ b = 1 ∨ b = 2 := by omega
    rcases hsp16 with rfl | rfl | rfl
    · skip
      refine v_aload_n ok 0 dX9_flaw_16 rfl rfl ?_
      refine v_get (T := TX9) (N := 9) (f0 := (M 0)) (v := rf g 54) ok mi_X9_flaw_9 (kd_lt (show kd 0 = 9 from rfl) (by decide)) rfl rfl (cellF_9 _ (by decide)) 5 (by decide) mk_X9_flaw_42 rfl rfl dX9_flaw_17 ?_
      refine v_aload_n ok 0 dX9_flaw_20 rfl rfl ?_
      refine v_get (T := TX9) (N := 9) (f0 := (M 0)) (v := rf g 1) ok mi_X9_flaw_9 (kd_lt (show kd 0 = 9 from rfl) (by decide)) rfl rfl (cellF_9 _ (by decide)) 0 (by decide) mk_X9_flaw_12 rfl rfl dX9_flaw_21 ?_
      refine v_get (T := TX7) (N := 5) (f0 := (M 1)) (v := rf g 2) ok mi_X9_flaw_7 (kd_lt (show kd 1 = 7 from rfl) (by decide)) rfl rfl (cellF_7 _ (by decide)) 0 (by decide) mk_X9_flaw_67 rfl rfl dX9_flaw_24 ?_
      refine v_get (T := TX6) (N := 3) (f0 := (M 2)) (v := rf g 4) ok mi_X9_flaw_6 (kd_lt (show kd 2 = 6 from rfl) (by decide)) rfl rfl (cellF_6 _ (by decide)) 1 (by decide) mk_X9_flaw_87 rfl rfl dX9_flaw_27 ?_
      refine v_iload_n ok 1 dX9_flaw_30 rfl rfl ?_
      refine v_aald13L (q := 5) ok (by decide) (by decide) rfl dX9_flaw_31 ?_
      refine v_aload_n ok 0 dX9_flaw_32 rfl rfl ?_
      refine v_get (T := TX9) (N := 9) (f0 := (M 0)) (v := rf g 1) ok mi_X9_flaw_9 (kd_lt (show kd 0 = 9 from rfl) (by decide)) rfl rfl (cellF_9 _ (by decide)) 0 (by decide) mk_X9_flaw_12 rfl rfl dX9_flaw_33 ?_
      refine v_get (T := TX7) (N := 5) (f0 := (M 1)) (v := rf g 11) ok mi_X9_flaw_7 (kd_lt (show kd 1 = 7 from rfl) (by decide)) rfl rfl (cellF_7 _ (by decide)) 1 (by decide) mk_X9_flaw_107 rfl rfl dX9_flaw_36 ?_
      refine v_callV (na := 2) (i := 54) (C := RX2) (T := TX2) (N := 3) (f0 := (M 54)) ok (ct_X2_unfoldBy z.2.1 g M 5 (by decide) hT (by assumption)) gX9_flaw_X2_unfoldBy (kd_lt (show kd 54 = 2 from rfl) (by decide)) rfl rfl (cellF_2 _ (by decide)) rfl (by decide +kernel) rfl (by decide) [] rfl (Nat.le_of_ble_eq_true rfl) dX9_flaw_39 (fun v8 M9 hp7 => ?_)
      obtain ⟨L10, U11, rfl, rfl, h12⟩ := hp7
      have h12 : unfR ((M 11)) ((M 6)) = -5 → ∀ k : Int, 0 ≤ k → k < 8 → U11 k = dvQ ((M 11)) ((M 6)) 0 5 k := h12
      show V z g 2 (up1 (up1 M 55 L10) 56 U11) [(0, rf g 0), (1, iv 0)] [iv (unfR ((M 11)) ((M 6)))] 42
      exact v_iret ok rt dX9_flaw_42 (Or.inr (⟨L10, U11, (congrArg (fun q : Int => some (iv q)) (show (unfR ((M 11)) ((M 6))) = (unfR (M 11) (M (basQ 0 + 1))) from by rfl)), rfl, (by omega)⟩))
    · skip
      refine v_aload_n ok 0 dX9_flaw_16 rfl rfl ?_
      refine v_get (T := TX9) (N := 9) (f0 := (M 0)) (v := rf g 54) ok mi_X9_flaw_9 (kd_lt (show kd 0 = 9 from rfl) (by decide)) rfl rfl (cellF_9 _ (by decide)) 5 (by decide) mk_X9_flaw_42 rfl rfl dX9_flaw_17 ?_
      refine v_aload_n ok 0 dX9_flaw_20 rfl rfl ?_
      refine v_get (T := TX9) (N := 9) (f0 := (M 0)) (v := rf g 1) ok mi_X9_flaw_9 (kd_lt (show kd 0 = 9 from rfl) (by decide)) rfl rfl (cellF_9 _ (by decide)) 0 (by decide) mk_X9_flaw_12 rfl rfl dX9_flaw_21 ?_
      refine v_get (T := TX7) (N := 5) (f0 := (M 1)) (v := rf g 2) ok mi_X9_flaw_7 (kd_lt (show kd 1 = 7 from rfl) (by decide)) rfl rfl (cellF_7 _ (by decide)) 0 (by decide) mk_X9_flaw_67 rfl rfl dX9_flaw_24 ?_
      refine v_get (T := TX6) (N := 3) (f0 := (M 2)) (v := rf g 4) ok mi_X9_flaw_6 (kd_lt (show kd 2 = 6 from rfl) (by decide)) rfl rfl (cellF_6 _ (by decide)) 1 (by decide) mk_X9_flaw_87 rfl rfl dX9_flaw_27 ?_
      refine v_iload_n ok 1 dX9_flaw_30 rfl rfl ?_
      refine v_aald13L (q := 7) ok (by decide) (by decide) rfl dX9_flaw_31 ?_
      refine v_aload_n ok 0 dX9_flaw_32 rfl rfl ?_
      refine v_get (T := TX9) (N := 9) (f0 := (M 0)) (v := rf g 1) ok mi_X9_flaw_9 (kd_lt (show kd 0 = 9 from rfl) (by decide)) rfl rfl (cellF_9 _ (by decide)) 0 (by decide) mk_X9_flaw_12 rfl rfl dX9_flaw_33 ?_
      refine v_get (T := TX7) (N := 5) (f0 := (M 1)) (v := rf g 11) ok mi_X9_flaw_7 (kd_lt (show kd 1 = 7 from rfl) (by decide)) rfl rfl (cellF_7 _ (by decide)) 1 (by decide) mk_X9_flaw_107 rfl rfl dX9_flaw_36 ?_
      refine v_callV (na := 2) (i := 54) (C := RX2) (T := TX2) (N := 3) (f0 := (M 54)) ok (ct_X2_unfoldBy z.2.1 g M 7 (by decide) hT (by assumption)) gX9_flaw_X2_unfoldBy (kd_lt (show kd 54 = 2 from rfl) (by decide)) rfl rfl (cellF_2 _ (by decide)) rfl (by decide +kernel) rfl (by decide) [] rfl (Nat.le_of_ble_eq_true rfl) dX9_flaw_39 (fun v14 M15 hp13 => ?_)
      obtain ⟨L16, U17, rfl, rfl, h18⟩ := hp13
      have h18 : unfR ((M 11)) ((M 8)) = -5 → ∀ k : Int, 0 ≤ k → k < 8 → U17 k = dvQ ((M 11)) ((M 8)) 0 5 k := h18
      show V z g 2 (up1 (up1 M 55 L16) 56 U17) [(0, rf g 0), (1, iv 1)] [iv (unfR ((M 11)) ((M 8)))] 42
      exact v_iret ok rt dX9_flaw_42 (Or.inr (⟨L16, U17, (congrArg (fun q : Int => some (iv q)) (show (unfR ((M 11)) ((M 8))) = (unfR (M 11) (M (basQ 1 + 1))) from by rfl)), rfl, (by omega)⟩))
    · skip
      refine v_aload_n ok 0 dX9_flaw_16 rfl rfl ?_
      refine v_get (T := TX9) (N := 9) (f0 := (M 0)) (v := rf g 54) ok mi_X9_flaw_9 (kd_lt (show kd 0 = 9 from rfl) (by decide)) rfl rfl (cellF_9 _ (by decide)) 5 (by decide) mk_X9_flaw_42 rfl rfl dX9_flaw_17 ?_
      refine v_aload_n ok 0 dX9_flaw_20 rfl rfl ?_
      refine v_get (T := TX9) (N := 9) (f0 := (M 0)) (v := rf g 1) ok mi_X9_flaw_9 (kd_lt (show kd 0 = 9 from rfl) (by decide)) rfl rfl (cellF_9 _ (by decide)) 0 (by decide) mk_X9_flaw_12 rfl rfl dX9_flaw_21 ?_
      refine v_get (T := TX7) (N := 5) (f0 := (M 1)) (v := rf g 2) ok mi_X9_flaw_7 (kd_lt (show kd 1 = 7 from rfl) (by decide)) rfl rfl (cellF_7 _ (by decide)) 0 (by decide) mk_X9_flaw_67 rfl rfl dX9_flaw_24 ?_
      refine v_get (T := TX6) (N := 3) (f0 := (M 2)) (v := rf g 4) ok mi_X9_flaw_6 (kd_lt (show kd 2 = 6 from rfl) (by decide)) rfl rfl (cellF_6 _ (by decide)) 1 (by decide) mk_X9_flaw_87 rfl rfl dX9_flaw_27 ?_
      refine v_iload_n ok 1 dX9_flaw_30 rfl rfl ?_
      refine v_aald13L (q := 9) ok (by decide) (by decide) rfl dX9_flaw_31 ?_
      refine v_aload_n ok 0 dX9_flaw_32 rfl rfl ?_
      refine v_get (T := TX9) (N := 9) (f0 := (M 0)) (v := rf g 1) ok mi_X9_flaw_9 (kd_lt (show kd 0 = 9 from rfl) (by decide)) rfl rfl (cellF_9 _ (by decide)) 0 (by decide) mk_X9_flaw_12 rfl rfl dX9_flaw_33 ?_
      refine v_get (T := TX7) (N := 5) (f0 := (M 1)) (v := rf g 11) ok mi_X9_flaw_7 (kd_lt (show kd 1 = 7 from rfl) (by decide)) rfl rfl (cellF_7 _ (by decide)) 1 (by decide) mk_X9_flaw_107 rfl rfl dX9_flaw_36 ?_
      refine v_callV (na := 2) (i := 54) (C := RX2) (T := TX2) (N := 3) (f0 := (M 54)) ok (ct_X2_unfoldBy z.2.1 g M 9 (by decide) hT (by assumption)) gX9_flaw_X2_unfoldBy (kd_lt (show kd 54 = 2 from rfl) (by decide)) rfl rfl (cellF_2 _ (by decide)) rfl (by decide +kernel) rfl (by decide) [] rfl (Nat.le_of_ble_eq_true rfl) dX9_flaw_39 (fun v20 M21 hp19 => ?_)
      obtain ⟨L22, U23, rfl, rfl, h24⟩ := hp19
      have h24 : unfR ((M 11)) ((M 10)) = -5 → ∀ k : Int, 0 ≤ k → k < 8 → U23 k = dvQ ((M 11)) ((M 10)) 0 5 k := h24
      show V z g 2 (up1 (up1 M 55 L22) 56 U23) [(0, rf g 0), (1, iv 2)] [iv (unfR ((M 11)) ((M 10)))] 42
      exact v_iret ok rt dX9_flaw_42 (Or.inr (⟨L22, U23, (congrArg (fun q : Int => some (iv q)) (show (unfR ((M 11)) ((M 10))) = (unfR (M 11) (M (basQ 2 + 1))) from by rfl)), rfl, (by omega)⟩))
  · skip
    subst M3
    have h5 : ¬ (0 ≤ b ∧ b < (M 2) 2) := h5
    show V z g 2 M [(0, rf g 0), (1, iv b)] [iv 0] 11
    refine v_if_ne (tgt := 16) ok (by decide) dX9_flaw_11 (by decide) (fun c25 => absurd c25 (by decide)) (fun c25 => ?_)
    refine v_iconst (n := -1) ok dX9_flaw_14 ?_
    exact v_iret ok rt dX9_flaw_15 (Or.inl (⟨rfl, rfl, (by omega)⟩))

theorem mk_X9_unfold_12 : Cond.fieldLink RX9 12 "StormRunoff" "now" "LStormRunoff$State;" ∈ wsX9_unfold := by decide +kernel
theorem mi_X9_unfold_9 : ∀ w ∈ wsX90, w ∈ wsX9_unfold := by decide +kernel
theorem mk_X9_unfold_67 : Cond.fieldLink RX9 67 "StormRunoff$State" "site" "LStormRunoff$Site;" ∈ wsX9_unfold := by decide +kernel
theorem mi_X9_unfold_7 : ∀ w ∈ wsX70, w ∈ wsX9_unfold := by decide +kernel
theorem mk_X9_unfold_42 : Cond.fieldLink RX9 42 "StormRunoff" "division" "LStormRunoff$Division;" ∈ wsX9_unfold := by decide +kernel
theorem mk_X9_unfold_87 : Cond.fieldLink RX9 87 "StormRunoff$Site" "basins" "[LStormRunoff$Basin;" ∈ wsX9_unfold := by decide +kernel
theorem mi_X9_unfold_6 : ∀ w ∈ wsX60, w ∈ wsX9_unfold := by decide +kernel
theorem mk_X9_unfold_107 : Cond.fieldLink RX9 107 "StormRunoff$State" "told" "[I" ∈ wsX9_unfold := by decide +kernel
theorem mk_X9_unfold_114 : Cond.fieldLink RX9 114 "StormRunoff$Division" "rain" "[I" ∈ wsX9_unfold := by decide +kernel
theorem mi_X9_unfold_2 : ∀ w ∈ wsX20, w ∈ wsX9_unfold := by decide +kernel
set_option maxRecDepth 100000 in
set_option maxHeartbeats 400000 in
theorem ct_X9_unfold (l : Launch) (g : Gl) (M : Mem) (b h : Int) (hb : i32 b) (hh : i32 h) (hs : SiteOk M 2) (hT : bdf (M 11) 12 0 999) : Ct l g yX9_unfold wsX9_unfold 3 69 [rf g 0, iv b, iv h] M (fun rv M' => (rv = some (iv (-1)) ∧ M' = M ∧ (¬ (0 ≤ b ∧ b < M 2 2) ∨ ¬ (0 ≤ h ∧ h ≤ 7))) ∨ (∃ (L U : Int → Int), rv = some (iv (-3)) ∧ M' = (up1 (up1 M 55 L) 56 U) ∧ (0 ≤ b ∧ b < M 2 2) ∧ (0 ≤ h ∧ h ≤ 7) ∧ (unfR (M 11) (M (basQ b + 1)) ≠ -5)) ∨ (∃ (L U : Int → Int), rv = some (iv (dvQ (M 11) (M (basQ b + 1)) 0 5 h)) ∧ M' = (up1 (up1 M 55 L) 56 U) ∧ (0 ≤ b ∧ b < M 2 2) ∧ (0 ≤ h ∧ h ≤ 7) ∧ (unfR (M 11) (M (basQ b + 1)) = -5))) := by
  refine Ct.of (cc := cX9_unfold) (nL := 3) (ret := (some .int)) (by decide) rfl (Nat.le_of_ble_eq_true rfl) (fun z hz ok rt => ?_)
  have ok : Ok z g cX9_unfold 3 RX9 wsX9_unfold 3 69 := ok
  show V z g 3 M [(0, rf g 0), (1, iv b), (2, iv h)] [] 0
  have hR : bdf (M 3) 8 0 20 := hs.1
  have hm : 0 ≤ M 2 2 ∧ M 2 2 ≤ 3 := hs.2.1
  have hA0 : bdf (M 6) 5 0 9 := hs.2.2.1.1
  have hk0 : 0 ≤ M 5 2 ∧ M 5 2 ≤ 4 := hs.2.2.1.2.2.1
  have hn0 : 0 ≤ M 5 3 ∧ M 5 3 ≤ 9 := hs.2.2.1.2.2.2
  have hA1 : bdf (M 8) 5 0 9 := hs.2.2.2.1.1
  have hk1 : 0 ≤ M 7 2 ∧ M 7 2 ≤ 4 := hs.2.2.2.1.2.2.1
  have hn1 : 0 ≤ M 7 3 ∧ M 7 3 ≤ 9 := hs.2.2.2.1.2.2.2
  have hA2 : bdf (M 10) 5 0 9 := hs.2.2.2.2.1
  have hk2 : 0 ≤ M 9 2 ∧ M 9 2 ≤ 4 := hs.2.2.2.2.2.2.1
  have hn2 : 0 ≤ M 9 3 ∧ M 9 3 ≤ 9 := hs.2.2.2.2.2.2.2
  refine v_aload_n ok 0 dX9_unfold_0 rfl rfl ?_
  refine v_get (T := TX9) (N := 9) (f0 := (M 0)) (v := rf g 1) ok mi_X9_unfold_9 (kd_lt (show kd 0 = 9 from rfl) (by decide)) rfl rfl (cellF_9 _ (by decide)) 0 (by decide) mk_X9_unfold_12 rfl rfl dX9_unfold_1 ?_
  refine v_get (T := TX7) (N := 5) (f0 := (M 1)) (v := rf g 2) ok mi_X9_unfold_7 (kd_lt (show kd 1 = 7 from rfl) (by decide)) rfl rfl (cellF_7 _ (by decide)) 0 (by decide) mk_X9_unfold_67 rfl rfl dX9_unfold_4 ?_
  refine v_iload_n ok 1 dX9_unfold_7 rfl rfl ?_
  refine v_callV (na := 1) (i := 2) (C := RX6) (T := TX6) (N := 3) (f0 := (M 2)) ok (ct_X6_has z.2.1 g M 2 b (by decide) ⟨by omega, by omega⟩ hm) gX9_unfold_X6_has (kd_lt (show kd 2 = 6 from rfl) (by decide)) rfl rfl (cellF_6 _ (by decide)) rfl (by decide +kernel) rfl (by decide) [] rfl (Nat.le_of_ble_eq_true rfl) dX9_unfold_8 (fun v2 M3 hp1 => ?_)
  rcases hp1 with ⟨rfl, eM3, h4⟩ | ⟨rfl, eM3, h5⟩
  · skip
    subst M3
    have h4 : 0 ≤ b ∧ b < (M 2) 2 := h4
    show V z g 3 M [(0, rf g 0), (1, iv b), (2, iv h)] [iv 1] 11
    refine v_if_eq (tgt := 24) ok (by decide) dX9_unfold_11 (by decide) (fun c6 => absurd c6 (by decide)) (fun c6 => ?_)
    refine v_iload_n ok 2 dX9_unfold_14 rfl rfl ?_
    refine v_iconst (n := 0) ok dX9_unfold_15 ?_
    refine v_bipush (n := 7) ok rfl dX9_unfold_16 ?_
    refine v_callS (na := 3) ok (ct_X9_between z.2.1 g M h 0 7 ⟨by omega, by omega⟩ (by decide) (by decide)) gX9_unfold_X9_between rfl (by decide +kernel) rfl (by decide) [] rfl (Nat.le_of_ble_eq_true rfl) dX9_unfold_18 (fun v8 M9 hp7 => ?_)
    rcases hp7 with ⟨rfl, eM9, h10⟩ | ⟨rfl, eM9, h11⟩
    · skip
      subst M9
      show V z g 3 M [(0, rf g 0), (1, iv b), (2, iv h)] [iv 1] 21
      refine v_if_ne (tgt := 26) ok (by decide) dX9_unfold_21 (by decide) (fun c12 => ?_) (fun c12 => absurd c12 (by decide))
      have hsp26 : b = 0 ∨ b = 1 ∨ b = 2 := by omega
      rcases hsp26 with rfl | rfl | rfl
      · skip
        refine v_aload_n ok 0 dX9_unfold_26 rfl rfl ?_
        refine v_get (T := TX9) (N := 9) (f0 := (M 0)) (v := rf g 54) ok mi_X9_unfold_9 (kd_lt (show kd 0 = 9 from rfl) (by decide)) rfl rfl (cellF_9 _ (by decide)) 5 (by decide) mk_X9_unfold_42 rfl rfl dX9_unfold_27 ?_
        refine v_aload_n ok 0 dX9_unfold_30 rfl rfl ?_
        refine v_get (T := TX9) (N := 9) (f0 := (M 0)) (v := rf g 1) ok mi_X9_unfold_9 (kd_lt (show kd 0 = 9 from rfl) (by decide)) rfl rfl (cellF_9 _ (by decide)) 0 (by decide) mk_X9_unfold_12 rfl rfl dX9_unfold_31 ?_
        refine v_get (T := TX7) (N := 5) (f0 := (M 1)) (v := rf g 2) ok mi_X9_unfold_7 (kd_lt (show kd 1 = 7 from rfl) (by decide)) rfl rfl (cellF_7 _ (by decide)) 0 (by decide) mk_X9_unfold_67 rfl rfl dX9_unfold_34 ?_
        refine v_get (T := TX6) (N := 3) (f0 := (M 2)) (v := rf g 4) ok mi_X9_unfold_6 (kd_lt (show kd 2 = 6 from rfl) (by decide)) rfl rfl (cellF_6 _ (by decide)) 1 (by decide) mk_X9_unfold_87 rfl rfl dX9_unfold_37 ?_
        refine v_iload_n ok 1 dX9_unfold_40 rfl rfl ?_
        refine v_aald13L (q := 5) ok (by decide) (by decide) rfl dX9_unfold_41 ?_
        refine v_aload_n ok 0 dX9_unfold_42 rfl rfl ?_
        refine v_get (T := TX9) (N := 9) (f0 := (M 0)) (v := rf g 1) ok mi_X9_unfold_9 (kd_lt (show kd 0 = 9 from rfl) (by decide)) rfl rfl (cellF_9 _ (by decide)) 0 (by decide) mk_X9_unfold_12 rfl rfl dX9_unfold_43 ?_
        refine v_get (T := TX7) (N := 5) (f0 := (M 1)) (v := rf g 11) ok mi_X9_unfold_7 (kd_lt (show kd 1 = 7 from rfl) (by decide)) rfl rfl (cellF_7 _ (by decide)) 1 (by decide) mk_X9_unfold_107 rfl rfl dX9_unfold_46 ?_
        refine v_callV (na := 2) (i := 54) (C := RX2) (T := TX2) (N := 3) (f0 := (M 54)) ok (ct_X2_unfoldBy z.2.1 g M 5 (by decide) hT (by assumption)) gX9_unfold_X2_unfoldBy (kd_lt (show kd 54 = 2 from rfl) (by decide)) rfl rfl (cellF_2 _ (by decide)) rfl (by decide +kernel) rfl (by decide) [] rfl (Nat.le_of_ble_eq_true rfl) dX9_unfold_49 (fun v14 M15 hp13 => ?_)
        obtain ⟨L16, U17, rfl, rfl, h18⟩ := hp13
        have h18 : unfR ((M 11)) ((M 6)) = -5 → ∀ k : Int, 0 ≤ k → k < 8 → U17 k = dvQ ((M 11)) ((M 6)) 0 5 k := h18
        show V z g 3 (up1 (up1 M 55 L16) 56 U17) [(0, rf g 0), (1, iv 0), (2, iv h)] [iv (unfR ((M 11)) ((M 6)))] 52
        have hur := unfR_rng (M 11) (M 6)
        have hu5 := h18
        refine v_bipush (n := -5) ok rfl dX9_unfold_52 ?_
        refine v_icmp_eq (tgt := 60) ok ⟨by omega, by omega⟩ (by decide) dX9_unfold_54 (by decide) (fun c19 => ?_) (fun c19 => ?_)
        · skip
          have hu6 := hu5 (by omega)
          refine v_cong (n := 8) (dvQ (M 11) (M 6) 0 5) (Or.inl (by decide)) rfl (fun k k0 k1 => hu6 k k0 k1) ?_
          refine v_aload_n ok 0 dX9_unfold_60 rfl rfl ?_
          refine v_get (T := TX9) (N := 9) (f0 := (M 0)) (v := rf g 54) ok mi_X9_unfold_9 (kd_lt (show kd 0 = 9 from rfl) (by decide)) rfl rfl (cellF_9 _ (by decide)) 5 (by decide) mk_X9_unfold_42 rfl rfl dX9_unfold_61 ?_
          refine v_get (T := TX2) (N := 3) (f0 := (M 54)) (v := rf g 56) ok mi_X9_unfold_2 (kd_lt (show kd 54 = 2 from rfl) (by decide)) rfl rfl (cellF_2 _ (by decide)) 1 (by decide) mk_X9_unfold_114 rfl rfl dX9_unfold_64 ?_
          refine v_iload_n ok 2 dX9_unfold_67 rfl rfl ?_
          refine v_iald (n := 8) (f0 := (dvQ (M 11) (M 6) 0 5)) ok (by decide) rfl (by omega) rfl dX9_unfold_68 ?_
          exact v_iret ok rt dX9_unfold_69 (Or.inr (Or.inr (⟨L16, (dvQ (M 11) (M 6) 0 5), (congrArg (fun q : Int => some (iv q)) (show ((dvQ (M 11) (M 6) 0 5) h) = (dvQ (M 11) (M (basQ 0 + 1)) 0 5 h) from by rfl)), rfl, (by omega), (by omega), (by assumption)⟩)))
        · skip
          refine v_bipush (n := -3) ok rfl dX9_unfold_57 ?_
          exact v_iret ok rt dX9_unfold_59 (Or.inr (Or.inl (⟨L16, U17, rfl, rfl, (by omega), (by omega), (by assumption)⟩)))
      · skip
        refine v_aload_n ok 0 dX9_unfold_26 rfl rfl ?_
        refine v_get (T := TX9) (N := 9) (f0 := (M 0)) (v := rf g 54) ok mi_X9_unfold_9 (kd_lt (show kd 0 = 9 from rfl) (by decide)) rfl rfl (cellF_9 _ (by decide)) 5 (by decide) mk_X9_unfold_42 rfl rfl dX9_unfold_27 ?_
        refine v_aload_n ok 0 dX9_unfold_30 rfl rfl ?_
        refine v_get (T := TX9) (N := 9) (f0 := (M 0)) (v := rf g 1) ok mi_X9_unfold_9 (kd_lt (show kd 0 = 9 from rfl) (by decide)) rfl rfl (cellF_9 _ (by decide)) 0 (by decide) mk_X9_unfold_12 rfl rfl dX9_unfold_31 ?_
        refine v_get (T := TX7) (N := 5) (f0 := (M 1)) (v := rf g 2) ok mi_X9_unfold_7 (kd_lt (show kd 1 = 7 from rfl) (by decide)) rfl rfl (cellF_7 _ (by decide)) 0 (by decide) mk_X9_unfold_67 rfl rfl dX9_unfold_34 ?_
        refine v_get (T := TX6) (N := 3) (f0 := (M 2)) (v := rf g 4) ok mi_X9_unfold_6 (kd_lt (show kd 2 = 6 from rfl) (by decide)) rfl rfl (cellF_6 _ (by decide)) 1 (by decide) mk_X9_unfold_87 rfl rfl dX9_unfold_37 ?_
        refine v_iload_n ok 1 dX9_unfold_40 rfl rfl ?_
        refine v_aald13L (q := 7) ok (by decide) (by decide) rfl dX9_unfold_41 ?_
        refine v_aload_n ok 0 dX9_unfold_42 rfl rfl ?_
        refine v_get (T := TX9) (N := 9) (f0 := (M 0)) (v := rf g 1) ok mi_X9_unfold_9 (kd_lt (show kd 0 = 9 from rfl) (by decide)) rfl rfl (cellF_9 _ (by decide)) 0 (by decide) mk_X9_unfold_12 rfl rfl dX9_unfold_43 ?_
        refine v_get (T := TX7) (N := 5) (f0 := (M 1)) (v := rf g 11) ok mi_X9_unfold_7 (kd_lt (show kd 1 = 7 from rfl) (by decide)) rfl rfl (cellF_7 _ (by decide)) 1 (by decide) mk_X9_unfold_107 rfl rfl dX9_unfold_46 ?_
        refine v_callV (na := 2) (i := 54) (C := RX2) (T := TX2) (N := 3) (f0 := (M 54)) ok (ct_X2_unfoldBy z.2.1 g M 7 (by decide) hT (by assumption)) gX9_unfold_X2_unfoldBy (kd_lt (show kd 54 = 2 from rfl) (by decide)) rfl rfl (cellF_2 _ (by decide)) rfl (by decide +kernel) rfl (by decide) [] rfl (Nat.le_of_ble_eq_true rfl) dX9_unfold_49 (fun v21 M22 hp20 => ?_)
        obtain ⟨L23, U24, rfl, rfl, h25⟩ := hp20
        have h25 : unfR ((M 11)) ((M 8)) = -5 → ∀ k : Int, 0 ≤ k → k < 8 → U24 k = dvQ ((M 11)) ((M 8)) 0 5 k := h25
        show V z g 3 (up1 (up1 M 55 L23) 56 U24) [(0, rf g 0), (1, iv 1), (2, iv h)] [iv (unfR ((M 11)) ((M 8)))] 52
        have hur := unfR_rng (M 11) (M 8)
        have hu5 := h25
        refine v_bipush (n := -5) ok rfl dX9_unfold_52 ?_
        refine v_icmp_eq (tgt := 60) ok ⟨by omega, by omega⟩ (by decide) dX9_unfold_54 (by decide) (fun c26 => ?_) (fun c26 => ?_)
        · skip
          have hu6 := hu5 (by omega)
          refine v_cong (n := 8) (dvQ (M 11) (M 8) 0 5) (Or.inl (by decide)) rfl (fun k k0 k1 => hu6 k k0 k1) ?_
          refine v_aload_n ok 0 dX9_unfold_60 rfl rfl ?_
          refine v_get (T := TX9) (N := 9) (f0 := (M 0)) (v := rf g 54) ok mi_X9_unfold_9 (kd_lt (show kd 0 = 9 from rfl) (by decide)) rfl rfl (cellF_9 _ (by decide)) 5 (by decide) mk_X9_unfold_42 rfl rfl dX9_unfold_61 ?_
          refine v_get (T := TX2) (N := 3) (f0 := (M 54)) (v := rf g 56) ok mi_X9_unfold_2 (kd_lt (show kd 54 = 2 from rfl) (by decide)) rfl rfl (cellF_2 _ (by decide)) 1 (by decide) mk_X9_unfold_114 rfl rfl dX9_unfold_64 ?_
          refine v_iload_n ok 2 dX9_unfold_67 rfl rfl ?_
          refine v_iald (n := 8) (f0 := (dvQ (M 11) (M 8) 0 5)) ok (by decide) rfl (by omega) rfl dX9_unfold_68 ?_
          exact v_iret ok rt dX9_unfold_69 (Or.inr (Or.inr (⟨L23, (dvQ (M 11) (M 8) 0 5), (congrArg (fun q : Int => some (iv q)) (show ((dvQ (M 11) (M 8) 0 5) h) = (dvQ (M 11) (M (basQ 1 + 1)) 0 5 h) from by rfl)), rfl, (by omega), (by omega), (by assumption)⟩)))
        · skip
          refine v_bipush (n := -3) ok rfl dX9_unfold_57 ?_
          exact v_iret ok rt dX9_unfold_59 (Or.inr (Or.inl (⟨L23, U24, rfl, rfl, (by omega), (by omega), (by assumption)⟩)))
      · skip
        refine v_aload_n ok 0 dX9_unfold_26 rfl rfl ?_
        refine v_get (T := TX9) (N := 9) (f0 := (M 0)) (v := rf g 54) ok mi_X9_unfold_9 (kd_lt (show kd 0 = 9 from rfl) (by decide)) rfl rfl (cellF_9 _ (by decide)) 5 (by decide) mk_X9_unfold_42 rfl rfl dX9_unfold_27 ?_
        refine v_aload_n ok 0 dX9_unfold_30 rfl rfl ?_
        refine v_get (T := TX9) (N := 9) (f0 := (M 0)) (v := rf g 1) ok mi_X9_unfold_9 (kd_lt (show kd 0 = 9 from rfl) (by decide)) rfl rfl (cellF_9 _ (by decide)) 0 (by decide) mk_X9_unfold_12 rfl rfl dX9_unfold_31 ?_
        refine v_get (T := TX7) (N := 5) (f0 := (M 1)) (v := rf g 2) ok mi_X9_unfold_7 (kd_lt (show kd 1 = 7 from rfl) (by decide)) rfl rfl (cellF_7 _ (by decide)) 0 (by decide) mk_X9_unfold_67 rfl rfl dX9_unfold_34 ?_
        refine v_get (T := TX6) (N := 3) (f0 := (M 2)) (v := rf g 4) ok mi_X9_unfold_6 (kd_lt (show kd 2 = 6 from rfl) (by decide)) rfl rfl (cellF_6 _ (by decide)) 1 (by decide) mk_X9_unfold_87 rfl rfl dX9_unfold_37 ?_
        refine v_iload_n ok 1 dX9_unfold_40 rfl rfl ?_
        refine v_aald13L (q := 9) ok (by decide) (by decide) rfl dX9_unfold_41 ?_
        refine v_aload_n ok 0 dX9_unfold_42 rfl rfl ?_
        refine v_get (T := TX9) (N := 9) (f0 := (M 0)) (v := rf g 1) ok mi_X9_unfold_9 (kd_lt (show kd 0 = 9 from rfl) (by decide)) rfl rfl (cellF_9 _ (by decide)) 0 (by decide) mk_X9_unfold_12 rfl rfl dX9_unfold_43 ?_
        refine v_get (T := TX7) (N := 5) (f0 := (M 1)) (v := rf g 11) ok mi_X9_unfold_7 (kd_lt (show kd 1 = 7 from rfl) (by decide)) rfl rfl (cellF_7 _ (by decide)) 1 (by decide) mk_X9_unfold_107 rfl rfl dX9_unfold_46 ?_
        refine v_callV (na := 2) (i := 54) (C := RX2) (T := TX2) (N := 3) (f0 := (M 54)) ok (ct_X2_unfoldBy z.2.1 g M 9 (by decide) hT (by assumption)) gX9_unfold_X2_unfoldBy (kd_lt (show kd 54 = 2 from rfl) (by decide)) rfl rfl (cellF_2 _ (by decide)) rfl (by decide +kernel) rfl (by decide) [] rfl (Nat.le_of_ble_eq_true rfl) dX9_unfold_49 (fun v28 M29 hp27 => ?_)
        obtain ⟨L30, U31, rfl, rfl, h32⟩ := hp27
        have h32 : unfR ((M 11)) ((M 10)) = -5 → ∀ k : Int, 0 ≤ k → k < 8 → U31 k = dvQ ((M 11)) ((M 10)) 0 5 k := h32
        show V z g 3 (up1 (up1 M 55 L30) 56 U31) [(0, rf g 0), (1, iv 2), (2, iv h)] [iv (unfR ((M 11)) ((M 10)))] 52
        have hur := unfR_rng (M 11) (M 10)
        have hu5 := h32
        refine v_bipush (n := -5) ok rfl dX9_unfold_52 ?_
        refine v_icmp_eq (tgt := 60) ok ⟨by omega, by omega⟩ (by decide) dX9_unfold_54 (by decide) (fun c33 => ?_) (fun c33 => ?_)
        · skip
          have hu6 := hu5 (by omega)
          refine v_cong (n := 8) (dvQ (M 11) (M 10) 0 5) (Or.inl (by decide)) rfl (fun k k0 k1 => hu6 k k0 k1) ?_
          refine v_aload_n ok 0 dX9_unfold_60 rfl rfl ?_
          refine v_get (T := TX9) (N := 9) (f0 := (M 0)) (v := rf g 54) ok mi_X9_unfold_9 (kd_lt (show kd 0 = 9 from rfl) (by decide)) rfl rfl (cellF_9 _ (by decide)) 5 (by decide) mk_X9_unfold_42 rfl rfl dX9_unfold_61 ?_
          refine v_get (T := TX2) (N := 3) (f0 := (M 54)) (v := rf g 56) ok mi_X9_unfold_2 (kd_lt (show kd 54 = 2 from rfl) (by decide)) rfl rfl (cellF_2 _ (by decide)) 1 (by decide) mk_X9_unfold_114 rfl rfl dX9_unfold_64 ?_
          refine v_iload_n ok 2 dX9_unfold_67 rfl rfl ?_
          refine v_iald (n := 8) (f0 := (dvQ (M 11) (M 10) 0 5)) ok (by decide) rfl (by omega) rfl dX9_unfold_68 ?_
          exact v_iret ok rt dX9_unfold_69 (Or.inr (Or.inr (⟨L30, (dvQ (M 11) (M 10) 0 5), (congrArg (fun q : Int => some (iv q)) (show ((dvQ (M 11) (M 10) 0 5) h) = (dvQ (M 11) (M (basQ 2 + 1)) 0 5 h) from by rfl)), rfl, (by omega), (by omega), (by assumption)⟩)))
        · skip
          refine v_bipush (n := -3) ok rfl dX9_unfold_57 ?_
          exact v_iret ok rt dX9_unfold_59 (Or.inr (Or.inl (⟨L30, U31, rfl, rfl, (by omega), (by omega), (by assumption)⟩)))
    · skip
      subst M9
      show V z g 3 M [(0, rf g 0), (1, iv b), (2, iv h)] [iv 0] 21
      refine v_if_ne (tgt := 26) ok (by decide) dX9_unfold_21 (by decide) (fun c34 => absurd c34 (by decide)) (fun c34 => ?_)
      refine v_iconst (n := -1) ok dX9_unfold_24 ?_
      exact v_iret ok rt dX9_unfold_25 (Or.inl (⟨rfl, rfl, (by omega)⟩))
  · skip
    subst M3
    have h5 : ¬ (0 ≤ b ∧ b < (M 2) 2) := h5
    show V z g 3 M [(0, rf g 0), (1, iv b), (2, iv h)] [iv 0] 11
    refine v_if_eq (tgt := 24) ok (by decide) dX9_unfold_11 (by decide) (fun c35 => ?_) (fun c35 => absurd c35 (by decide))
    refine v_iconst (n := -1) ok dX9_unfold_24 ?_
    exact v_iret ok rt dX9_unfold_25 (Or.inl (⟨rfl, rfl, (by omega)⟩))

theorem mk_X9_take_12 : Cond.fieldLink RX9 12 "StormRunoff" "now" "LStormRunoff$State;" ∈ wsX9_take := by decide +kernel
theorem mi_X9_take_9 : ∀ w ∈ wsX90, w ∈ wsX9_take := by decide +kernel
theorem mk_X9_take_67 : Cond.fieldLink RX9 67 "StormRunoff$State" "site" "LStormRunoff$Site;" ∈ wsX9_take := by decide +kernel
theorem mi_X9_take_7 : ∀ w ∈ wsX70, w ∈ wsX9_take := by decide +kernel
theorem mk_X9_take_42 : Cond.fieldLink RX9 42 "StormRunoff" "division" "LStormRunoff$Division;" ∈ wsX9_take := by decide +kernel
theorem mk_X9_take_87 : Cond.fieldLink RX9 87 "StormRunoff$Site" "basins" "[LStormRunoff$Basin;" ∈ wsX9_take := by decide +kernel
theorem mi_X9_take_6 : ∀ w ∈ wsX60, w ∈ wsX9_take := by decide +kernel
theorem mk_X9_take_107 : Cond.fieldLink RX9 107 "StormRunoff$State" "told" "[I" ∈ wsX9_take := by decide +kernel
theorem mk_X9_take_114 : Cond.fieldLink RX9 114 "StormRunoff$Division" "rain" "[I" ∈ wsX9_take := by decide +kernel
theorem mi_X9_take_2 : ∀ w ∈ wsX20, w ∈ wsX9_take := by decide +kernel
theorem mk_X9_take_70 : Cond.fieldLink RX9 70 "StormRunoff$Site" "rain" "[I" ∈ wsX9_take := by decide +kernel
set_option maxRecDepth 100000 in
set_option maxHeartbeats 400000 in
theorem ct_X9_take (l : Launch) (g : Gl) (M : Mem) (b : Int) (hb : i32 b) (hs : SiteOk M 2) (hT : bdf (M 11) 12 0 999) : Ct l g yX9_take wsX9_take 3 69 [rf g 0, iv b] M (fun rv M' => (rv = some (iv (-1)) ∧ M' = M ∧ (¬ (0 ≤ b ∧ b < M 2 2))) ∨ (∃ (L U : Int → Int), rv = some (iv (-3)) ∧ M' = (up1 (up1 M 55 L) 56 U) ∧ (0 ≤ b ∧ b < M 2 2) ∧ (unfR (M 11) (M (basQ b + 1)) ≠ -5)) ∨ (∃ (L U : Int → Int), rv = some (iv (msr 0 (dvQ (M 11) (M (basQ b + 1)) 0 5) 8)) ∧ M' = (up1 (up1 (up1 M 55 L) 56 U) 3 (dvQ (M 11) (M (basQ b + 1)) 0 5)) ∧ (0 ≤ b ∧ b < M 2 2) ∧ (unfR (M 11) (M (basQ b + 1)) = -5))) := by
  refine Ct.of (cc := cX9_take) (nL := 2) (ret := (some .int)) (by decide) rfl (Nat.le_of_ble_eq_true rfl) (fun z hz ok rt => ?_)
  have ok : Ok z g cX9_take 2 RX9 wsX9_take 3 69 := ok
  show V z g 2 M [(0, rf g 0), (1, iv b)] [] 0
  have hR : bdf (M 3) 8 0 20 := hs.1
  have hm : 0 ≤ M 2 2 ∧ M 2 2 ≤ 3 := hs.2.1
  have hA0 : bdf (M 6) 5 0 9 := hs.2.2.1.1
  have hk0 : 0 ≤ M 5 2 ∧ M 5 2 ≤ 4 := hs.2.2.1.2.2.1
  have hn0 : 0 ≤ M 5 3 ∧ M 5 3 ≤ 9 := hs.2.2.1.2.2.2
  have hA1 : bdf (M 8) 5 0 9 := hs.2.2.2.1.1
  have hk1 : 0 ≤ M 7 2 ∧ M 7 2 ≤ 4 := hs.2.2.2.1.2.2.1
  have hn1 : 0 ≤ M 7 3 ∧ M 7 3 ≤ 9 := hs.2.2.2.1.2.2.2
  have hA2 : bdf (M 10) 5 0 9 := hs.2.2.2.2.1
  have hk2 : 0 ≤ M 9 2 ∧ M 9 2 ≤ 4 := hs.2.2.2.2.2.2.1
  have hn2 : 0 ≤ M 9 3 ∧ M 9 3 ≤ 9 := hs.2.2.2.2.2.2.2
  refine v_aload_n ok 0 dX9_take_0 rfl rfl ?_
  refine v_get (T := TX9) (N := 9) (f0 := (M 0)) (v := rf g 1) ok mi_X9_take_9 (kd_lt (show kd 0 = 9 from rfl) (by decide)) rfl rfl (cellF_9 _ (by decide)) 0 (by decide) mk_X9_take_12 rfl rfl dX9_take_1 ?_
  refine v_get (T := TX7) (N := 5) (f0 := (M 1)) (v := rf g 2) ok mi_X9_take_7 (kd_lt (show kd 1 = 7 from rfl) (by decide)) rfl rfl (cellF_7 _ (by decide)) 0 (by decide) mk_X9_take_67 rfl rfl dX9_take_4 ?_
  refine v_iload_n ok 1 dX9_take_7 rfl rfl ?_
  refine v_callV (na := 1) (i := 2) (C := RX6) (T := TX6) (N := 3) (f0 := (M 2)) ok (ct_X6_has z.2.1 g M 2 b (by decide) ⟨by omega, by omega⟩ hm) gX9_take_X6_has (kd_lt (show kd 2 = 6 from rfl) (by decide)) rfl rfl (cellF_6 _ (by decide)) rfl (by decide +kernel) rfl (by decide) [] rfl (Nat.le_of_ble_eq_true rfl) dX9_take_8 (fun v2 M3 hp1 => ?_)
  rcases hp1 with ⟨rfl, eM3, h4⟩ | ⟨rfl, eM3, h5⟩
  · skip
    subst M3
    have h4 : 0 ≤ b ∧ b < (M 2) 2 := h4
    show V z g 2 M [(0, rf g 0), (1, iv b)] [iv 1] 11
    refine v_if_ne (tgt := 16) ok (by decide) dX9_take_11 (by decide) (fun c6 => ?_) (fun c6 => absurd c6 (by decide))
    have hsp16 : b = 0 ∨ b = 1 ∨ b = 2 := by omega
    rcases hsp16 with rfl | rfl | rfl
    · skip
      refine v_aload_n ok 0 dX9_take_16 rfl rfl ?_
      refine v_get (T := TX9) (N := 9) (f0 := (M 0)) (v := rf g 54) ok mi_X9_take_9 (kd_lt (show kd 0 = 9 from rfl) (by decide)) rfl rfl (cellF_9 _ (by decide)) 5 (by decide) mk_X9_take_42 rfl rfl dX9_take_17 ?_
      refine v_aload_n ok 0 dX9_take_20 rfl rfl ?_
      refine v_get (T := TX9) (N := 9) (f0 := (M 0)) (v := rf g 1) ok mi_X9_take_9 (kd_lt (show kd 0 = 9 from rfl) (by decide)) rfl rfl (cellF_9 _ (by decide)) 0 (by decide) mk_X9_take_12 rfl rfl dX9_take_21 ?_
      refine v_get (T := TX7) (N := 5) (f0 := (M 1)) (v := rf g 2) ok mi_X9_take_7 (kd_lt (show kd 1 = 7 from rfl) (by decide)) rfl rfl (cellF_7 _ (by decide)) 0 (by decide) mk_X9_take_67 rfl rfl dX9_take_24 ?_
      refine v_get (T := TX6) (N := 3) (f0 := (M 2)) (v := rf g 4) ok mi_X9_take_6 (kd_lt (show kd 2 = 6 from rfl) (by decide)) rfl rfl (cellF_6 _ (by decide)) 1 (by decide) mk_X9_take_87 rfl rfl dX9_take_27 ?_
      refine v_iload_n ok 1 dX9_take_30 rfl rfl ?_
      refine v_aald13L (q := 5) ok (by decide) (by decide) rfl dX9_take_31 ?_
      refine v_aload_n ok 0 dX9_take_32 rfl rfl ?_
      refine v_get (T := TX9) (N := 9) (f0 := (M 0)) (v := rf g 1) ok mi_X9_take_9 (kd_lt (show kd 0 = 9 from rfl) (by decide)) rfl rfl (cellF_9 _ (by decide)) 0 (by decide) mk_X9_take_12 rfl rfl dX9_take_33 ?_
      refine v_get (T := TX7) (N := 5) (f0 := (M 1)) (v := rf g 11) ok mi_X9_take_7 (kd_lt (show kd 1 = 7 from rfl) (by decide)) rfl rfl (cellF_7 _ (by decide)) 1 (by decide) mk_X9_take_107 rfl rfl dX9_take_36 ?_
      refine v_callV (na := 2) (i := 54) (C := RX2) (T := TX2) (N := 3) (f0 := (M 54)) ok (ct_X2_unfoldBy z.2.1 g M 5 (by decide) hT (by assumption)) gX9_take_X2_unfoldBy (kd_lt (show kd 54 = 2 from rfl) (by decide)) rfl rfl (cellF_2 _ (by decide)) rfl (by decide +kernel) rfl (by decide) [] rfl (Nat.le_of_ble_eq_true rfl) dX9_take_39 (fun v8 M9 hp7 => ?_)
      obtain ⟨L10, U11, rfl, rfl, h12⟩ := hp7
      have h12 : unfR ((M 11)) ((M 6)) = -5 → ∀ k : Int, 0 ≤ k → k < 8 → U11 k = dvQ ((M 11)) ((M 6)) 0 5 k := h12
      show V z g 2 (up1 (up1 M 55 L10) 56 U11) [(0, rf g 0), (1, iv 0)] [iv (unfR ((M 11)) ((M 6)))] 42
      have hur := unfR_rng (M 11) (M 6)
      have hu5 := h12
      refine v_bipush (n := -5) ok rfl dX9_take_42 ?_
      refine v_icmp_eq (tgt := 50) ok ⟨by omega, by omega⟩ (by decide) dX9_take_44 (by decide) (fun c13 => ?_) (fun c13 => ?_)
      · skip
        have hu6 := hu5 (by omega)
        have hu7 : unfR (M 11) (M 6) = -5 := by omega
        have hbq : bdf (dvQ (M 11) (M 6) 0 5) 8 0 20 := fun k k0 k1 => dvQ_rng (unfR_no hu7) k k0 (by omega)
        refine v_cong (n := 8) (dvQ (M 11) (M 6) 0 5) (Or.inl (by decide)) rfl (fun k k0 k1 => hu6 k k0 k1) ?_
        refine v_aload_n ok 0 dX9_take_50 rfl rfl ?_
        refine v_get (T := TX9) (N := 9) (f0 := (M 0)) (v := rf g 54) ok mi_X9_take_9 (kd_lt (show kd 0 = 9 from rfl) (by decide)) rfl rfl (cellF_9 _ (by decide)) 5 (by decide) mk_X9_take_42 rfl rfl dX9_take_51 ?_
        refine v_get (T := TX2) (N := 3) (f0 := (M 54)) (v := rf g 56) ok mi_X9_take_2 (kd_lt (show kd 54 = 2 from rfl) (by decide)) rfl rfl (cellF_2 _ (by decide)) 1 (by decide) mk_X9_take_114 rfl rfl dX9_take_54 ?_
        refine v_aload_n ok 0 dX9_take_57 rfl rfl ?_
        refine v_get (T := TX9) (N := 9) (f0 := (M 0)) (v := rf g 1) ok mi_X9_take_9 (kd_lt (show kd 0 = 9 from rfl) (by decide)) rfl rfl (cellF_9 _ (by decide)) 0 (by decide) mk_X9_take_12 rfl rfl dX9_take_58 ?_
        refine v_get (T := TX7) (N := 5) (f0 := (M 1)) (v := rf g 2) ok mi_X9_take_7 (kd_lt (show kd 1 = 7 from rfl) (by decide)) rfl rfl (cellF_7 _ (by decide)) 0 (by decide) mk_X9_take_67 rfl rfl dX9_take_61 ?_
        refine v_get (T := TX6) (N := 3) (f0 := (M 2)) (v := rf g 3) ok mi_X9_take_6 (kd_lt (show kd 2 = 6 from rfl) (by decide)) rfl rfl (cellF_6 _ (by decide)) 0 (by decide) mk_X9_take_70 rfl rfl dX9_take_64 ?_
        refine v_callS (na := 2) ok (ct_X9_copyNumbers z.2.1 g (up1 (up1 M 55 L10) 56 (dvQ (M 11) (M 6) 0 5)) 56 3 8 (by decide) (by decide) rfl rfl (show (56 : Nat) ≠ 3 by decide)) gX9_take_X9_copyNumbers rfl (by decide +kernel) rfl (by decide) [] rfl (Nat.le_of_ble_eq_true rfl) dX9_take_67 (fun v15 M16 hp14 => ?_)
        obtain ⟨rfl, rfl⟩ := hp14
        show V z g 2 (up1 (up1 (up1 M 55 L10) 56 (dvQ (M 11) (M 6) 0 5)) 3 ((dvQ (M 11) (M 6) 0 5))) [(0, rf g 0), (1, iv 0)] [] 70
        refine v_aload_n ok 0 dX9_take_70 rfl rfl ?_
        refine v_get (T := TX9) (N := 9) (f0 := (M 0)) (v := rf g 1) ok mi_X9_take_9 (kd_lt (show kd 0 = 9 from rfl) (by decide)) rfl rfl (cellF_9 _ (by decide)) 0 (by decide) mk_X9_take_12 rfl rfl dX9_take_71 ?_
        refine v_get (T := TX7) (N := 5) (f0 := (M 1)) (v := rf g 2) ok mi_X9_take_7 (kd_lt (show kd 1 = 7 from rfl) (by decide)) rfl rfl (cellF_7 _ (by decide)) 0 (by decide) mk_X9_take_67 rfl rfl dX9_take_74 ?_
        refine v_get (T := TX6) (N := 3) (f0 := (M 2)) (v := rf g 3) ok mi_X9_take_6 (kd_lt (show kd 2 = 6 from rfl) (by decide)) rfl rfl (cellF_6 _ (by decide)) 0 (by decide) mk_X9_take_70 rfl rfl dX9_take_77 ?_
        refine v_iconst (n := 0) ok dX9_take_80 ?_
        refine v_callS (na := 2) ok (ct_X9_measure z.2.1 g (up1 (up1 (up1 M 55 L10) 56 (dvQ (M 11) (M 6) 0 5)) 3 ((dvQ (M 11) (M 6) 0 5))) 3 8 20 0 (by decide) rfl (by decide) (by decide) hbq (by decide)) gX9_take_X9_measure rfl (by decide +kernel) rfl (by decide) [] rfl (Nat.le_of_ble_eq_true rfl) dX9_take_81 (fun v18 M19 hp17 => ?_)
        obtain ⟨r20, rfl, rfl, h21⟩ := hp17
        have h21 : r20 = msr 0 (((dvQ (M 11) (M 6) 0 5))) (8 : Int).toNat := h21
        show V z g 2 (up1 (up1 (up1 M 55 L10) 56 (dvQ (M 11) (M 6) 0 5)) 3 ((dvQ (M 11) (M 6) 0 5))) [(0, rf g 0), (1, iv 0)] [iv r20] 84
        rw [show (r20 : Int) = (msr 0 (dvQ (M 11) (M 6) 0 5) 8) from h21]
        exact v_iret ok rt dX9_take_84 (Or.inr (Or.inr (⟨L10, (dvQ (M 11) (M 6) 0 5), (congrArg (fun q : Int => some (iv q)) (show (msr 0 (dvQ (M 11) (M 6) 0 5) 8) = (msr 0 (dvQ (M 11) (M (basQ 0 + 1)) 0 5) 8) from by rfl)), rfl, (by omega), hu7⟩)))
      · skip
        refine v_bipush (n := -3) ok rfl dX9_take_47 ?_
        exact v_iret ok rt dX9_take_49 (Or.inr (Or.inl (⟨L10, U11, rfl, rfl, (by omega), (by assumption)⟩)))
    · skip
      refine v_aload_n ok 0 dX9_take_16 rfl rfl ?_
      refine v_get (T := TX9) (N := 9) (f0 := (M 0)) (v := rf g 54) ok mi_X9_take_9 (kd_lt (show kd 0 = 9 from rfl) (by decide)) rfl rfl (cellF_9 _ (by decide)) 5 (by decide) mk_X9_take_42 rfl rfl dX9_take_17 ?_
      refine v_aload_n ok 0 dX9_take_20 rfl rfl ?_
      refine v_get (T := TX9) (N := 9) (f0 := (M 0)) (v := rf g 1) ok mi_X9_take_9 (kd_lt (show kd 0 = 9 from rfl) (by decide)) rfl rfl (cellF_9 _ (by decide)) 0 (by decide) mk_X9_take_12 rfl rfl dX9_take_21 ?_
      refine v_get (T := TX7) (N := 5) (f0 := (M 1)) (v := rf g 2) ok mi_X9_take_7 (kd_lt (show kd 1 = 7 from rfl) (by decide)) rfl rfl (cellF_7 _ (by decide)) 0 (by decide) mk_X9_take_67 rfl rfl dX9_take_24 ?_
      refine v_get (T := TX6) (N := 3) (f0 := (M 2)) (v := rf g 4) ok mi_X9_take_6 (kd_lt (show kd 2 = 6 from rfl) (by decide)) rfl rfl (cellF_6 _ (by decide)) 1 (by decide) mk_X9_take_87 rfl rfl dX9_take_27 ?_
      refine v_iload_n ok 1 dX9_take_30 rfl rfl ?_
      refine v_aald13L (q := 7) ok (by decide) (by decide) rfl dX9_take_31 ?_
      refine v_aload_n ok 0 dX9_take_32 rfl rfl ?_
      refine v_get (T := TX9) (N := 9) (f0 := (M 0)) (v := rf g 1) ok mi_X9_take_9 (kd_lt (show kd 0 = 9 from rfl) (by decide)) rfl rfl (cellF_9 _ (by decide)) 0 (by decide) mk_X9_take_12 rfl rfl dX9_take_33 ?_
      refine v_get (T := TX7) (N := 5) (f0 := (M 1)) (v := rf g 11) ok mi_X9_take_7 (kd_lt (show kd 1 = 7 from rfl) (by decide)) rfl rfl (cellF_7 _ (by decide)) 1 (by decide) mk_X9_take_107 rfl rfl dX9_take_36 ?_
      refine v_callV (na := 2) (i := 54) (C := RX2) (T := TX2) (N := 3) (f0 := (M 54)) ok (ct_X2_unfoldBy z.2.1 g M 7 (by decide) hT (by assumption)) gX9_take_X2_unfoldBy (kd_lt (show kd 54 = 2 from rfl) (by decide)) rfl rfl (cellF_2 _ (by decide)) rfl (by decide +kernel) rfl (by decide) [] rfl (Nat.le_of_ble_eq_true rfl) dX9_take_39 (fun v23 M24 hp22 => ?_)
      obtain ⟨L25, U26, rfl, rfl, h27⟩ := hp22
      have h27 : unfR ((M 11)) ((M 8)) = -5 → ∀ k : Int, 0 ≤ k → k < 8 → U26 k = dvQ ((M 11)) ((M 8)) 0 5 k := h27
      show V z g 2 (up1 (up1 M 55 L25) 56 U26) [(0, rf g 0), (1, iv 1)] [iv (unfR ((M 11)) ((M 8)))] 42
      have hur := unfR_rng (M 11) (M 8)
      have hu5 := h27
      refine v_bipush (n := -5) ok rfl dX9_take_42 ?_
      refine v_icmp_eq (tgt := 50) ok ⟨by omega, by omega⟩ (by decide) dX9_take_44 (by decide) (fun c28 => ?_) (fun c28 => ?_)
      · skip
        have hu6 := hu5 (by omega)
        have hu7 : unfR (M 11) (M 8) = -5 := by omega
        have hbq : bdf (dvQ (M 11) (M 8) 0 5) 8 0 20 := fun k k0 k1 => dvQ_rng (unfR_no hu7) k k0 (by omega)
        refine v_cong (n := 8) (dvQ (M 11) (M 8) 0 5) (Or.inl (by decide)) rfl (fun k k0 k1 => hu6 k k0 k1) ?_
        refine v_aload_n ok 0 dX9_take_50 rfl rfl ?_
        refine v_get (T := TX9) (N := 9) (f0 := (M 0)) (v := rf g 54) ok mi_X9_take_9 (kd_lt (show kd 0 = 9 from rfl) (by decide)) rfl rfl (cellF_9 _ (by decide)) 5 (by decide) mk_X9_take_42 rfl rfl dX9_take_51 ?_
        refine v_get (T := TX2) (N := 3) (f0 := (M 54)) (v := rf g 56) ok mi_X9_take_2 (kd_lt (show kd 54 = 2 from rfl) (by decide)) rfl rfl (cellF_2 _ (by decide)) 1 (by decide) mk_X9_take_114 rfl rfl dX9_take_54 ?_
        refine v_aload_n ok 0 dX9_take_57 rfl rfl ?_
        refine v_get (T := TX9) (N := 9) (f0 := (M 0)) (v := rf g 1) ok mi_X9_take_9 (kd_lt (show kd 0 = 9 from rfl) (by decide)) rfl rfl (cellF_9 _ (by decide)) 0 (by decide) mk_X9_take_12 rfl rfl dX9_take_58 ?_
        refine v_get (T := TX7) (N := 5) (f0 := (M 1)) (v := rf g 2) ok mi_X9_take_7 (kd_lt (show kd 1 = 7 from rfl) (by decide)) rfl rfl (cellF_7 _ (by decide)) 0 (by decide) mk_X9_take_67 rfl rfl dX9_take_61 ?_
        refine v_get (T := TX6) (N := 3) (f0 := (M 2)) (v := rf g 3) ok mi_X9_take_6 (kd_lt (show kd 2 = 6 from rfl) (by decide)) rfl rfl (cellF_6 _ (by decide)) 0 (by decide) mk_X9_take_70 rfl rfl dX9_take_64 ?_
        refine v_callS (na := 2) ok (ct_X9_copyNumbers z.2.1 g (up1 (up1 M 55 L25) 56 (dvQ (M 11) (M 8) 0 5)) 56 3 8 (by decide) (by decide) rfl rfl (show (56 : Nat) ≠ 3 by decide)) gX9_take_X9_copyNumbers rfl (by decide +kernel) rfl (by decide) [] rfl (Nat.le_of_ble_eq_true rfl) dX9_take_67 (fun v30 M31 hp29 => ?_)
        obtain ⟨rfl, rfl⟩ := hp29
        show V z g 2 (up1 (up1 (up1 M 55 L25) 56 (dvQ (M 11) (M 8) 0 5)) 3 ((dvQ (M 11) (M 8) 0 5))) [(0, rf g 0), (1, iv 1)] [] 70
        refine v_aload_n ok 0 dX9_take_70 rfl rfl ?_
        refine v_get (T := TX9) (N := 9) (f0 := (M 0)) (v := rf g 1) ok mi_X9_take_9 (kd_lt (show kd 0 = 9 from rfl) (by decide)) rfl rfl (cellF_9 _ (by decide)) 0 (by decide) mk_X9_take_12 rfl rfl dX9_take_71 ?_
        refine v_get (T := TX7) (N := 5) (f0 := (M 1)) (v := rf g 2) ok mi_X9_take_7 (kd_lt (show kd 1 = 7 from rfl) (by decide)) rfl rfl (cellF_7 _ (by decide)) 0 (by decide) mk_X9_take_67 rfl rfl dX9_take_74 ?_
        refine v_get (T := TX6) (N := 3) (f0 := (M 2)) (v := rf g 3) ok mi_X9_take_6 (kd_lt (show kd 2 = 6 from rfl) (by decide)) rfl rfl (cellF_6 _ (by decide)) 0 (by decide) mk_X9_take_70 rfl rfl dX9_take_77 ?_
        refine v_iconst (n := 0) ok dX9_take_80 ?_
        refine v_callS (na := 2) ok (ct_X9_measure z.2.1 g (up1 (up1 (up1 M 55 L25) 56 (dvQ (M 11) (M 8) 0 5)) 3 ((dvQ (M 11) (M 8) 0 5))) 3 8 20 0 (by decide) rfl (by decide) (by decide) hbq (by decide)) gX9_take_X9_measure rfl (by decide +kernel) rfl (by decide) [] rfl (Nat.le_of_ble_eq_true rfl) dX9_take_81 (fun v33 M34 hp32 => ?_)
        obtain ⟨r35, rfl, rfl, h36⟩ := hp32
        have h36 : r35 = msr 0 (((dvQ (M 11) (M 8) 0 5))) (8 : Int).toNat := h36
        show V z g 2 (up1 (up1 (up1 M 55 L25) 56 (dvQ (M 11) (M 8) 0 5)) 3 ((dvQ (M 11) (M 8) 0 5))) [(0, rf g 0), (1, iv 1)] [iv r35] 84
        rw [show (r35 : Int) = (msr 0 (dvQ (M 11) (M 8) 0 5) 8) from h36]
        exact v_iret ok rt dX9_take_84 (Or.inr (Or.inr (⟨L25, (dvQ (M 11) (M 8) 0 5), (congrArg (fun q : Int => some (iv q)) (show (msr 0 (dvQ (M 11) (M 8) 0 5) 8) = (msr 0 (dvQ (M 11) (M (basQ 1 + 1)) 0 5) 8) from by rfl)), rfl, (by omega), hu7⟩)))
      · skip
        refine v_bipush (n := -3) ok rfl dX9_take_47 ?_
        exact v_iret ok rt dX9_take_49 (Or.inr (Or.inl (⟨L25, U26, rfl, rfl, (by omega), (by assumption)⟩)))
    · skip
      refine v_aload_n ok 0 dX9_take_16 rfl rfl ?_
      refine v_get (T := TX9) (N := 9) (f0 := (M 0)) (v := rf g 54) ok mi_X9_take_9 (kd_lt (show kd 0 = 9 from rfl) (by decide)) rfl rfl (cellF_9 _ (by decide)) 5 (by decide) mk_X9_take_42 rfl rfl dX9_take_17 ?_
      refine v_aload_n ok 0 dX9_take_20 rfl rfl ?_
      refine v_get (T := TX9) (N := 9) (f0 := (M 0)) (v := rf g 1) ok mi_X9_take_9 (kd_lt (show kd 0 = 9 from rfl) (by decide)) rfl rfl (cellF_9 _ (by decide)) 0 (by decide) mk_X9_take_12 rfl rfl dX9_take_21 ?_
      refine v_get (T := TX7) (N := 5) (f0 := (M 1)) (v := rf g 2) ok mi_X9_take_7 (kd_lt (show kd 1 = 7 from rfl) (by decide)) rfl rfl (cellF_7 _ (by decide)) 0 (by decide) mk_X9_take_67 rfl rfl dX9_take_24 ?_
      refine v_get (T := TX6) (N := 3) (f0 := (M 2)) (v := rf g 4) ok mi_X9_take_6 (kd_lt (show kd 2 = 6 from rfl) (by decide)) rfl rfl (cellF_6 _ (by decide)) 1 (by decide) mk_X9_take_87 rfl rfl dX9_take_27 ?_
      refine v_iload_n ok 1 dX9_take_30 rfl rfl ?_
      refine v_aald13L (q := 9) ok (by decide) (by decide) rfl dX9_take_31 ?_
      refine v_aload_n ok 0 dX9_take_32 rfl rfl ?_
      refine v_get (T := TX9) (N := 9) (f0 := (M 0)) (v := rf g 1) ok mi_X9_take_9 (kd_lt (show kd 0 = 9 from rfl) (by decide)) rfl rfl (cellF_9 _ (by decide)) 0 (by decide) mk_X9_take_12 rfl rfl dX9_take_33 ?_
      refine v_get (T := TX7) (N := 5) (f0 := (M 1)) (v := rf g 11) ok mi_X9_take_7 (kd_lt (show kd 1 = 7 from rfl) (by decide)) rfl rfl (cellF_7 _ (by decide)) 1 (by decide) mk_X9_take_107 rfl rfl dX9_take_36 ?_
      refine v_callV (na := 2) (i := 54) (C := RX2) (T := TX2) (N := 3) (f0 := (M 54)) ok (ct_X2_unfoldBy z.2.1 g M 9 (by decide) hT (by assumption)) gX9_take_X2_unfoldBy (kd_lt (show kd 54 = 2 from rfl) (by decide)) rfl rfl (cellF_2 _ (by decide)) rfl (by decide +kernel) rfl (by decide) [] rfl (Nat.le_of_ble_eq_true rfl) dX9_take_39 (fun v38 M39 hp37 => ?_)
      obtain ⟨L40, U41, rfl, rfl, h42⟩ := hp37
      have h42 : unfR ((M 11)) ((M 10)) = -5 → ∀ k : Int, 0 ≤ k → k < 8 → U41 k = dvQ ((M 11)) ((M 10)) 0 5 k := h42
      show V z g 2 (up1 (up1 M 55 L40) 56 U41) [(0, rf g 0), (1, iv 2)] [iv (unfR ((M 11)) ((M 10)))] 42
      have hur := unfR_rng (M 11) (M 10)
      have hu5 := h42
      refine v_bipush (n := -5) ok rfl dX9_take_42 ?_
      refine v_icmp_eq (tgt := 50) ok ⟨by omega, by omega⟩ (by decide) dX9_take_44 (by decide) (fun c43 => ?_) (fun c43 => ?_)
      · skip
        have hu6 := hu5 (by omega)
        have hu7 : unfR (M 11) (M 10) = -5 := by omega
        have hbq : bdf (dvQ (M 11) (M 10) 0 5) 8 0 20 := fun k k0 k1 => dvQ_rng (unfR_no hu7) k k0 (by omega)
        refine v_cong (n := 8) (dvQ (M 11) (M 10) 0 5) (Or.inl (by decide)) rfl (fun k k0 k1 => hu6 k k0 k1) ?_
        refine v_aload_n ok 0 dX9_take_50 rfl rfl ?_
        refine v_get (T := TX9) (N := 9) (f0 := (M 0)) (v := rf g 54) ok mi_X9_take_9 (kd_lt (show kd 0 = 9 from rfl) (by decide)) rfl rfl (cellF_9 _ (by decide)) 5 (by decide) mk_X9_take_42 rfl rfl dX9_take_51 ?_
        refine v_get (T := TX2) (N := 3) (f0 := (M 54)) (v := rf g 56) ok mi_X9_take_2 (kd_lt (show kd 54 = 2 from rfl) (by decide)) rfl rfl (cellF_2 _ (by decide)) 1 (by decide) mk_X9_take_114 rfl rfl dX9_take_54 ?_
        refine v_aload_n ok 0 dX9_take_57 rfl rfl ?_
        refine v_get (T := TX9) (N := 9) (f0 := (M 0)) (v := rf g 1) ok mi_X9_take_9 (kd_lt (show kd 0 = 9 from rfl) (by decide)) rfl rfl (cellF_9 _ (by decide)) 0 (by decide) mk_X9_take_12 rfl rfl dX9_take_58 ?_
        refine v_get (T := TX7) (N := 5) (f0 := (M 1)) (v := rf g 2) ok mi_X9_take_7 (kd_lt (show kd 1 = 7 from rfl) (by decide)) rfl rfl (cellF_7 _ (by decide)) 0 (by decide) mk_X9_take_67 rfl rfl dX9_take_61 ?_
        refine v_get (T := TX6) (N := 3) (f0 := (M 2)) (v := rf g 3) ok mi_X9_take_6 (kd_lt (show kd 2 = 6 from rfl) (by decide)) rfl rfl (cellF_6 _ (by decide)) 0 (by decide) mk_X9_take_70 rfl rfl dX9_take_64 ?_
        refine v_callS (na := 2) ok (ct_X9_copyNumbers z.2.1 g (up1 (up1 M 55 L40) 56 (dvQ (M 11) (M 10) 0 5)) 56 3 8 (by decide) (by decide) rfl rfl (show (56 : Nat) ≠ 3 by decide)) gX9_take_X9_copyNumbers rfl (by decide +kernel) rfl (by decide) [] rfl (Nat.le_of_ble_eq_true rfl) dX9_take_67 (fun v45 M46 hp44 => ?_)
        obtain ⟨rfl, rfl⟩ := hp44
        show V z g 2 (up1 (up1 (up1 M 55 L40) 56 (dvQ (M 11) (M 10) 0 5)) 3 ((dvQ (M 11) (M 10) 0 5))) [(0, rf g 0), (1, iv 2)] [] 70
        refine v_aload_n ok 0 dX9_take_70 rfl rfl ?_
        refine v_get (T := TX9) (N := 9) (f0 := (M 0)) (v := rf g 1) ok mi_X9_take_9 (kd_lt (show kd 0 = 9 from rfl) (by decide)) rfl rfl (cellF_9 _ (by decide)) 0 (by decide) mk_X9_take_12 rfl rfl dX9_take_71 ?_
        refine v_get (T := TX7) (N := 5) (f0 := (M 1)) (v := rf g 2) ok mi_X9_take_7 (kd_lt (show kd 1 = 7 from rfl) (by decide)) rfl rfl (cellF_7 _ (by decide)) 0 (by decide) mk_X9_take_67 rfl rfl dX9_take_74 ?_
        refine v_get (T := TX6) (N := 3) (f0 := (M 2)) (v := rf g 3) ok mi_X9_take_6 (kd_lt (show kd 2 = 6 from rfl) (by decide)) rfl rfl (cellF_6 _ (by decide)) 0 (by decide) mk_X9_take_70 rfl rfl dX9_take_77 ?_
        refine v_iconst (n := 0) ok dX9_take_80 ?_
        refine v_callS (na := 2) ok (ct_X9_measure z.2.1 g (up1 (up1 (up1 M 55 L40) 56 (dvQ (M 11) (M 10) 0 5)) 3 ((dvQ (M 11) (M 10) 0 5))) 3 8 20 0 (by decide) rfl (by decide) (by decide) hbq (by decide)) gX9_take_X9_measure rfl (by decide +kernel) rfl (by decide) [] rfl (Nat.le_of_ble_eq_true rfl) dX9_take_81 (fun v48 M49 hp47 => ?_)
        obtain ⟨r50, rfl, rfl, h51⟩ := hp47
        have h51 : r50 = msr 0 (((dvQ (M 11) (M 10) 0 5))) (8 : Int).toNat := h51
        show V z g 2 (up1 (up1 (up1 M 55 L40) 56 (dvQ (M 11) (M 10) 0 5)) 3 ((dvQ (M 11) (M 10) 0 5))) [(0, rf g 0), (1, iv 2)] [iv r50] 84
        rw [show (r50 : Int) = (msr 0 (dvQ (M 11) (M 10) 0 5) 8) from h51]
        exact v_iret ok rt dX9_take_84 (Or.inr (Or.inr (⟨L40, (dvQ (M 11) (M 10) 0 5), (congrArg (fun q : Int => some (iv q)) (show (msr 0 (dvQ (M 11) (M 10) 0 5) 8) = (msr 0 (dvQ (M 11) (M (basQ 2 + 1)) 0 5) 8) from by rfl)), rfl, (by omega), hu7⟩)))
      · skip
        refine v_bipush (n := -3) ok rfl dX9_take_47 ?_
        exact v_iret ok rt dX9_take_49 (Or.inr (Or.inl (⟨L40, U41, rfl, rfl, (by omega), (by assumption)⟩)))
  · skip
    subst M3
    have h5 : ¬ (0 ≤ b ∧ b < (M 2) 2) := h5
    show V z g 2 M [(0, rf g 0), (1, iv b)] [iv 0] 11
    refine v_if_ne (tgt := 16) ok (by decide) dX9_take_11 (by decide) (fun c52 => absurd c52 (by decide)) (fun c52 => ?_)
    refine v_iconst (n := -1) ok dX9_take_14 ?_
    exact v_iret ok rt dX9_take_15 (Or.inl (⟨rfl, rfl, (by omega)⟩))

theorem mk_X9_backFlaw_42 : Cond.fieldLink RX9 42 "StormRunoff" "division" "LStormRunoff$Division;" ∈ wsX9_backFlaw := by decide +kernel
theorem mi_X9_backFlaw_9 : ∀ w ∈ wsX90, w ∈ wsX9_backFlaw := by decide +kernel
theorem mk_X9_backFlaw_12 : Cond.fieldLink RX9 12 "StormRunoff" "now" "LStormRunoff$State;" ∈ wsX9_backFlaw := by decide +kernel
theorem mk_X9_backFlaw_67 : Cond.fieldLink RX9 67 "StormRunoff$State" "site" "LStormRunoff$Site;" ∈ wsX9_backFlaw := by decide +kernel
theorem mi_X9_backFlaw_7 : ∀ w ∈ wsX70, w ∈ wsX9_backFlaw := by decide +kernel
theorem mk_X9_backFlaw_70 : Cond.fieldLink RX9 70 "StormRunoff$Site" "rain" "[I" ∈ wsX9_backFlaw := by decide +kernel
theorem mi_X9_backFlaw_6 : ∀ w ∈ wsX60, w ∈ wsX9_backFlaw := by decide +kernel
theorem mk_X9_backFlaw_107 : Cond.fieldLink RX9 107 "StormRunoff$State" "told" "[I" ∈ wsX9_backFlaw := by decide +kernel
set_option maxRecDepth 100000 in
set_option maxHeartbeats 400000 in
theorem ct_X9_backFlaw (l : Launch) (g : Gl) (M : Mem)  (hR : bdf (M 3) 8 0 20) (hT : bdf (M 11) 12 0 999) : Ct l g yX9_backFlaw wsX9_backFlaw 3 70 [rf g 0] M (fun rv M' => ∃ (L U : Int → Int), rv = some (iv (fbR (M 11) (M 3))) ∧ M' = (up1 (up1 M 55 L) 57 U)) := by
  refine Ct.of (cc := cX9_backFlaw) (nL := 1) (ret := (some .int)) (by decide) rfl (Nat.le_of_ble_eq_true rfl) (fun z hz ok rt => ?_)
  have ok : Ok z g cX9_backFlaw 1 RX9 wsX9_backFlaw 3 70 := ok
  show V z g 1 M [(0, rf g 0)] [] 0
  refine v_aload_n ok 0 dX9_backFlaw_0 rfl rfl ?_
  refine v_get (T := TX9) (N := 9) (f0 := (M 0)) (v := rf g 54) ok mi_X9_backFlaw_9 (kd_lt (show kd 0 = 9 from rfl) (by decide)) rfl rfl (cellF_9 _ (by decide)) 5 (by decide) mk_X9_backFlaw_42 rfl rfl dX9_backFlaw_1 ?_
  refine v_aload_n ok 0 dX9_backFlaw_4 rfl rfl ?_
  refine v_get (T := TX9) (N := 9) (f0 := (M 0)) (v := rf g 1) ok mi_X9_backFlaw_9 (kd_lt (show kd 0 = 9 from rfl) (by decide)) rfl rfl (cellF_9 _ (by decide)) 0 (by decide) mk_X9_backFlaw_12 rfl rfl dX9_backFlaw_5 ?_
  refine v_get (T := TX7) (N := 5) (f0 := (M 1)) (v := rf g 2) ok mi_X9_backFlaw_7 (kd_lt (show kd 1 = 7 from rfl) (by decide)) rfl rfl (cellF_7 _ (by decide)) 0 (by decide) mk_X9_backFlaw_67 rfl rfl dX9_backFlaw_8 ?_
  refine v_get (T := TX6) (N := 3) (f0 := (M 2)) (v := rf g 3) ok mi_X9_backFlaw_6 (kd_lt (show kd 2 = 6 from rfl) (by decide)) rfl rfl (cellF_6 _ (by decide)) 0 (by decide) mk_X9_backFlaw_70 rfl rfl dX9_backFlaw_11 ?_
  refine v_aload_n ok 0 dX9_backFlaw_14 rfl rfl ?_
  refine v_get (T := TX9) (N := 9) (f0 := (M 0)) (v := rf g 1) ok mi_X9_backFlaw_9 (kd_lt (show kd 0 = 9 from rfl) (by decide)) rfl rfl (cellF_9 _ (by decide)) 0 (by decide) mk_X9_backFlaw_12 rfl rfl dX9_backFlaw_15 ?_
  refine v_get (T := TX7) (N := 5) (f0 := (M 1)) (v := rf g 11) ok mi_X9_backFlaw_7 (kd_lt (show kd 1 = 7 from rfl) (by decide)) rfl rfl (cellF_7 _ (by decide)) 1 (by decide) mk_X9_backFlaw_107 rfl rfl dX9_backFlaw_18 ?_
  refine v_callV (na := 2) (i := 54) (C := RX2) (T := TX2) (N := 3) (f0 := (M 54)) ok (ct_X2_findBack z.2.1 g M  hR hT) gX9_backFlaw_X2_findBack (kd_lt (show kd 54 = 2 from rfl) (by decide)) rfl rfl (cellF_2 _ (by decide)) rfl (by decide +kernel) rfl (by decide) [] rfl (Nat.le_of_ble_eq_true rfl) dX9_backFlaw_21 (fun v2 M3 hp1 => ?_)
  obtain ⟨L4, U5, rfl, rfl, h6⟩ := hp1
  have h6 : fbR ((M 11)) ((M 3)) = -6 → ∀ k : Int, 0 ≤ k → k < 5 → U5 k = dvQ ((M 11)) ((M 3)) (fwt ((M 3)) 8 0) 8 k := h6
  show V z g 1 (up1 (up1 M 55 L4) 57 U5) [(0, rf g 0)] [iv (fbR ((M 11)) ((M 3)))] 24
  exact v_iret ok rt dX9_backFlaw_24 (⟨L4, U5, (congrArg (fun q : Int => some (iv q)) (show (fbR ((M 11)) ((M 3))) = (fbR (M 11) (M 3)) from by omega)), rfl⟩)

theorem mk_X9_back_42 : Cond.fieldLink RX9 42 "StormRunoff" "division" "LStormRunoff$Division;" ∈ wsX9_back := by decide +kernel
theorem mi_X9_back_9 : ∀ w ∈ wsX90, w ∈ wsX9_back := by decide +kernel
theorem mk_X9_back_12 : Cond.fieldLink RX9 12 "StormRunoff" "now" "LStormRunoff$State;" ∈ wsX9_back := by decide +kernel
theorem mk_X9_back_67 : Cond.fieldLink RX9 67 "StormRunoff$State" "site" "LStormRunoff$Site;" ∈ wsX9_back := by decide +kernel
theorem mi_X9_back_7 : ∀ w ∈ wsX70, w ∈ wsX9_back := by decide +kernel
theorem mk_X9_back_70 : Cond.fieldLink RX9 70 "StormRunoff$Site" "rain" "[I" ∈ wsX9_back := by decide +kernel
theorem mi_X9_back_6 : ∀ w ∈ wsX60, w ∈ wsX9_back := by decide +kernel
theorem mk_X9_back_107 : Cond.fieldLink RX9 107 "StormRunoff$State" "told" "[I" ∈ wsX9_back := by decide +kernel
theorem mk_X9_back_162 : Cond.fieldLink RX9 162 "StormRunoff$Division" "answer" "[I" ∈ wsX9_back := by decide +kernel
theorem mi_X9_back_2 : ∀ w ∈ wsX20, w ∈ wsX9_back := by decide +kernel
set_option maxRecDepth 100000 in
set_option maxHeartbeats 400000 in
theorem ct_X9_back (l : Launch) (g : Gl) (M : Mem) (p : Int) (hp : i32 p) (hR : bdf (M 3) 8 0 20) (hT : bdf (M 11) 12 0 999) : Ct l g yX9_back wsX9_back 3 70 [rf g 0, iv p] M (fun rv M' => (rv = some (iv (-1)) ∧ M' = M ∧ (¬ (0 ≤ p ∧ p ≤ 4))) ∨ (∃ (L U : Int → Int), rv = some (iv (-3)) ∧ M' = (up1 (up1 M 55 L) 57 U) ∧ (0 ≤ p ∧ p ≤ 4) ∧ (fbR (M 11) (M 3) ≠ -6)) ∨ (∃ (L U : Int → Int), rv = some (iv (dvQ (M 11) (M 3) (fwt (M 3) 8 0) 8 p)) ∧ M' = (up1 (up1 M 55 L) 57 U) ∧ (0 ≤ p ∧ p ≤ 4) ∧ (fbR (M 11) (M 3) = -6))) := by
  refine Ct.of (cc := cX9_back) (nL := 2) (ret := (some .int)) (by decide) rfl (Nat.le_of_ble_eq_true rfl) (fun z hz ok rt => ?_)
  have ok : Ok z g cX9_back 2 RX9 wsX9_back 3 70 := ok
  show V z g 2 M [(0, rf g 0), (1, iv p)] [] 0
  refine v_iload_n ok 1 dX9_back_0 rfl rfl ?_
  refine v_iconst (n := 0) ok dX9_back_1 ?_
  refine v_iconst (n := 4) ok dX9_back_2 ?_
  refine v_callS (na := 3) ok (ct_X9_between z.2.1 g M p 0 4 ⟨by omega, by omega⟩ (by decide) (by decide)) gX9_back_X9_between rfl (by decide +kernel) rfl (by decide) [] rfl (Nat.le_of_ble_eq_true rfl) dX9_back_3 (fun v2 M3 hp1 => ?_)
  rcases hp1 with ⟨rfl, eM3, h4⟩ | ⟨rfl, eM3, h5⟩
  · skip
    subst M3
    show V z g 2 M [(0, rf g 0), (1, iv p)] [iv 1] 6
    refine v_if_ne (tgt := 11) ok (by decide) dX9_back_6 (by decide) (fun c6 => ?_) (fun c6 => absurd c6 (by decide))
    refine v_aload_n ok 0 dX9_back_11 rfl rfl ?_
    refine v_get (T := TX9) (N := 9) (f0 := (M 0)) (v := rf g 54) ok mi_X9_back_9 (kd_lt (show kd 0 = 9 from rfl) (by decide)) rfl rfl (cellF_9 _ (by decide)) 5 (by decide) mk_X9_back_42 rfl rfl dX9_back_12 ?_
    refine v_aload_n ok 0 dX9_back_15 rfl rfl ?_
    refine v_get (T := TX9) (N := 9) (f0 := (M 0)) (v := rf g 1) ok mi_X9_back_9 (kd_lt (show kd 0 = 9 from rfl) (by decide)) rfl rfl (cellF_9 _ (by decide)) 0 (by decide) mk_X9_back_12 rfl rfl dX9_back_16 ?_
    refine v_get (T := TX7) (N := 5) (f0 := (M 1)) (v := rf g 2) ok mi_X9_back_7 (kd_lt (show kd 1 = 7 from rfl) (by decide)) rfl rfl (cellF_7 _ (by decide)) 0 (by decide) mk_X9_back_67 rfl rfl dX9_back_19 ?_
    refine v_get (T := TX6) (N := 3) (f0 := (M 2)) (v := rf g 3) ok mi_X9_back_6 (kd_lt (show kd 2 = 6 from rfl) (by decide)) rfl rfl (cellF_6 _ (by decide)) 0 (by decide) mk_X9_back_70 rfl rfl dX9_back_22 ?_
    refine v_aload_n ok 0 dX9_back_25 rfl rfl ?_
    refine v_get (T := TX9) (N := 9) (f0 := (M 0)) (v := rf g 1) ok mi_X9_back_9 (kd_lt (show kd 0 = 9 from rfl) (by decide)) rfl rfl (cellF_9 _ (by decide)) 0 (by decide) mk_X9_back_12 rfl rfl dX9_back_26 ?_
    refine v_get (T := TX7) (N := 5) (f0 := (M 1)) (v := rf g 11) ok mi_X9_back_7 (kd_lt (show kd 1 = 7 from rfl) (by decide)) rfl rfl (cellF_7 _ (by decide)) 1 (by decide) mk_X9_back_107 rfl rfl dX9_back_29 ?_
    refine v_callV (na := 2) (i := 54) (C := RX2) (T := TX2) (N := 3) (f0 := (M 54)) ok (ct_X2_findBack z.2.1 g M  hR hT) gX9_back_X2_findBack (kd_lt (show kd 54 = 2 from rfl) (by decide)) rfl rfl (cellF_2 _ (by decide)) rfl (by decide +kernel) rfl (by decide) [] rfl (Nat.le_of_ble_eq_true rfl) dX9_back_32 (fun v8 M9 hp7 => ?_)
    obtain ⟨L10, U11, rfl, rfl, h12⟩ := hp7
    have h12 : fbR ((M 11)) ((M 3)) = -6 → ∀ k : Int, 0 ≤ k → k < 5 → U11 k = dvQ ((M 11)) ((M 3)) (fwt ((M 3)) 8 0) 8 k := h12
    show V z g 2 (up1 (up1 M 55 L10) 57 U11) [(0, rf g 0), (1, iv p)] [iv (fbR ((M 11)) ((M 3)))] 35
    have hur := fbR_rng (M 11) (M 3)
    have hu5 := h12
    refine v_bipush (n := -6) ok rfl dX9_back_35 ?_
    refine v_icmp_eq (tgt := 43) ok ⟨by omega, by omega⟩ (by decide) dX9_back_37 (by decide) (fun c13 => ?_) (fun c13 => ?_)
    · skip
      have hu6 := hu5 (by omega)
      refine v_cong (n := 5) (dvQ (M 11) (M 3) (fwt (M 3) 8 0) 8) (Or.inl (by decide)) rfl (fun k k0 k1 => hu6 k k0 k1) ?_
      refine v_aload_n ok 0 dX9_back_43 rfl rfl ?_
      refine v_get (T := TX9) (N := 9) (f0 := (M 0)) (v := rf g 54) ok mi_X9_back_9 (kd_lt (show kd 0 = 9 from rfl) (by decide)) rfl rfl (cellF_9 _ (by decide)) 5 (by decide) mk_X9_back_42 rfl rfl dX9_back_44 ?_
      refine v_get (T := TX2) (N := 3) (f0 := (M 54)) (v := rf g 57) ok mi_X9_back_2 (kd_lt (show kd 54 = 2 from rfl) (by decide)) rfl rfl (cellF_2 _ (by decide)) 2 (by decide) mk_X9_back_162 rfl rfl dX9_back_47 ?_
      refine v_iload_n ok 1 dX9_back_50 rfl rfl ?_
      refine v_iald (n := 5) (f0 := (dvQ (M 11) (M 3) (fwt (M 3) 8 0) 8)) ok (by decide) rfl (by omega) rfl dX9_back_51 ?_
      exact v_iret ok rt dX9_back_52 (Or.inr (Or.inr (⟨L10, (dvQ (M 11) (M 3) (fwt (M 3) 8 0) 8), (congrArg (fun q : Int => some (iv q)) (show ((dvQ (M 11) (M 3) (fwt (M 3) 8 0) 8) p) = (dvQ (M 11) (M 3) (fwt (M 3) 8 0) 8 p) from by omega)), rfl, (by omega), (by omega)⟩)))
    · skip
      refine v_bipush (n := -3) ok rfl dX9_back_40 ?_
      exact v_iret ok rt dX9_back_42 (Or.inr (Or.inl (⟨L10, U11, rfl, rfl, (by omega), (by omega)⟩)))
  · skip
    subst M3
    show V z g 2 M [(0, rf g 0), (1, iv p)] [iv 0] 6
    refine v_if_ne (tgt := 11) ok (by decide) dX9_back_6 (by decide) (fun c14 => absurd c14 (by decide)) (fun c14 => ?_)
    refine v_iconst (n := -1) ok dX9_back_9 ?_
    exact v_iret ok rt dX9_back_10 (Or.inl (⟨rfl, rfl, (by omega)⟩))

theorem mk_X9_nearest_12 : Cond.fieldLink RX9 12 "StormRunoff" "now" "LStormRunoff$State;" ∈ wsX9_nearest := by decide +kernel
theorem mi_X9_nearest_9 : ∀ w ∈ wsX90, w ∈ wsX9_nearest := by decide +kernel
theorem mk_X9_nearest_67 : Cond.fieldLink RX9 67 "StormRunoff$State" "site" "LStormRunoff$Site;" ∈ wsX9_nearest := by decide +kernel
theorem mi_X9_nearest_7 : ∀ w ∈ wsX70, w ∈ wsX9_nearest := by decide +kernel
theorem mk_X9_nearest_49 : Cond.fieldLink RX9 49 "StormRunoff" "nearness" "LStormRunoff$Nearness;" ∈ wsX9_nearest := by decide +kernel
theorem mk_X9_nearest_87 : Cond.fieldLink RX9 87 "StormRunoff$Site" "basins" "[LStormRunoff$Basin;" ∈ wsX9_nearest := by decide +kernel
theorem mi_X9_nearest_6 : ∀ w ∈ wsX60, w ∈ wsX9_nearest := by decide +kernel
theorem mk_X9_nearest_107 : Cond.fieldLink RX9 107 "StormRunoff$State" "told" "[I" ∈ wsX9_nearest := by decide +kernel
theorem mk_X9_nearest_167 : Cond.fieldLink RX9 167 "StormRunoff$Nearness" "best" "[I" ∈ wsX9_nearest := by decide +kernel
theorem mi_X9_nearest_3 : ∀ w ∈ wsX30, w ∈ wsX9_nearest := by decide +kernel
theorem mk_X9_nearest_170 : Cond.fieldLink RX9 170 "StormRunoff$Nearness" "least" "I" ∈ wsX9_nearest := by decide +kernel
set_option maxRecDepth 100000 in
set_option maxHeartbeats 400000 in
theorem ct_X9_nearest (l : Launch) (g : Gl) (M : Mem) (b h : Int) (hb : i32 b) (hh : i32 h) (hs : SiteOk M 2) (hT : bdf (M 11) 12 0 999) : Ct l g yX9_nearest wsX9_nearest 3 71 [rf g 0, iv b, iv h] M (fun rv M' => (rv = some (iv (-1)) ∧ M' = M ∧ (¬ (0 ≤ b ∧ b < M 2 2) ∨ ¬ (0 ≤ h ∧ h ≤ 3))) ∨ (∃ (R F : Int → Int), rv = some (iv (spr (amn (nrs (M 11) (M (basQ b + 1))) 343) h)) ∧ M' = (up1 (up1 (up1 (up1 M 58 (up (M 58) 3 ((nrs (M 11) (M (basQ b + 1))) (amn (nrs (M 11) (M (basQ b + 1))) 343)))) 59 R) 61 F) 60 (spr (amn (nrs (M 11) (M (basQ b + 1))) 343))) ∧ (0 ≤ b ∧ b < M 2 2) ∧ (0 ≤ h ∧ h ≤ 2)) ∨ (∃ (R F : Int → Int), rv = some (iv ((nrs (M 11) (M (basQ b + 1))) (amn (nrs (M 11) (M (basQ b + 1))) 343))) ∧ M' = (up1 (up1 (up1 (up1 M 58 (up (M 58) 3 ((nrs (M 11) (M (basQ b + 1))) (amn (nrs (M 11) (M (basQ b + 1))) 343)))) 59 R) 61 F) 60 (spr (amn (nrs (M 11) (M (basQ b + 1))) 343))) ∧ (0 ≤ b ∧ b < M 2 2) ∧ (h = 3))) := by
  refine Ct.of (cc := cX9_nearest) (nL := 3) (ret := (some .int)) (by decide) rfl (Nat.le_of_ble_eq_true rfl) (fun z hz ok rt => ?_)
  have ok : Ok z g cX9_nearest 3 RX9 wsX9_nearest 3 71 := ok
  show V z g 3 M [(0, rf g 0), (1, iv b), (2, iv h)] [] 0
  have hR : bdf (M 3) 8 0 20 := hs.1
  have hm : 0 ≤ M 2 2 ∧ M 2 2 ≤ 3 := hs.2.1
  have hA0 : bdf (M 6) 5 0 9 := hs.2.2.1.1
  have hk0 : 0 ≤ M 5 2 ∧ M 5 2 ≤ 4 := hs.2.2.1.2.2.1
  have hn0 : 0 ≤ M 5 3 ∧ M 5 3 ≤ 9 := hs.2.2.1.2.2.2
  have hA1 : bdf (M 8) 5 0 9 := hs.2.2.2.1.1
  have hk1 : 0 ≤ M 7 2 ∧ M 7 2 ≤ 4 := hs.2.2.2.1.2.2.1
  have hn1 : 0 ≤ M 7 3 ∧ M 7 3 ≤ 9 := hs.2.2.2.1.2.2.2
  have hA2 : bdf (M 10) 5 0 9 := hs.2.2.2.2.1
  have hk2 : 0 ≤ M 9 2 ∧ M 9 2 ≤ 4 := hs.2.2.2.2.2.2.1
  have hn2 : 0 ≤ M 9 3 ∧ M 9 3 ≤ 9 := hs.2.2.2.2.2.2.2
  refine v_aload_n ok 0 dX9_nearest_0 rfl rfl ?_
  refine v_get (T := TX9) (N := 9) (f0 := (M 0)) (v := rf g 1) ok mi_X9_nearest_9 (kd_lt (show kd 0 = 9 from rfl) (by decide)) rfl rfl (cellF_9 _ (by decide)) 0 (by decide) mk_X9_nearest_12 rfl rfl dX9_nearest_1 ?_
  refine v_get (T := TX7) (N := 5) (f0 := (M 1)) (v := rf g 2) ok mi_X9_nearest_7 (kd_lt (show kd 1 = 7 from rfl) (by decide)) rfl rfl (cellF_7 _ (by decide)) 0 (by decide) mk_X9_nearest_67 rfl rfl dX9_nearest_4 ?_
  refine v_iload_n ok 1 dX9_nearest_7 rfl rfl ?_
  refine v_callV (na := 1) (i := 2) (C := RX6) (T := TX6) (N := 3) (f0 := (M 2)) ok (ct_X6_has z.2.1 g M 2 b (by decide) ⟨by omega, by omega⟩ hm) gX9_nearest_X6_has (kd_lt (show kd 2 = 6 from rfl) (by decide)) rfl rfl (cellF_6 _ (by decide)) rfl (by decide +kernel) rfl (by decide) [] rfl (Nat.le_of_ble_eq_true rfl) dX9_nearest_8 (fun v2 M3 hp1 => ?_)
  rcases hp1 with ⟨rfl, eM3, h4⟩ | ⟨rfl, eM3, h5⟩
  · skip
    subst M3
    have h4 : 0 ≤ b ∧ b < (M 2) 2 := h4
    show V z g 3 M [(0, rf g 0), (1, iv b), (2, iv h)] [iv 1] 11
    refine v_if_eq (tgt := 23) ok (by decide) dX9_nearest_11 (by decide) (fun c6 => absurd c6 (by decide)) (fun c6 => ?_)
    refine v_iload_n ok 2 dX9_nearest_14 rfl rfl ?_
    refine v_iconst (n := 0) ok dX9_nearest_15 ?_
    refine v_iconst (n := 3) ok dX9_nearest_16 ?_
    refine v_callS (na := 3) ok (ct_X9_between z.2.1 g M h 0 3 ⟨by omega, by omega⟩ (by decide) (by decide)) gX9_nearest_X9_between rfl (by decide +kernel) rfl (by decide) [] rfl (Nat.le_of_ble_eq_true rfl) dX9_nearest_17 (fun v8 M9 hp7 => ?_)
    rcases hp7 with ⟨rfl, eM9, h10⟩ | ⟨rfl, eM9, h11⟩
    · skip
      subst M9
      show V z g 3 M [(0, rf g 0), (1, iv b), (2, iv h)] [iv 1] 20
      refine v_if_ne (tgt := 25) ok (by decide) dX9_nearest_20 (by decide) (fun c12 => ?_) (fun c12 => absurd c12 (by decide))
      have hsp25 : b = 0 ∨ b = 1 ∨ b = 2 := by omega
      rcases hsp25 with rfl | rfl | rfl
      · skip
        refine v_aload_n ok 0 dX9_nearest_25 rfl rfl ?_
        refine v_get (T := TX9) (N := 9) (f0 := (M 0)) (v := rf g 58) ok mi_X9_nearest_9 (kd_lt (show kd 0 = 9 from rfl) (by decide)) rfl rfl (cellF_9 _ (by decide)) 6 (by decide) mk_X9_nearest_49 rfl rfl dX9_nearest_26 ?_
        refine v_aload_n ok 0 dX9_nearest_29 rfl rfl ?_
        refine v_get (T := TX9) (N := 9) (f0 := (M 0)) (v := rf g 1) ok mi_X9_nearest_9 (kd_lt (show kd 0 = 9 from rfl) (by decide)) rfl rfl (cellF_9 _ (by decide)) 0 (by decide) mk_X9_nearest_12 rfl rfl dX9_nearest_30 ?_
        refine v_get (T := TX7) (N := 5) (f0 := (M 1)) (v := rf g 2) ok mi_X9_nearest_7 (kd_lt (show kd 1 = 7 from rfl) (by decide)) rfl rfl (cellF_7 _ (by decide)) 0 (by decide) mk_X9_nearest_67 rfl rfl dX9_nearest_33 ?_
        refine v_get (T := TX6) (N := 3) (f0 := (M 2)) (v := rf g 4) ok mi_X9_nearest_6 (kd_lt (show kd 2 = 6 from rfl) (by decide)) rfl rfl (cellF_6 _ (by decide)) 1 (by decide) mk_X9_nearest_87 rfl rfl dX9_nearest_36 ?_
        refine v_iload_n ok 1 dX9_nearest_39 rfl rfl ?_
        refine v_aald13L (q := 5) ok (by decide) (by decide) rfl dX9_nearest_40 ?_
        refine v_aload_n ok 0 dX9_nearest_41 rfl rfl ?_
        refine v_get (T := TX9) (N := 9) (f0 := (M 0)) (v := rf g 1) ok mi_X9_nearest_9 (kd_lt (show kd 0 = 9 from rfl) (by decide)) rfl rfl (cellF_9 _ (by decide)) 0 (by decide) mk_X9_nearest_12 rfl rfl dX9_nearest_42 ?_
        refine v_get (T := TX7) (N := 5) (f0 := (M 1)) (v := rf g 11) ok mi_X9_nearest_7 (kd_lt (show kd 1 = 7 from rfl) (by decide)) rfl rfl (cellF_7 _ (by decide)) 1 (by decide) mk_X9_nearest_107 rfl rfl dX9_nearest_45 ?_
        refine v_callV (na := 2) (i := 58) (C := RX3) (T := TX3) (N := 4) (f0 := (M 58)) ok (ct_X3_seek z.2.1 g M 5 (by decide) hT (by assumption)) gX9_nearest_X3_seek (kd_lt (show kd 58 = 3 from rfl) (by decide)) rfl rfl (cellF_3 _ (by decide)) rfl (by decide +kernel) rfl (by decide) [] rfl (Nat.le_of_ble_eq_true rfl) dX9_nearest_48 (fun v14 M15 hp13 => ?_)
        obtain ⟨R16, F17, rfl, rfl⟩ := hp13
        show V z g 3 (up1 (up1 (up1 (up1 M 58 (up ((M 58)) 3 ((nrs ((M 11)) ((M 6))) (amn (nrs ((M 11)) ((M 6))) 343)))) 59 R16) 61 F17) 60 (spr (amn (nrs ((M 11)) ((M 6))) 343))) [(0, rf g 0), (1, iv 0), (2, iv h)] [] 51
        refine v_iload_n ok 2 dX9_nearest_51 rfl rfl ?_
        refine v_aload_n ok 0 dX9_nearest_52 rfl rfl ?_
        refine v_get (T := TX9) (N := 9) (f0 := (M 0)) (v := rf g 58) ok mi_X9_nearest_9 (kd_lt (show kd 0 = 9 from rfl) (by decide)) rfl rfl (cellF_9 _ (by decide)) 6 (by decide) mk_X9_nearest_49 rfl rfl dX9_nearest_53 ?_
        refine v_get (T := TX3) (N := 4) (f0 := (up ((M 58)) 3 ((nrs ((M 11)) ((M 6))) (amn (nrs ((M 11)) ((M 6))) 343)))) (v := rf g 60) ok mi_X9_nearest_3 (kd_lt (show kd 58 = 3 from rfl) (by decide)) rfl rfl (cellF_3 _ (by decide)) 1 (by decide) mk_X9_nearest_167 rfl rfl dX9_nearest_56 ?_
        refine v_alen (n := 3) ok (Or.inl (by decide)) rfl dX9_nearest_59 ?_
        refine v_icmp_ge (tgt := 75) ok ⟨by omega, by omega⟩ (by decide) dX9_nearest_60 (by decide) (fun c18 => ?_) (fun c18 => ?_)
        · skip
          refine v_aload_n ok 0 dX9_nearest_75 rfl rfl ?_
          refine v_get (T := TX9) (N := 9) (f0 := (M 0)) (v := rf g 58) ok mi_X9_nearest_9 (kd_lt (show kd 0 = 9 from rfl) (by decide)) rfl rfl (cellF_9 _ (by decide)) 6 (by decide) mk_X9_nearest_49 rfl rfl dX9_nearest_76 ?_
          refine v_get (T := TX3) (N := 4) (f0 := (up ((M 58)) 3 ((nrs ((M 11)) ((M 6))) (amn (nrs ((M 11)) ((M 6))) 343)))) (v := iv ((nrs ((M 11)) ((M 6))) (amn (nrs ((M 11)) ((M 6))) 343))) ok mi_X9_nearest_3 (kd_lt (show kd 58 = 3 from rfl) (by decide)) rfl rfl (cellF_3 _ (by decide)) 3 (by decide) mk_X9_nearest_170 rfl rfl dX9_nearest_79 ?_
          exact v_iret ok rt dX9_nearest_82 (Or.inr (Or.inr (⟨R16, F17, (congrArg (fun q : Int => some (iv q)) (show ((nrs ((M 11)) ((M 6))) (amn (nrs ((M 11)) ((M 6))) 343)) = ((nrs (M 11) (M (basQ 0 + 1))) (amn (nrs (M 11) (M (basQ 0 + 1))) 343)) from by rfl)), rfl, (by omega), (by omega)⟩)))
        · skip
          refine v_aload_n ok 0 dX9_nearest_63 rfl rfl ?_
          refine v_get (T := TX9) (N := 9) (f0 := (M 0)) (v := rf g 58) ok mi_X9_nearest_9 (kd_lt (show kd 0 = 9 from rfl) (by decide)) rfl rfl (cellF_9 _ (by decide)) 6 (by decide) mk_X9_nearest_49 rfl rfl dX9_nearest_64 ?_
          refine v_get (T := TX3) (N := 4) (f0 := (up ((M 58)) 3 ((nrs ((M 11)) ((M 6))) (amn (nrs ((M 11)) ((M 6))) 343)))) (v := rf g 60) ok mi_X9_nearest_3 (kd_lt (show kd 58 = 3 from rfl) (by decide)) rfl rfl (cellF_3 _ (by decide)) 1 (by decide) mk_X9_nearest_167 rfl rfl dX9_nearest_67 ?_
          refine v_iload_n ok 2 dX9_nearest_70 rfl rfl ?_
          refine v_iald (n := 3) (f0 := (spr (amn (nrs ((M 11)) ((M 6))) 343))) ok (by decide) rfl (by omega) rfl dX9_nearest_71 ?_
          refine v_goto (tgt := 82) ok dX9_nearest_72 (by decide) ?_
          exact v_iret ok rt dX9_nearest_82 (Or.inr (Or.inl (⟨R16, F17, (congrArg (fun q : Int => some (iv q)) (show ((spr (amn (nrs ((M 11)) ((M 6))) 343)) h) = (spr (amn (nrs (M 11) (M (basQ 0 + 1))) 343) h) from by rfl)), rfl, (by omega), (by omega)⟩)))
      · skip
        refine v_aload_n ok 0 dX9_nearest_25 rfl rfl ?_
        refine v_get (T := TX9) (N := 9) (f0 := (M 0)) (v := rf g 58) ok mi_X9_nearest_9 (kd_lt (show kd 0 = 9 from rfl) (by decide)) rfl rfl (cellF_9 _ (by decide)) 6 (by decide) mk_X9_nearest_49 rfl rfl dX9_nearest_26 ?_
        refine v_aload_n ok 0 dX9_nearest_29 rfl rfl ?_
        refine v_get (T := TX9) (N := 9) (f0 := (M 0)) (v := rf g 1) ok mi_X9_nearest_9 (kd_lt (show kd 0 = 9 from rfl) (by decide)) rfl rfl (cellF_9 _ (by decide)) 0 (by decide) mk_X9_nearest_12 rfl rfl dX9_nearest_30 ?_
        refine v_get (T := TX7) (N := 5) (f0 := (M 1)) (v := rf g 2) ok mi_X9_nearest_7 (kd_lt (show kd 1 = 7 from rfl) (by decide)) rfl rfl (cellF_7 _ (by decide)) 0 (by decide) mk_X9_nearest_67 rfl rfl dX9_nearest_33 ?_
        refine v_get (T := TX6) (N := 3) (f0 := (M 2)) (v := rf g 4) ok mi_X9_nearest_6 (kd_lt (show kd 2 = 6 from rfl) (by decide)) rfl rfl (cellF_6 _ (by decide)) 1 (by decide) mk_X9_nearest_87 rfl rfl dX9_nearest_36 ?_
        refine v_iload_n ok 1 dX9_nearest_39 rfl rfl ?_
        refine v_aald13L (q := 7) ok (by decide) (by decide) rfl dX9_nearest_40 ?_
        refine v_aload_n ok 0 dX9_nearest_41 rfl rfl ?_
        refine v_get (T := TX9) (N := 9) (f0 := (M 0)) (v := rf g 1) ok mi_X9_nearest_9 (kd_lt (show kd 0 = 9 from rfl) (by decide)) rfl rfl (cellF_9 _ (by decide)) 0 (by decide) mk_X9_nearest_12 rfl rfl dX9_nearest_42 ?_
        refine v_get (T := TX7) (N := 5) (f0 := (M 1)) (v := rf g 11) ok mi_X9_nearest_7 (kd_lt (show kd 1 = 7 from rfl) (by decide)) rfl rfl (cellF_7 _ (by decide)) 1 (by decide) mk_X9_nearest_107 rfl rfl dX9_nearest_45 ?_
        refine v_callV (na := 2) (i := 58) (C := RX3) (T := TX3) (N := 4) (f0 := (M 58)) ok (ct_X3_seek z.2.1 g M 7 (by decide) hT (by assumption)) gX9_nearest_X3_seek (kd_lt (show kd 58 = 3 from rfl) (by decide)) rfl rfl (cellF_3 _ (by decide)) rfl (by decide +kernel) rfl (by decide) [] rfl (Nat.le_of_ble_eq_true rfl) dX9_nearest_48 (fun v20 M21 hp19 => ?_)
        obtain ⟨R22, F23, rfl, rfl⟩ := hp19
        show V z g 3 (up1 (up1 (up1 (up1 M 58 (up ((M 58)) 3 ((nrs ((M 11)) ((M 8))) (amn (nrs ((M 11)) ((M 8))) 343)))) 59 R22) 61 F23) 60 (spr (amn (nrs ((M 11)) ((M 8))) 343))) [(0, rf g 0), (1, iv 1), (2, iv h)] [] 51
        refine v_iload_n ok 2 dX9_nearest_51 rfl rfl ?_
        refine v_aload_n ok 0 dX9_nearest_52 rfl rfl ?_
        refine v_get (T := TX9) (N := 9) (f0 := (M 0)) (v := rf g 58) ok mi_X9_nearest_9 (kd_lt (show kd 0 = 9 from rfl) (by decide)) rfl rfl (cellF_9 _ (by decide)) 6 (by decide) mk_X9_nearest_49 rfl rfl dX9_nearest_53 ?_
        refine v_get (T := TX3) (N := 4) (f0 := (up ((M 58)) 3 ((nrs ((M 11)) ((M 8))) (amn (nrs ((M 11)) ((M 8))) 343)))) (v := rf g 60) ok mi_X9_nearest_3 (kd_lt (show kd 58 = 3 from rfl) (by decide)) rfl rfl (cellF_3 _ (by decide)) 1 (by decide) mk_X9_nearest_167 rfl rfl dX9_nearest_56 ?_
        refine v_alen (n := 3) ok (Or.inl (by decide)) rfl dX9_nearest_59 ?_
        refine v_icmp_ge (tgt := 75) ok ⟨by omega, by omega⟩ (by decide) dX9_nearest_60 (by decide) (fun c24 => ?_) (fun c24 => ?_)
        · skip
          refine v_aload_n ok 0 dX9_nearest_75 rfl rfl ?_
          refine v_get (T := TX9) (N := 9) (f0 := (M 0)) (v := rf g 58) ok mi_X9_nearest_9 (kd_lt (show kd 0 = 9 from rfl) (by decide)) rfl rfl (cellF_9 _ (by decide)) 6 (by decide) mk_X9_nearest_49 rfl rfl dX9_nearest_76 ?_
          refine v_get (T := TX3) (N := 4) (f0 := (up ((M 58)) 3 ((nrs ((M 11)) ((M 8))) (amn (nrs ((M 11)) ((M 8))) 343)))) (v := iv ((nrs ((M 11)) ((M 8))) (amn (nrs ((M 11)) ((M 8))) 343))) ok mi_X9_nearest_3 (kd_lt (show kd 58 = 3 from rfl) (by decide)) rfl rfl (cellF_3 _ (by decide)) 3 (by decide) mk_X9_nearest_170 rfl rfl dX9_nearest_79 ?_
          exact v_iret ok rt dX9_nearest_82 (Or.inr (Or.inr (⟨R22, F23, (congrArg (fun q : Int => some (iv q)) (show ((nrs ((M 11)) ((M 8))) (amn (nrs ((M 11)) ((M 8))) 343)) = ((nrs (M 11) (M (basQ 1 + 1))) (amn (nrs (M 11) (M (basQ 1 + 1))) 343)) from by rfl)), rfl, (by omega), (by omega)⟩)))
        · skip
          refine v_aload_n ok 0 dX9_nearest_63 rfl rfl ?_
          refine v_get (T := TX9) (N := 9) (f0 := (M 0)) (v := rf g 58) ok mi_X9_nearest_9 (kd_lt (show kd 0 = 9 from rfl) (by decide)) rfl rfl (cellF_9 _ (by decide)) 6 (by decide) mk_X9_nearest_49 rfl rfl dX9_nearest_64 ?_
          refine v_get (T := TX3) (N := 4) (f0 := (up ((M 58)) 3 ((nrs ((M 11)) ((M 8))) (amn (nrs ((M 11)) ((M 8))) 343)))) (v := rf g 60) ok mi_X9_nearest_3 (kd_lt (show kd 58 = 3 from rfl) (by decide)) rfl rfl (cellF_3 _ (by decide)) 1 (by decide) mk_X9_nearest_167 rfl rfl dX9_nearest_67 ?_
          refine v_iload_n ok 2 dX9_nearest_70 rfl rfl ?_
          refine v_iald (n := 3) (f0 := (spr (amn (nrs ((M 11)) ((M 8))) 343))) ok (by decide) rfl (by omega) rfl dX9_nearest_71 ?_
          refine v_goto (tgt := 82) ok dX9_nearest_72 (by decide) ?_
          exact v_iret ok rt dX9_nearest_82 (Or.inr (Or.inl (⟨R22, F23, (congrArg (fun q : Int => some (iv q)) (show ((spr (amn (nrs ((M 11)) ((M 8))) 343)) h) = (spr (amn (nrs (M 11) (M (basQ 1 + 1))) 343) h) from by rfl)), rfl, (by omega), (by omega)⟩)))
      · skip
        refine v_aload_n ok 0 dX9_nearest_25 rfl rfl ?_
        refine v_get (T := TX9) (N := 9) (f0 := (M 0)) (v := rf g 58) ok mi_X9_nearest_9 (kd_lt (show kd 0 = 9 from rfl) (by decide)) rfl rfl (cellF_9 _ (by decide)) 6 (by decide) mk_X9_nearest_49 rfl rfl dX9_nearest_26 ?_
        refine v_aload_n ok 0 dX9_nearest_29 rfl rfl ?_
        refine v_get (T := TX9) (N := 9) (f0 := (M 0)) (v := rf g 1) ok mi_X9_nearest_9 (kd_lt (show kd 0 = 9 from rfl) (by decide)) rfl rfl (cellF_9 _ (by decide)) 0 (by decide) mk_X9_nearest_12 rfl rfl dX9_nearest_30 ?_
        refine v_get (T := TX7) (N := 5) (f0 := (M 1)) (v := rf g 2) ok mi_X9_nearest_7 (kd_lt (show kd 1 = 7 from rfl) (by decide)) rfl rfl (cellF_7 _ (by decide)) 0 (by decide) mk_X9_nearest_67 rfl rfl dX9_nearest_33 ?_
        refine v_get (T := TX6) (N := 3) (f0 := (M 2)) (v := rf g 4) ok mi_X9_nearest_6 (kd_lt (show kd 2 = 6 from rfl) (by decide)) rfl rfl (cellF_6 _ (by decide)) 1 (by decide) mk_X9_nearest_87 rfl rfl dX9_nearest_36 ?_
        refine v_iload_n ok 1 dX9_nearest_39 rfl rfl ?_
        refine v_aald13L (q := 9) ok (by decide) (by decide) rfl dX9_nearest_40 ?_
        refine v_aload_n ok 0 dX9_nearest_41 rfl rfl ?_
        refine v_get (T := TX9) (N := 9) (f0 := (M 0)) (v := rf g 1) ok mi_X9_nearest_9 (kd_lt (show kd 0 = 9 from rfl) (by decide)) rfl rfl (cellF_9 _ (by decide)) 0 (by decide) mk_X9_nearest_12 rfl rfl dX9_nearest_42 ?_
        refine v_get (T := TX7) (N := 5) (f0 := (M 1)) (v := rf g 11) ok mi_X9_nearest_7 (kd_lt (show kd 1 = 7 from rfl) (by decide)) rfl rfl (cellF_7 _ (by decide)) 1 (by decide) mk_X9_nearest_107 rfl rfl dX9_nearest_45 ?_
        refine v_callV (na := 2) (i := 58) (C := RX3) (T := TX3) (N := 4) (f0 := (M 58)) ok (ct_X3_seek z.2.1 g M 9 (by decide) hT (by assumption)) gX9_nearest_X3_seek (kd_lt (show kd 58 = 3 from rfl) (by decide)) rfl rfl (cellF_3 _ (by decide)) rfl (by decide +kernel) rfl (by decide) [] rfl (Nat.le_of_ble_eq_true rfl) dX9_nearest_48 (fun v26 M27 hp25 => ?_)
        obtain ⟨R28, F29, rfl, rfl⟩ := hp25
        show V z g 3 (up1 (up1 (up1 (up1 M 58 (up ((M 58)) 3 ((nrs ((M 11)) ((M 10))) (amn (nrs ((M 11)) ((M 10))) 343)))) 59 R28) 61 F29) 60 (spr (amn (nrs ((M 11)) ((M 10))) 343))) [(0, rf g 0), (1, iv 2), (2, iv h)] [] 51
        refine v_iload_n ok 2 dX9_nearest_51 rfl rfl ?_
        refine v_aload_n ok 0 dX9_nearest_52 rfl rfl ?_
        refine v_get (T := TX9) (N := 9) (f0 := (M 0)) (v := rf g 58) ok mi_X9_nearest_9 (kd_lt (show kd 0 = 9 from rfl) (by decide)) rfl rfl (cellF_9 _ (by decide)) 6 (by decide) mk_X9_nearest_49 rfl rfl dX9_nearest_53 ?_
        refine v_get (T := TX3) (N := 4) (f0 := (up ((M 58)) 3 ((nrs ((M 11)) ((M 10))) (amn (nrs ((M 11)) ((M 10))) 343)))) (v := rf g 60) ok mi_X9_nearest_3 (kd_lt (show kd 58 = 3 from rfl) (by decide)) rfl rfl (cellF_3 _ (by decide)) 1 (by decide) mk_X9_nearest_167 rfl rfl dX9_nearest_56 ?_
        refine v_alen (n := 3) ok (Or.inl (by decide)) rfl dX9_nearest_59 ?_
        refine v_icmp_ge (tgt := 75) ok ⟨by omega, by omega⟩ (by decide) dX9_nearest_60 (by decide) (fun c30 => ?_) (fun c30 => ?_)
        · skip
          refine v_aload_n ok 0 dX9_nearest_75 rfl rfl ?_
          refine v_get (T := TX9) (N := 9) (f0 := (M 0)) (v := rf g 58) ok mi_X9_nearest_9 (kd_lt (show kd 0 = 9 from rfl) (by decide)) rfl rfl (cellF_9 _ (by decide)) 6 (by decide) mk_X9_nearest_49 rfl rfl dX9_nearest_76 ?_
          refine v_get (T := TX3) (N := 4) (f0 := (up ((M 58)) 3 ((nrs ((M 11)) ((M 10))) (amn (nrs ((M 11)) ((M 10))) 343)))) (v := iv ((nrs ((M 11)) ((M 10))) (amn (nrs ((M 11)) ((M 10))) 343))) ok mi_X9_nearest_3 (kd_lt (show kd 58 = 3 from rfl) (by decide)) rfl rfl (cellF_3 _ (by decide)) 3 (by decide) mk_X9_nearest_170 rfl rfl dX9_nearest_79 ?_
          exact v_iret ok rt dX9_nearest_82 (Or.inr (Or.inr (⟨R28, F29, (congrArg (fun q : Int => some (iv q)) (show ((nrs ((M 11)) ((M 10))) (amn (nrs ((M 11)) ((M 10))) 343)) = ((nrs (M 11) (M (basQ 2 + 1))) (amn (nrs (M 11) (M (basQ 2 + 1))) 343)) from by rfl)), rfl, (by omega), (by omega)⟩)))
        · skip
          refine v_aload_n ok 0 dX9_nearest_63 rfl rfl ?_
          refine v_get (T := TX9) (N := 9) (f0 := (M 0)) (v := rf g 58) ok mi_X9_nearest_9 (kd_lt (show kd 0 = 9 from rfl) (by decide)) rfl rfl (cellF_9 _ (by decide)) 6 (by decide) mk_X9_nearest_49 rfl rfl dX9_nearest_64 ?_
          refine v_get (T := TX3) (N := 4) (f0 := (up ((M 58)) 3 ((nrs ((M 11)) ((M 10))) (amn (nrs ((M 11)) ((M 10))) 343)))) (v := rf g 60) ok mi_X9_nearest_3 (kd_lt (show kd 58 = 3 from rfl) (by decide)) rfl rfl (cellF_3 _ (by decide)) 1 (by decide) mk_X9_nearest_167 rfl rfl dX9_nearest_67 ?_
          refine v_iload_n ok 2 dX9_nearest_70 rfl rfl ?_
          refine v_iald (n := 3) (f0 := (spr (amn (nrs ((M 11)) ((M 10))) 343))) ok (by decide) rfl (by omega) rfl dX9_nearest_71 ?_
          refine v_goto (tgt := 82) ok dX9_nearest_72 (by decide) ?_
          exact v_iret ok rt dX9_nearest_82 (Or.inr (Or.inl (⟨R28, F29, (congrArg (fun q : Int => some (iv q)) (show ((spr (amn (nrs ((M 11)) ((M 10))) 343)) h) = (spr (amn (nrs (M 11) (M (basQ 2 + 1))) 343) h) from by rfl)), rfl, (by omega), (by omega)⟩)))
    · skip
      subst M9
      show V z g 3 M [(0, rf g 0), (1, iv b), (2, iv h)] [iv 0] 20
      refine v_if_ne (tgt := 25) ok (by decide) dX9_nearest_20 (by decide) (fun c31 => absurd c31 (by decide)) (fun c31 => ?_)
      refine v_iconst (n := -1) ok dX9_nearest_23 ?_
      exact v_iret ok rt dX9_nearest_24 (Or.inl (⟨rfl, rfl, (by omega)⟩))
  · skip
    subst M3
    have h5 : ¬ (0 ≤ b ∧ b < (M 2) 2) := h5
    show V z g 3 M [(0, rf g 0), (1, iv b), (2, iv h)] [iv 0] 11
    refine v_if_eq (tgt := 23) ok (by decide) dX9_nearest_11 (by decide) (fun c32 => ?_) (fun c32 => absurd c32 (by decide))
    refine v_iconst (n := -1) ok dX9_nearest_23 ?_
    exact v_iret ok rt dX9_nearest_24 (Or.inl (⟨rfl, rfl, (by omega)⟩))

theorem mk_X9_basins_12 : Cond.fieldLink RX9 12 "StormRunoff" "now" "LStormRunoff$State;" ∈ wsX9_basins := by decide +kernel
theorem mi_X9_basins_9 : ∀ w ∈ wsX90, w ∈ wsX9_basins := by decide +kernel
theorem mk_X9_basins_67 : Cond.fieldLink RX9 67 "StormRunoff$State" "site" "LStormRunoff$Site;" ∈ wsX9_basins := by decide +kernel
theorem mi_X9_basins_7 : ∀ w ∈ wsX70, w ∈ wsX9_basins := by decide +kernel
theorem mk_X9_basins_83 : Cond.fieldLink RX9 83 "StormRunoff$Site" "many" "I" ∈ wsX9_basins := by decide +kernel
theorem mi_X9_basins_6 : ∀ w ∈ wsX60, w ∈ wsX9_basins := by decide +kernel
set_option maxRecDepth 100000 in
set_option maxHeartbeats 400000 in
theorem ct_X9_basins (l : Launch) (g : Gl) (M : Mem)   : Ct l g yX9_basins wsX9_basins 0 0 [rf g 0] M (fun rv M' => rv = some (iv (M 2 2)) ∧ M' = M) := by
  refine Ct.of (cc := cX9_basins) (nL := 1) (ret := (some .int)) (by decide) rfl (Nat.le_of_ble_eq_true rfl) (fun z hz ok rt => ?_)
  have ok : Ok z g cX9_basins 1 RX9 wsX9_basins 0 0 := ok
  show V z g 1 M [(0, rf g 0)] [] 0
  refine v_aload_n ok 0 dX9_basins_0 rfl rfl ?_
  refine v_get (T := TX9) (N := 9) (f0 := (M 0)) (v := rf g 1) ok mi_X9_basins_9 (kd_lt (show kd 0 = 9 from rfl) (by decide)) rfl rfl (cellF_9 _ (by decide)) 0 (by decide) mk_X9_basins_12 rfl rfl dX9_basins_1 ?_
  refine v_get (T := TX7) (N := 5) (f0 := (M 1)) (v := rf g 2) ok mi_X9_basins_7 (kd_lt (show kd 1 = 7 from rfl) (by decide)) rfl rfl (cellF_7 _ (by decide)) 0 (by decide) mk_X9_basins_67 rfl rfl dX9_basins_4 ?_
  refine v_get (T := TX6) (N := 3) (f0 := (M 2)) (v := iv (M 2 2)) ok mi_X9_basins_6 (kd_lt (show kd 2 = 6 from rfl) (by decide)) rfl rfl (cellF_6 _ (by decide)) 2 (by decide) mk_X9_basins_83 rfl rfl dX9_basins_7 ?_
  exact v_iret ok rt dX9_basins_10 (⟨rfl, rfl⟩)
