set_option maxRecDepth 100000 in
set_option maxHeartbeats 400000 in
theorem ct_X9_exchangeNumber (l : Launch) (g : Gl) (M : Mem) (a : Nat) (n h v m : Int) (ha : kd a = 11) (hn : (ln a : Int) = n) (hh : i32 h) (hv : i32 v) (hm : i32 m) : Ct l g yX9_exchangeNumber wsX9_exchangeNumber 1 22 [rf g a, iv h, iv v, iv m] M (fun rv M' => (rv = some (iv (-1)) ∧ M' = M ∧ (¬ (0 ≤ h ∧ h < n))) ∨ (rv = some (iv (-2)) ∧ M' = M ∧ (0 ≤ h ∧ h < n) ∧ (¬ (0 ≤ v ∧ v ≤ m))) ∨ (rv = some (iv (M a h)) ∧ M' = (up1 M a (up (M a) h v)) ∧ (0 ≤ h ∧ h < n) ∧ (0 ≤ v ∧ v ≤ m))) := by
  refine Ct.of (cc := cX9_exchangeNumber) (nL := 5) (ret := (some .int)) (by decide) rfl (Nat.le_of_ble_eq_true rfl) (fun z hz ok rt => ?_)
  have ok : Ok z g cX9_exchangeNumber 5 RX9 wsX9_exchangeNumber 1 22 := ok
  show V z g 5 M [(0, rf g a), (1, iv h), (2, iv v), (3, iv m)] [] 0
  have hn0 := ln_le a
  refine v_iload_n ok 1 dX9_exchangeNumber_0 rfl rfl ?_
  refine v_iconst (n := 0) ok dX9_exchangeNumber_1 ?_
  refine v_aload_n ok 0 dX9_exchangeNumber_2 rfl rfl ?_
  refine v_alen (n := n) ok (Or.inl ha) hn dX9_exchangeNumber_3 ?_
  refine v_iconst (n := 1) ok dX9_exchangeNumber_4 ?_
  refine v_isub ok dX9_exchangeNumber_5 ?_
  refine v_callS (na := 3) ok (ct_X9_between z.2.1 g M h 0 (n - 1) ⟨by omega, by omega⟩ (by decide) ⟨by omega, by omega⟩) gX9_exchangeNumber_X9_between rfl (by decide +kernel) rfl (by decide) [] rfl (Nat.le_of_ble_eq_true rfl) dX9_exchangeNumber_6 (fun v2 M3 hp1 => ?_)
  rcases hp1 with ⟨rfl, eM3, h4⟩ | ⟨rfl, eM3, h5⟩
  · skip
    subst M3
    show V z g 5 M [(0, rf g a), (1, iv h), (2, iv v), (3, iv m)] [iv 1] 9
    refine v_if_ne (tgt := 14) ok (by decide) dX9_exchangeNumber_9 (by decide) (fun c6 => ?_) (fun c6 => absurd c6 (by decide))
    refine v_iload_n ok 2 dX9_exchangeNumber_14 rfl rfl ?_
    refine v_iconst (n := 0) ok dX9_exchangeNumber_15 ?_
    refine v_iload_n ok 3 dX9_exchangeNumber_16 rfl rfl ?_
    refine v_callS (na := 3) ok (ct_X9_between z.2.1 g M v 0 m ⟨by omega, by omega⟩ (by decide) ⟨by omega, by omega⟩) gX9_exchangeNumber_X9_between rfl (by decide +kernel) rfl (by decide) [] rfl (Nat.le_of_ble_eq_true rfl) dX9_exchangeNumber_17 (fun v8 M9 hp7 => ?_)
    rcases hp7 with ⟨rfl, eM9, h10⟩ | ⟨rfl, eM9, h11⟩
    · skip
      subst M9
      show V z g 5 M [(0, rf g a), (1, iv h), (2, iv v), (3, iv m)] [iv 1] 20
      refine v_if_ne (tgt := 26) ok (by decide) dX9_exchangeNumber_20 (by decide) (fun c12 => ?_) (fun c12 => absurd c12 (by decide))
      refine v_aload_n ok 0 dX9_exchangeNumber_26 rfl rfl ?_
      refine v_iload_n ok 1 dX9_exchangeNumber_27 rfl rfl ?_
      refine v_iald (n := n) (f0 := (M a)) ok ha hn (by omega) rfl dX9_exchangeNumber_28 ?_
      refine v_istore ok [(4, iv (M a h)), (0, rf g a), (1, iv h), (2, iv v), (3, iv m)] dX9_exchangeNumber_29 (by decide) rfl ?_
      refine v_aload_n ok 1 dX9_exchangeNumber_31 rfl rfl ?_
      refine v_iload_n ok 2 dX9_exchangeNumber_32 rfl rfl ?_
      refine v_iload_n ok 3 dX9_exchangeNumber_33 rfl rfl ?_
      refine v_iast (n := n) (f0 := (M a)) ok ha hn (by omega) rfl dX9_exchangeNumber_34 ?_
      refine v_iload ok 0 dX9_exchangeNumber_35 rfl ?_
      first | (exact v_iret ok rt dX9_exchangeNumber_37 (Or.inl (⟨rfl, (by
            funext j
            by_cases hj0 : j = a
            · simp_all [up1, up1_self]
            simp [up1, hj0]), (by omega)⟩))) | (exact v_iret ok rt dX9_exchangeNumber_37 (Or.inr (Or.inl (⟨rfl, (by
            funext j
            by_cases hj0 : j = a
            · simp_all [up1, up1_self]
            simp [up1, hj0]), (by omega), (by omega)⟩)))) | (exact v_iret ok rt dX9_exchangeNumber_37 (Or.inr (Or.inr (⟨rfl, rfl, (by omega), (by omega)⟩))))
    · skip
      subst M9
      show V z g 5 M [(0, rf g a), (1, iv h), (2, iv v), (3, iv m)] [iv 0] 20
      refine v_if_ne (tgt := 26) ok (by decide) dX9_exchangeNumber_20 (by decide) (fun c13 => absurd c13 (by decide)) (fun c13 => ?_)
      refine v_bipush (n := -2) ok rfl dX9_exchangeNumber_23 ?_
      first | (exact v_iret ok rt dX9_exchangeNumber_25 (Or.inr (Or.inl (⟨rfl, rfl, (by omega), (by omega)⟩)))) | (exact v_iret ok rt dX9_exchangeNumber_25 (Or.inr (Or.inr (⟨(congrArg (fun q : Int => some (iv q)) (show (-2) = (M a h) from by omega)), (by
            funext j
            by_cases hj0 : j = a
            · simp_all [up1, up1_self]
            simp [up1, hj0]), (by omega), (by omega)⟩))))
  · skip
    subst M3
    show V z g 5 M [(0, rf g a), (1, iv h), (2, iv v), (3, iv m)] [iv 0] 9
    refine v_if_ne (tgt := 14) ok (by decide) dX9_exchangeNumber_9 (by decide) (fun c14 => absurd c14 (by decide)) (fun c14 => ?_)
    refine v_iconst (n := -1) ok dX9_exchangeNumber_12 ?_
    first | (exact v_iret ok rt dX9_exchangeNumber_13 (Or.inl (⟨rfl, rfl, (by omega)⟩))) | (exact v_iret ok rt dX9_exchangeNumber_13 (Or.inr (Or.inr (⟨(congrArg (fun q : Int => some (iv q)) (show (-1) = (M a h) from by omega)), (by
          funext j
          by_cases hj0 : j = a
          · simp_all [up1, up1_self]
          simp [up1, hj0]), (by omega), (by omega)⟩))))

theorem mk_X9_tellByHand_214 : Cond.fieldLink RX9 214 "StormRunoff$Rows" "many" "I" ∈ wsX9_tellByHand := by decide +kernel
theorem mi_X9_tellByHand_4 : ∀ w ∈ wsX40, w ∈ wsX9_tellByHand := by decide +kernel
set_option maxRecDepth 100000 in
set_option maxHeartbeats 400000 in
theorem ct_X9_tellByHand (l : Launch) (g : Gl) (M : Mem) (r : Nat) (h n : Int) (hr : kd r = 4) (hm : 0 ≤ M r 3 ∧ M r 3 ≤ M r 2 ∧ M r 2 ≤ 8) (hh : i32 h) (hn : i32 n) : Ct l g yX9_tellByHand wsX9_tellByHand 1 22 [rf g r, iv h, iv n] M (fun rv M' => (rv = some (iv 0) ∧ M' = (up1 M r (up (M r) 3 0)) ∧ (h = -1)) ∨ (rv = some (iv (-1)) ∧ M' = M ∧ (h ≠ -1) ∧ (¬ (0 ≤ h ∧ h ≤ 29))) ∨ (rv = some (iv (-2)) ∧ M' = M ∧ (0 ≤ h ∧ h ≤ 29) ∧ (¬ (0 ≤ n ∧ n ≤ 9999))) ∨ (rv = some (iv (-4)) ∧ M' = M ∧ (0 ≤ h ∧ h ≤ 29) ∧ (0 ≤ n ∧ n ≤ 9999) ∧ (M r 3 = M r 2)) ∨ (rv = some (iv (M r 3 + 1)) ∧ M' = (up1 (up1 (up1 M (r + 1) (up (M (r + 1)) (M r 3) h)) (r + 2) (up (M (r + 2)) (M r 3) n)) r (up (M r) 3 (M r 3 + 1))) ∧ (0 ≤ h ∧ h ≤ 29) ∧ (0 ≤ n ∧ n ≤ 9999) ∧ (M r 3 < M r 2))) := by
  refine Ct.of (cc := cX9_tellByHand) (nL := 3) (ret := (some .int)) (by decide) rfl (Nat.le_of_ble_eq_true rfl) (fun z hz ok rt => ?_)
  have ok : Ok z g cX9_tellByHand 3 RX9 wsX9_tellByHand 1 22 := ok
  show V z g 3 M [(0, rf g r), (1, iv h), (2, iv n)] [] 0
  refine v_iload_n ok 1 dX9_tellByHand_0 rfl rfl ?_
  refine v_iconst (n := -1) ok dX9_tellByHand_1 ?_
  refine v_icmp_ne (tgt := 12) ok ⟨by omega, by omega⟩ (by decide) dX9_tellByHand_2 (by decide) (fun c1 => ?_) (fun c1 => ?_)
  · skip
    refine v_iload_n ok 1 dX9_tellByHand_12 rfl rfl ?_
    refine v_iconst (n := 0) ok dX9_tellByHand_13 ?_
    refine v_bipush (n := 29) ok rfl dX9_tellByHand_14 ?_
    refine v_callS (na := 3) ok (ct_X9_between z.2.1 g M h 0 29 ⟨by omega, by omega⟩ (by decide) (by decide)) gX9_tellByHand_X9_between rfl (by decide +kernel) rfl (by decide) [] rfl (Nat.le_of_ble_eq_true rfl) dX9_tellByHand_16 (fun v3 M4 hp2 => ?_)
    rcases hp2 with ⟨rfl, eM4, h5⟩ | ⟨rfl, eM4, h6⟩
    · skip
      subst M4
      show V z g 3 M [(0, rf g r), (1, iv h), (2, iv n)] [iv 1] 19
      refine v_if_ne (tgt := 24) ok (by decide) dX9_tellByHand_19 (by decide) (fun c7 => ?_) (fun c7 => absurd c7 (by decide))
      refine v_iload_n ok 2 dX9_tellByHand_24 rfl rfl ?_
      refine v_iconst (n := 0) ok dX9_tellByHand_25 ?_
      refine v_sipush (n := 9999) ok rfl dX9_tellByHand_26 ?_
      refine v_callS (na := 3) ok (ct_X9_between z.2.1 g M n 0 9999 ⟨by omega, by omega⟩ (by decide) (by decide)) gX9_tellByHand_X9_between rfl (by decide +kernel) rfl (by decide) [] rfl (Nat.le_of_ble_eq_true rfl) dX9_tellByHand_29 (fun v9 M10 hp8 => ?_)
      rcases hp8 with ⟨rfl, eM10, h11⟩ | ⟨rfl, eM10, h12⟩
      · skip
        subst M10
        show V z g 3 M [(0, rf g r), (1, iv h), (2, iv n)] [iv 1] 32
        refine v_if_ne (tgt := 38) ok (by decide) dX9_tellByHand_32 (by decide) (fun c13 => ?_) (fun c13 => absurd c13 (by decide))
        refine v_aload_n ok 0 dX9_tellByHand_38 rfl rfl ?_
        refine v_iload_n ok 1 dX9_tellByHand_39 rfl rfl ?_
        refine v_iload_n ok 2 dX9_tellByHand_40 rfl rfl ?_
        refine v_callV (na := 2) (i := r) (C := RX4) (T := TX4) (N := 4) (f0 := (M r)) ok (ct_X4_addRow z.2.1 g M r h n hr (by first | omega | assumption)) gX9_tellByHand_X4_addRow (kd_lt hr (by decide)) rfl rfl (cellF_4 _ hr) rfl (by decide +kernel) rfl (by decide) [] rfl (Nat.le_of_ble_eq_true rfl) dX9_tellByHand_41 (fun v15 M16 hp14 => ?_)
        rcases hp14 with ⟨rfl, eM16, h17⟩ | ⟨rfl, rfl, h18⟩
        · skip
          subst M16
          have h17 : (M r) 3 = (M r) 2 := h17
          show V z g 3 M [(0, rf g r), (1, iv h), (2, iv n)] [iv (-4)] 44
          first | (exact v_iret ok rt dX9_tellByHand_44 (Or.inr (Or.inr (Or.inr (Or.inl (⟨rfl, rfl, (by omega), (by omega), (by omega)⟩)))))) | (exact v_iret ok rt dX9_tellByHand_44 (Or.inr (Or.inr (Or.inr (Or.inr (⟨(congrArg (fun q : Int => some (iv q)) (show (-4) = (M r 3 + 1) from by omega)), (by
                funext j
                by_cases hj0 : j = (r + 1)
                · simp_all [up1, up1_self]
                by_cases hj1 : j = (r + 2)
                · simp_all [up1, up1_self]
                by_cases hj2 : j = r
                · simp_all [up1, up1_self]
                simp [up1, hj0, hj1, hj2]), (by omega), (by omega), (by omega)⟩))))))
        · skip
          have h18 : (M r) 3 < (M r) 2 := h18
          show V z g 3 (up1 (up1 (up1 M (r + 1) (up ((M (r + 1))) ((M r) 3) h)) (r + 2) (up ((M (r + 2))) ((M r) 3) n)) r (up ((M r)) 3 ((M r) 3 + 1))) [(0, rf g r), (1, iv h), (2, iv n)] [iv ((M r) 3 + 1)] 44
          first | (exact v_iret ok rt dX9_tellByHand_44 (Or.inl (⟨rfl, (by
                funext j
                by_cases hj0 : j = r
                · simp_all [up1, up1_self]
                by_cases hj1 : j = (r + 1)
                · simp_all [up1, up1_self]
                by_cases hj2 : j = (r + 2)
                · simp_all [up1, up1_self]
                simp [up1, hj0, hj1, hj2]), (by omega)⟩))) | (exact v_iret ok rt dX9_tellByHand_44 (Or.inr (Or.inl (⟨rfl, (by
                funext j
                by_cases hj0 : j = (r + 1)
                · simp_all [up1, up1_self]
                by_cases hj1 : j = (r + 2)
                · simp_all [up1, up1_self]
                by_cases hj2 : j = r
                · simp_all [up1, up1_self]
                simp [up1, hj0, hj1, hj2]), (by omega), (by omega)⟩)))) | (exact v_iret ok rt dX9_tellByHand_44 (Or.inr (Or.inr (Or.inl (⟨rfl, (by
                funext j
                by_cases hj0 : j = (r + 1)
                · simp_all [up1, up1_self]
                by_cases hj1 : j = (r + 2)
                · simp_all [up1, up1_self]
                by_cases hj2 : j = r
                · simp_all [up1, up1_self]
                simp [up1, hj0, hj1, hj2]), (by omega), (by omega)⟩))))) | (exact v_iret ok rt dX9_tellByHand_44 (Or.inr (Or.inr (Or.inr (Or.inl (⟨rfl, (by
                funext j
                by_cases hj0 : j = (r + 1)
                · simp_all [up1, up1_self]
                by_cases hj1 : j = (r + 2)
                · simp_all [up1, up1_self]
                by_cases hj2 : j = r
                · simp_all [up1, up1_self]
                simp [up1, hj0, hj1, hj2]), (by omega), (by omega), (by omega)⟩)))))) | (exact v_iret ok rt dX9_tellByHand_44 (Or.inr (Or.inr (Or.inr (Or.inr (⟨(congrArg (fun q : Int => some (iv q)) (show ((M r) 3 + 1) = (M r 3 + 1) from by omega)), (by
                funext j
                by_cases hj0 : j = (r + 1)
                · simp_all [up1, up1_self]
                by_cases hj1 : j = (r + 2)
                · simp_all [up1, up1_self]
                by_cases hj2 : j = r
                · simp_all [up1, up1_self]
                simp [up1, hj0, hj1, hj2]), (by omega), (by omega), (by omega)⟩))))))
      · skip
        subst M10
        show V z g 3 M [(0, rf g r), (1, iv h), (2, iv n)] [iv 0] 32
        refine v_if_ne (tgt := 38) ok (by decide) dX9_tellByHand_32 (by decide) (fun c19 => absurd c19 (by decide)) (fun c19 => ?_)
        refine v_bipush (n := -2) ok rfl dX9_tellByHand_35 ?_
        exact v_iret ok rt dX9_tellByHand_37 (Or.inr (Or.inr (Or.inl (⟨rfl, rfl, (by omega), (by omega)⟩))))
    · skip
      subst M4
      show V z g 3 M [(0, rf g r), (1, iv h), (2, iv n)] [iv 0] 19
      refine v_if_ne (tgt := 24) ok (by decide) dX9_tellByHand_19 (by decide) (fun c20 => absurd c20 (by decide)) (fun c20 => ?_)
      refine v_iconst (n := -1) ok dX9_tellByHand_22 ?_
      exact v_iret ok rt dX9_tellByHand_23 (Or.inr (Or.inl (⟨rfl, rfl, (by omega), (by omega)⟩)))
  · skip
    refine v_aload_n ok 0 dX9_tellByHand_5 rfl rfl ?_
    refine v_iconst (n := 0) ok dX9_tellByHand_6 ?_
    refine v_put (T := TX4) (N := 4) (f0 := (M r)) (f' := up (M r) 3 0) (ty := .int) ok mi_X9_tellByHand_4 (kd_lt hr (by decide)) rfl rfl (cellF_4 _ hr) tyX4 tyX4_ok nmX4 3 (by decide) mk_X9_tellByHand_214 rfl rfl (by decide +kernel) rfl rfl (Nat.le_of_ble_eq_true rfl) ((cellF_4 _ hr).trans rfl) dX9_tellByHand_7 ?_
    refine v_iconst (n := 0) ok dX9_tellByHand_10 ?_
    exact v_iret ok rt dX9_tellByHand_11 (Or.inl (⟨rfl, rfl, (by omega)⟩))

theorem mk_X9_numbersOf_12 : Cond.fieldLink RX9 12 "StormRunoff" "now" "LStormRunoff$State;" ∈ wsX9_numbersOf := by decide +kernel
theorem mi_X9_numbersOf_9 : ∀ w ∈ wsX90, w ∈ wsX9_numbersOf := by decide +kernel
theorem mk_X9_numbersOf_67 : Cond.fieldLink RX9 67 "StormRunoff$State" "site" "LStormRunoff$Site;" ∈ wsX9_numbersOf := by decide +kernel
theorem mi_X9_numbersOf_7 : ∀ w ∈ wsX70, w ∈ wsX9_numbersOf := by decide +kernel
theorem mk_X9_numbersOf_70 : Cond.fieldLink RX9 70 "StormRunoff$Site" "rain" "[I" ∈ wsX9_numbersOf := by decide +kernel
theorem mi_X9_numbersOf_6 : ∀ w ∈ wsX60, w ∈ wsX9_numbersOf := by decide +kernel
theorem mk_X9_numbersOf_107 : Cond.fieldLink RX9 107 "StormRunoff$State" "told" "[I" ∈ wsX9_numbersOf := by decide +kernel
theorem mk_X9_numbersOf_35 : Cond.fieldLink RX9 35 "StormRunoff" "course" "LStormRunoff$Course;" ∈ wsX9_numbersOf := by decide +kernel
theorem mk_X9_numbersOf_196 : Cond.fieldLink RX9 196 "StormRunoff$Course" "joined" "[I" ∈ wsX9_numbersOf := by decide +kernel
theorem mi_X9_numbersOf_1 : ∀ w ∈ wsX10, w ∈ wsX9_numbersOf := by decide +kernel
set_option maxRecDepth 100000 in
set_option maxHeartbeats 400000 in
theorem ct_X9_numbersOf (l : Launch) (g : Gl) (M : Mem) (s : Int) (hs : SiteOk M 2) (hi : i32 s) : Ct l g yX9_numbersOf wsX9_numbersOf 5 111 [rf g 0, iv s] M (fun rv M' => (rv = some (rf g 3) ∧ M' = M ∧ (s = 0)) ∨ (rv = some (rf g 11) ∧ M' = M ∧ (s = 1)) ∨ (∃ (F O : Int → Int), rv = some (rf g 53) ∧ M' = (up1 (up1 (up1 M 53 (jnS M 2 (M 2 2).toNat)) 51 F) 52 O) ∧ (s = 2)) ∨ (rv = some (.null) ∧ M' = M ∧ (¬ (0 ≤ s ∧ s ≤ 2)))) := by
  refine Ct.of (cc := cX9_numbersOf) (nL := 2) (ret := (some (.array .int))) (by decide) rfl (Nat.le_of_ble_eq_true rfl) (fun z hz ok rt => ?_)
  have ok : Ok z g cX9_numbersOf 2 RX9 wsX9_numbersOf 5 111 := ok
  show V z g 2 M [(0, rf g 0), (1, iv s)] [] 0
  refine v_iload_n ok 1 dX9_numbersOf_0 rfl rfl ?_
  by_cases e1 : s = 0
  · skip
    refine v_tblIn (off := 27) (tgt := 28) ok ⟨by omega, by omega⟩ (by omega) (by omega) (by rw [e1]; rfl) dX9_numbersOf_1 (by decide) ?_
    refine v_aload_n ok 0 dX9_numbersOf_28 rfl rfl ?_
    refine v_get (T := TX9) (N := 9) (f0 := (M 0)) (v := rf g 1) ok mi_X9_numbersOf_9 (kd_lt (show kd 0 = 9 from rfl) (by decide)) rfl rfl (cellF_9 _ (by decide)) 0 (by decide) mk_X9_numbersOf_12 rfl rfl dX9_numbersOf_29 ?_
    refine v_get (T := TX7) (N := 5) (f0 := (M 1)) (v := rf g 2) ok mi_X9_numbersOf_7 (kd_lt (show kd 1 = 7 from rfl) (by decide)) rfl rfl (cellF_7 _ (by decide)) 0 (by decide) mk_X9_numbersOf_67 rfl rfl dX9_numbersOf_32 ?_
    refine v_get (T := TX6) (N := 3) (f0 := (M 2)) (v := rf g 3) ok mi_X9_numbersOf_6 (kd_lt (show kd 2 = 6 from rfl) (by decide)) rfl rfl (cellF_6 _ (by decide)) 0 (by decide) mk_X9_numbersOf_70 rfl rfl dX9_numbersOf_35 ?_
    exact v_aret ok rt (Or.inr ⟨_, rfl⟩) dX9_numbersOf_38 (Or.inl (⟨rfl, rfl, (by omega)⟩))
  · skip
    by_cases e2 : s = 1
    · skip
      refine v_tblIn (off := 38) (tgt := 39) ok ⟨by omega, by omega⟩ (by omega) (by omega) (by rw [e2]; rfl) dX9_numbersOf_1 (by decide) ?_
      refine v_aload_n ok 0 dX9_numbersOf_39 rfl rfl ?_
      refine v_get (T := TX9) (N := 9) (f0 := (M 0)) (v := rf g 1) ok mi_X9_numbersOf_9 (kd_lt (show kd 0 = 9 from rfl) (by decide)) rfl rfl (cellF_9 _ (by decide)) 0 (by decide) mk_X9_numbersOf_12 rfl rfl dX9_numbersOf_40 ?_
      refine v_get (T := TX7) (N := 5) (f0 := (M 1)) (v := rf g 11) ok mi_X9_numbersOf_7 (kd_lt (show kd 1 = 7 from rfl) (by decide)) rfl rfl (cellF_7 _ (by decide)) 1 (by decide) mk_X9_numbersOf_107 rfl rfl dX9_numbersOf_43 ?_
      exact v_aret ok rt (Or.inr ⟨_, rfl⟩) dX9_numbersOf_46 (Or.inr (Or.inl (⟨rfl, rfl, (by omega)⟩)))
    · skip
      by_cases e3 : s = 2
      · skip
        refine v_tblIn (off := 46) (tgt := 47) ok ⟨by omega, by omega⟩ (by omega) (by omega) (by rw [e3]; rfl) dX9_numbersOf_1 (by decide) ?_
        refine v_aload_n ok 0 dX9_numbersOf_47 rfl rfl ?_
        refine v_get (T := TX9) (N := 9) (f0 := (M 0)) (v := rf g 50) ok mi_X9_numbersOf_9 (kd_lt (show kd 0 = 9 from rfl) (by decide)) rfl rfl (cellF_9 _ (by decide)) 4 (by decide) mk_X9_numbersOf_35 rfl rfl dX9_numbersOf_48 ?_
        refine v_aload_n ok 0 dX9_numbersOf_51 rfl rfl ?_
        refine v_get (T := TX9) (N := 9) (f0 := (M 0)) (v := rf g 1) ok mi_X9_numbersOf_9 (kd_lt (show kd 0 = 9 from rfl) (by decide)) rfl rfl (cellF_9 _ (by decide)) 0 (by decide) mk_X9_numbersOf_12 rfl rfl dX9_numbersOf_52 ?_
        refine v_get (T := TX7) (N := 5) (f0 := (M 1)) (v := rf g 2) ok mi_X9_numbersOf_7 (kd_lt (show kd 1 = 7 from rfl) (by decide)) rfl rfl (cellF_7 _ (by decide)) 0 (by decide) mk_X9_numbersOf_67 rfl rfl dX9_numbersOf_55 ?_
        refine v_callV (na := 1) (i := 50) (C := RX1) (T := TX1) (N := 3) (f0 := (M 50)) ok (ct_X1_join_2 z.2.1 g M  hs) gX9_numbersOf_X1_join (kd_lt (show kd 50 = 1 from rfl) (by decide)) rfl rfl (cellF_1 _ (by decide)) rfl (by decide +kernel) rfl (by decide) [] rfl (Nat.le_of_ble_eq_true rfl) dX9_numbersOf_58 (fun v5 M6 hp4 => ?_)
        obtain ⟨F7, O8, rfl, rfl⟩ := hp4
        show V z g 2 (up1 (up1 (up1 M 53 (jnS M 2 ((M 2) 2).toNat)) 51 F7) 52 O8) [(0, rf g 0), (1, iv s)] [] 61
        refine v_aload_n ok 0 dX9_numbersOf_61 rfl rfl ?_
        refine v_get (T := TX9) (N := 9) (f0 := (M 0)) (v := rf g 50) ok mi_X9_numbersOf_9 (kd_lt (show kd 0 = 9 from rfl) (by decide)) rfl rfl (cellF_9 _ (by decide)) 4 (by decide) mk_X9_numbersOf_35 rfl rfl dX9_numbersOf_62 ?_
        refine v_get (T := TX1) (N := 3) (f0 := (M 50)) (v := rf g 53) ok mi_X9_numbersOf_1 (kd_lt (show kd 50 = 1 from rfl) (by decide)) rfl rfl (cellF_1 _ (by decide)) 2 (by decide) mk_X9_numbersOf_196 rfl rfl dX9_numbersOf_65 ?_
        exact v_aret ok rt (Or.inr ⟨_, rfl⟩) dX9_numbersOf_68 (Or.inr (Or.inr (Or.inl (⟨F7, O8, rfl, (by
              funext j
              by_cases hj0 : j = 53
              · subst hj0; simp [up1, up1_self]
              by_cases hj1 : j = 51
              · subst hj1; simp [up1, up1_self]
              by_cases hj2 : j = 52
              · subst hj2; simp [up1, up1_self]
              simp [up1, hj0, hj1, hj2]), (by omega)⟩))))
      · skip
        refine v_tblOut (tgt := 69) ok ⟨by omega, by omega⟩ (by omega) dX9_numbersOf_1 (by decide) ?_
        refine v_null ok dX9_numbersOf_69 ?_
        exact v_aret ok rt (Or.inl rfl) dX9_numbersOf_70 (Or.inr (Or.inr (Or.inr (⟨rfl, rfl, (by omega)⟩))))

theorem mk_X9_outOf_12 : Cond.fieldLink RX9 12 "StormRunoff" "now" "LStormRunoff$State;" ∈ wsX9_outOf := by decide +kernel
theorem mi_X9_outOf_9 : ∀ w ∈ wsX90, w ∈ wsX9_outOf := by decide +kernel
theorem mk_X9_outOf_67 : Cond.fieldLink RX9 67 "StormRunoff$State" "site" "LStormRunoff$Site;" ∈ wsX9_outOf := by decide +kernel
theorem mi_X9_outOf_7 : ∀ w ∈ wsX70, w ∈ wsX9_outOf := by decide +kernel
theorem mk_X9_outOf_35 : Cond.fieldLink RX9 35 "StormRunoff" "course" "LStormRunoff$Course;" ∈ wsX9_outOf := by decide +kernel
theorem mk_X9_outOf_87 : Cond.fieldLink RX9 87 "StormRunoff$Site" "basins" "[LStormRunoff$Basin;" ∈ wsX9_outOf := by decide +kernel
theorem mi_X9_outOf_6 : ∀ w ∈ wsX60, w ∈ wsX9_outOf := by decide +kernel
theorem mk_X9_outOf_70 : Cond.fieldLink RX9 70 "StormRunoff$Site" "rain" "[I" ∈ wsX9_outOf := by decide +kernel
theorem mk_X9_outOf_152 : Cond.fieldLink RX9 152 "StormRunoff$Course" "out" "[I" ∈ wsX9_outOf := by decide +kernel
theorem mi_X9_outOf_1 : ∀ w ∈ wsX10, w ∈ wsX9_outOf := by decide +kernel
set_option maxRecDepth 100000 in
set_option maxHeartbeats 400000 in
theorem ct_X9_outOf (l : Launch) (g : Gl) (M : Mem) (b : Int) (hs : SiteOk M 2) (hb : i32 b) : Ct l g yX9_outOf wsX9_outOf 4 88 [rf g 0, iv b] M (fun rv M' => (rv = some (.null) ∧ M' = M ∧ (¬ (0 ≤ b ∧ b < M 2 2))) ∨ (∃ (F : Int → Int), rv = some (rf g 52) ∧ M' = (up1 (up1 M 51 F) 52 (otp (M (basQ b) 2) (M (basQ b) 3) (fl (M 3) (M (basQ b + 1)) 8))) ∧ (0 ≤ b ∧ b < M 2 2))) := by
  refine Ct.of (cc := cX9_outOf) (nL := 2) (ret := (some (.array .int))) (by decide) rfl (Nat.le_of_ble_eq_true rfl) (fun z hz ok rt => ?_)
  have ok : Ok z g cX9_outOf 2 RX9 wsX9_outOf 4 88 := ok
  show V z g 2 M [(0, rf g 0), (1, iv b)] [] 0
  have hR : bdf (M 3) 8 0 20 := hs.1
  have hm : 0 ≤ M 2 2 ∧ M 2 2 ≤ 3 := hs.2.1
  have hA0 : bdf (M 6) 5 0 9 := hs.2.2.1.1
  have hk0 : 0 ≤ M 5 2 ∧ M 5 2 ≤ 4 := hs.2.2.1.2.2.1
  have hn0 : 0 ≤ M 5 3 ∧ M 5 3 ≤ 9 := hs.2.2.1.2.2.2
  have hA1 : bdf (M 8) 5 0 9 := hs.2.2.2.1.1
  have hk1 : 0 ≤ M 7 2 ∧ M 7 2 ≤ 4 := hs.2.2.2.1.2.2.1
  have hn1 : 0 ≤ M 7 3 ∧ M 7 3 ≤ 9 := hs.2.2.2.1.2.2.2
  have hA2 : bdf (M 10) 5 0 9 := hs.2.2.2.2.1
  have hk2 : 0 ≤ M 9 2 ∧ M 9 2 ≤ 4 := hs.2.2.2.2.2.2.1
  have hn2 : 0 ≤ M 9 3 ∧ M 9 3 ≤ 9 := hs.2.2.2.2.2.2.2
  refine v_aload_n ok 0 dX9_outOf_0 rfl rfl ?_
  refine v_get (T := TX9) (N := 9) (f0 := (M 0)) (v := rf g 1) ok mi_X9_outOf_9 (kd_lt (show kd 0 = 9 from rfl) (by decide)) rfl rfl (cellF_9 _ (by decide)) 0 (by decide) mk_X9_outOf_12 rfl rfl dX9_outOf_1 ?_
  refine v_get (T := TX7) (N := 5) (f0 := (M 1)) (v := rf g 2) ok mi_X9_outOf_7 (kd_lt (show kd 1 = 7 from rfl) (by decide)) rfl rfl (cellF_7 _ (by decide)) 0 (by decide) mk_X9_outOf_67 rfl rfl dX9_outOf_4 ?_
  refine v_iload_n ok 1 dX9_outOf_7 rfl rfl ?_
  refine v_callV (na := 1) (i := 2) (C := RX6) (T := TX6) (N := 3) (f0 := (M 2)) ok (ct_X6_has z.2.1 g M 2 b (by decide) ⟨by omega, by omega⟩ hm) gX9_outOf_X6_has (kd_lt (show kd 2 = 6 from rfl) (by decide)) rfl rfl (cellF_6 _ (by decide)) rfl (by decide +kernel) rfl (by decide) [] rfl (Nat.le_of_ble_eq_true rfl) dX9_outOf_8 (fun v2 M3 hp1 => ?_)
  rcases hp1 with ⟨rfl, eM3, h4⟩ | ⟨rfl, eM3, h5⟩
  · skip
    subst M3
    have h4 : 0 ≤ b ∧ b < (M 2) 2 := h4
    show V z g 2 M [(0, rf g 0), (1, iv b)] [iv 1] 11
    refine v_if_ne (tgt := 16) ok (by decide) dX9_outOf_11 (by decide) (fun c6 => ?_) (fun c6 => absurd c6 (by decide))
    have hsp16 : b = 0 ∨ b = 1 ∨ b = 2 := by omega
    rcases hsp16 with rfl | rfl | rfl
    · skip
      refine v_aload_n ok 0 dX9_outOf_16 rfl rfl ?_
      refine v_get (T := TX9) (N := 9) (f0 := (M 0)) (v := rf g 50) ok mi_X9_outOf_9 (kd_lt (show kd 0 = 9 from rfl) (by decide)) rfl rfl (cellF_9 _ (by decide)) 4 (by decide) mk_X9_outOf_35 rfl rfl dX9_outOf_17 ?_
      refine v_aload_n ok 0 dX9_outOf_20 rfl rfl ?_
      refine v_get (T := TX9) (N := 9) (f0 := (M 0)) (v := rf g 1) ok mi_X9_outOf_9 (kd_lt (show kd 0 = 9 from rfl) (by decide)) rfl rfl (cellF_9 _ (by decide)) 0 (by decide) mk_X9_outOf_12 rfl rfl dX9_outOf_21 ?_
      refine v_get (T := TX7) (N := 5) (f0 := (M 1)) (v := rf g 2) ok mi_X9_outOf_7 (kd_lt (show kd 1 = 7 from rfl) (by decide)) rfl rfl (cellF_7 _ (by decide)) 0 (by decide) mk_X9_outOf_67 rfl rfl dX9_outOf_24 ?_
      refine v_get (T := TX6) (N := 3) (f0 := (M 2)) (v := rf g 4) ok mi_X9_outOf_6 (kd_lt (show kd 2 = 6 from rfl) (by decide)) rfl rfl (cellF_6 _ (by decide)) 1 (by decide) mk_X9_outOf_87 rfl rfl dX9_outOf_27 ?_
      refine v_iload_n ok 1 dX9_outOf_30 rfl rfl ?_
      refine v_aald13L (q := 5) ok (by decide) (by decide) rfl dX9_outOf_31 ?_
      refine v_aload_n ok 0 dX9_outOf_32 rfl rfl ?_
      refine v_get (T := TX9) (N := 9) (f0 := (M 0)) (v := rf g 1) ok mi_X9_outOf_9 (kd_lt (show kd 0 = 9 from rfl) (by decide)) rfl rfl (cellF_9 _ (by decide)) 0 (by decide) mk_X9_outOf_12 rfl rfl dX9_outOf_33 ?_
      refine v_get (T := TX7) (N := 5) (f0 := (M 1)) (v := rf g 2) ok mi_X9_outOf_7 (kd_lt (show kd 1 = 7 from rfl) (by decide)) rfl rfl (cellF_7 _ (by decide)) 0 (by decide) mk_X9_outOf_67 rfl rfl dX9_outOf_36 ?_
      refine v_get (T := TX6) (N := 3) (f0 := (M 2)) (v := rf g 3) ok mi_X9_outOf_6 (kd_lt (show kd 2 = 6 from rfl) (by decide)) rfl rfl (cellF_6 _ (by decide)) 0 (by decide) mk_X9_outOf_70 rfl rfl dX9_outOf_39 ?_
      refine v_callV (na := 2) (i := 50) (C := RX1) (T := TX1) (N := 3) (f0 := (M 50)) ok (ct_X1_runOff z.2.1 g M 5 3 (by decide) (by decide) rfl (by first | omega | assumption) (by first | omega | assumption) hR (by assumption)) gX9_outOf_X1_runOff (kd_lt (show kd 50 = 1 from rfl) (by decide)) rfl rfl (cellF_1 _ (by decide)) rfl (by decide +kernel) rfl (by decide) [] rfl (Nat.le_of_ble_eq_true rfl) dX9_outOf_42 (fun v8 M9 hp7 => ?_)
      obtain ⟨rfl, rfl⟩ := hp7
      show V z g 2 (up1 (up1 M 51 (fl ((M 3)) ((M 6)) 8)) 52 (otp ((M 5) 2) ((M 5) 3) (fl ((M 3)) ((M 6)) 8))) [(0, rf g 0), (1, iv 0)] [iv (sto ((M 5) 2) ((M 5) 3) (fl ((M 3)) ((M 6)) 8) 30)] 45
      refine v_pop ok rfl dX9_outOf_45 ?_
      refine v_aload_n ok 0 dX9_outOf_46 rfl rfl ?_
      refine v_get (T := TX9) (N := 9) (f0 := (M 0)) (v := rf g 50) ok mi_X9_outOf_9 (kd_lt (show kd 0 = 9 from rfl) (by decide)) rfl rfl (cellF_9 _ (by decide)) 4 (by decide) mk_X9_outOf_35 rfl rfl dX9_outOf_47 ?_
      refine v_get (T := TX1) (N := 3) (f0 := (M 50)) (v := rf g 52) ok mi_X9_outOf_1 (kd_lt (show kd 50 = 1 from rfl) (by decide)) rfl rfl (cellF_1 _ (by decide)) 1 (by decide) mk_X9_outOf_152 rfl rfl dX9_outOf_50 ?_
      exact v_aret ok rt (Or.inr ⟨_, rfl⟩) dX9_outOf_53 (Or.inr (⟨(fl ((M 3)) ((M 6)) 8), rfl, rfl, (by omega)⟩))
    · skip
      refine v_aload_n ok 0 dX9_outOf_16 rfl rfl ?_
      refine v_get (T := TX9) (N := 9) (f0 := (M 0)) (v := rf g 50) ok mi_X9_outOf_9 (kd_lt (show kd 0 = 9 from rfl) (by decide)) rfl rfl (cellF_9 _ (by decide)) 4 (by decide) mk_X9_outOf_35 rfl rfl dX9_outOf_17 ?_
      refine v_aload_n ok 0 dX9_outOf_20 rfl rfl ?_
      refine v_get (T := TX9) (N := 9) (f0 := (M 0)) (v := rf g 1) ok mi_X9_outOf_9 (kd_lt (show kd 0 = 9 from rfl) (by decide)) rfl rfl (cellF_9 _ (by decide)) 0 (by decide) mk_X9_outOf_12 rfl rfl dX9_outOf_21 ?_
      refine v_get (T := TX7) (N := 5) (f0 := (M 1)) (v := rf g 2) ok mi_X9_outOf_7 (kd_lt (show kd 1 = 7 from rfl) (by decide)) rfl rfl (cellF_7 _ (by decide)) 0 (by decide) mk_X9_outOf_67 rfl rfl dX9_outOf_24 ?_
      refine v_get (T := TX6) (N := 3) (f0 := (M 2)) (v := rf g 4) ok mi_X9_outOf_6 (kd_lt (show kd 2 = 6 from rfl) (by decide)) rfl rfl (cellF_6 _ (by decide)) 1 (by decide) mk_X9_outOf_87 rfl rfl dX9_outOf_27 ?_
      refine v_iload_n ok 1 dX9_outOf_30 rfl rfl ?_
      refine v_aald13L (q := 7) ok (by decide) (by decide) rfl dX9_outOf_31 ?_
      refine v_aload_n ok 0 dX9_outOf_32 rfl rfl ?_
      refine v_get (T := TX9) (N := 9) (f0 := (M 0)) (v := rf g 1) ok mi_X9_outOf_9 (kd_lt (show kd 0 = 9 from rfl) (by decide)) rfl rfl (cellF_9 _ (by decide)) 0 (by decide) mk_X9_outOf_12 rfl rfl dX9_outOf_33 ?_
      refine v_get (T := TX7) (N := 5) (f0 := (M 1)) (v := rf g 2) ok mi_X9_outOf_7 (kd_lt (show kd 1 = 7 from rfl) (by decide)) rfl rfl (cellF_7 _ (by decide)) 0 (by decide) mk_X9_outOf_67 rfl rfl dX9_outOf_36 ?_
      refine v_get (T := TX6) (N := 3) (f0 := (M 2)) (v := rf g 3) ok mi_X9_outOf_6 (kd_lt (show kd 2 = 6 from rfl) (by decide)) rfl rfl (cellF_6 _ (by decide)) 0 (by decide) mk_X9_outOf_70 rfl rfl dX9_outOf_39 ?_
      refine v_callV (na := 2) (i := 50) (C := RX1) (T := TX1) (N := 3) (f0 := (M 50)) ok (ct_X1_runOff z.2.1 g M 7 3 (by decide) (by decide) rfl (by first | omega | assumption) (by first | omega | assumption) hR (by assumption)) gX9_outOf_X1_runOff (kd_lt (show kd 50 = 1 from rfl) (by decide)) rfl rfl (cellF_1 _ (by decide)) rfl (by decide +kernel) rfl (by decide) [] rfl (Nat.le_of_ble_eq_true rfl) dX9_outOf_42 (fun v11 M12 hp10 => ?_)
      obtain ⟨rfl, rfl⟩ := hp10
      show V z g 2 (up1 (up1 M 51 (fl ((M 3)) ((M 8)) 8)) 52 (otp ((M 7) 2) ((M 7) 3) (fl ((M 3)) ((M 8)) 8))) [(0, rf g 0), (1, iv 1)] [iv (sto ((M 7) 2) ((M 7) 3) (fl ((M 3)) ((M 8)) 8) 30)] 45
      refine v_pop ok rfl dX9_outOf_45 ?_
      refine v_aload_n ok 0 dX9_outOf_46 rfl rfl ?_
      refine v_get (T := TX9) (N := 9) (f0 := (M 0)) (v := rf g 50) ok mi_X9_outOf_9 (kd_lt (show kd 0 = 9 from rfl) (by decide)) rfl rfl (cellF_9 _ (by decide)) 4 (by decide) mk_X9_outOf_35 rfl rfl dX9_outOf_47 ?_
      refine v_get (T := TX1) (N := 3) (f0 := (M 50)) (v := rf g 52) ok mi_X9_outOf_1 (kd_lt (show kd 50 = 1 from rfl) (by decide)) rfl rfl (cellF_1 _ (by decide)) 1 (by decide) mk_X9_outOf_152 rfl rfl dX9_outOf_50 ?_
      exact v_aret ok rt (Or.inr ⟨_, rfl⟩) dX9_outOf_53 (Or.inr (⟨(fl ((M 3)) ((M 8)) 8), rfl, rfl, (by omega)⟩))
    · skip
      refine v_aload_n ok 0 dX9_outOf_16 rfl rfl ?_
      refine v_get (T := TX9) (N := 9) (f0 := (M 0)) (v := rf g 50) ok mi_X9_outOf_9 (kd_lt (show kd 0 = 9 from rfl) (by decide)) rfl rfl (cellF_9 _ (by decide)) 4 (by decide) mk_X9_outOf_35 rfl rfl dX9_outOf_17 ?_
      refine v_aload_n ok 0 dX9_outOf_20 rfl rfl ?_
      refine v_get (T := TX9) (N := 9) (f0 := (M 0)) (v := rf g 1) ok mi_X9_outOf_9 (kd_lt (show kd 0 = 9 from rfl) (by decide)) rfl rfl (cellF_9 _ (by decide)) 0 (by decide) mk_X9_outOf_12 rfl rfl dX9_outOf_21 ?_
      refine v_get (T := TX7) (N := 5) (f0 := (M 1)) (v := rf g 2) ok mi_X9_outOf_7 (kd_lt (show kd 1 = 7 from rfl) (by decide)) rfl rfl (cellF_7 _ (by decide)) 0 (by decide) mk_X9_outOf_67 rfl rfl dX9_outOf_24 ?_
      refine v_get (T := TX6) (N := 3) (f0 := (M 2)) (v := rf g 4) ok mi_X9_outOf_6 (kd_lt (show kd 2 = 6 from rfl) (by decide)) rfl rfl (cellF_6 _ (by decide)) 1 (by decide) mk_X9_outOf_87 rfl rfl dX9_outOf_27 ?_
      refine v_iload_n ok 1 dX9_outOf_30 rfl rfl ?_
      refine v_aald13L (q := 9) ok (by decide) (by decide) rfl dX9_outOf_31 ?_
      refine v_aload_n ok 0 dX9_outOf_32 rfl rfl ?_
      refine v_get (T := TX9) (N := 9) (f0 := (M 0)) (v := rf g 1) ok mi_X9_outOf_9 (kd_lt (show kd 0 = 9 from rfl) (by decide)) rfl rfl (cellF_9 _ (by decide)) 0 (by decide) mk_X9_outOf_12 rfl rfl dX9_outOf_33 ?_
      refine v_get (T := TX7) (N := 5) (f0 := (M 1)) (v := rf g 2) ok mi_X9_outOf_7 (kd_lt (show kd 1 = 7 from rfl) (by decide)) rfl rfl (cellF_7 _ (by decide)) 0 (by decide) mk_X9_outOf_67 rfl rfl dX9_outOf_36 ?_
      refine v_get (T := TX6) (N := 3) (f0 := (M 2)) (v := rf g 3) ok mi_X9_outOf_6 (kd_lt (show kd 2 = 6 from rfl) (by decide)) rfl rfl (cellF_6 _ (by decide)) 0 (by decide) mk_X9_outOf_70 rfl rfl dX9_outOf_39 ?_
      refine v_callV (na := 2) (i := 50) (C := RX1) (T := TX1) (N := 3) (f0 := (M 50)) ok (ct_X1_runOff z.2.1 g M 9 3 (by decide) (by decide) rfl (by first | omega | assumption) (by first | omega | assumption) hR (by assumption)) gX9_outOf_X1_runOff (kd_lt (show kd 50 = 1 from rfl) (by decide)) rfl rfl (cellF_1 _ (by decide)) rfl (by decide +kernel) rfl (by decide) [] rfl (Nat.le_of_ble_eq_true rfl) dX9_outOf_42 (fun v14 M15 hp13 => ?_)
      obtain ⟨rfl, rfl⟩ := hp13
      show V z g 2 (up1 (up1 M 51 (fl ((M 3)) ((M 10)) 8)) 52 (otp ((M 9) 2) ((M 9) 3) (fl ((M 3)) ((M 10)) 8))) [(0, rf g 0), (1, iv 2)] [iv (sto ((M 9) 2) ((M 9) 3) (fl ((M 3)) ((M 10)) 8) 30)] 45
      refine v_pop ok rfl dX9_outOf_45 ?_
      refine v_aload_n ok 0 dX9_outOf_46 rfl rfl ?_
      refine v_get (T := TX9) (N := 9) (f0 := (M 0)) (v := rf g 50) ok mi_X9_outOf_9 (kd_lt (show kd 0 = 9 from rfl) (by decide)) rfl rfl (cellF_9 _ (by decide)) 4 (by decide) mk_X9_outOf_35 rfl rfl dX9_outOf_47 ?_
      refine v_get (T := TX1) (N := 3) (f0 := (M 50)) (v := rf g 52) ok mi_X9_outOf_1 (kd_lt (show kd 50 = 1 from rfl) (by decide)) rfl rfl (cellF_1 _ (by decide)) 1 (by decide) mk_X9_outOf_152 rfl rfl dX9_outOf_50 ?_
      exact v_aret ok rt (Or.inr ⟨_, rfl⟩) dX9_outOf_53 (Or.inr (⟨(fl ((M 3)) ((M 10)) 8), rfl, rfl, (by omega)⟩))
  · skip
    subst M3
    have h5 : ¬ (0 ≤ b ∧ b < (M 2) 2) := h5
    show V z g 2 M [(0, rf g 0), (1, iv b)] [iv 0] 11
    refine v_if_ne (tgt := 16) ok (by decide) dX9_outOf_11 (by decide) (fun c16 => absurd c16 (by decide)) (fun c16 => ?_)
    refine v_null ok dX9_outOf_14 ?_
    exact v_aret ok rt (Or.inl rfl) dX9_outOf_15 (Or.inl (⟨rfl, rfl, (by omega)⟩))

theorem mk_X9_greatestDivisor_271 : Cond.methodLink RX9 271 Lib.Math.max.name ∈ wsX9_greatestDivisor := by decide +kernel
theorem mmaxs_X9_greatestDivisor : Cond.static Lib.Math.max.name ∈ wsX9_greatestDivisor := by decide +kernel
theorem mmi_X9_greatestDivisor : Cond.initialized "java/lang/Math" ∈ wsX9_greatestDivisor := by decide +kernel
theorem mmaxc_X9_greatestDivisor : Cond.code Lib.Math.max.name Lib.Math.max.code 2 (some .int) ∈ wsX9_greatestDivisor := by decide +kernel
set_option maxRecDepth 100000 in
set_option maxHeartbeats 400000 in
theorem ct_X9_greatestDivisor (l : Launch) (g : Gl) (M : Mem) (a b : Int) (ha : 0 ≤ a ∧ a ≤ 4000000) (hb : 0 < b ∧ b ≤ 30) : Ct l g yX9_greatestDivisor wsX9_greatestDivisor 1 21 [iv a, iv b] M (fun rv M' => rv = some (iv (gcdI b a)) ∧ M' = M) := by
  refine Ct.of (cc := cX9_greatestDivisor) (nL := 6) (ret := (some .int)) (by decide) rfl (Nat.le_of_ble_eq_true rfl) (fun z hz ok rt => ?_)
  have ok : Ok z g cX9_greatestDivisor 6 RX9 wsX9_greatestDivisor 1 21 := ok
  show V z g 6 M [(0, iv a), (1, iv b)] [] 0
  refine v_iload_n ok 1 dX9_greatestDivisor_0 rfl rfl ?_
  refine v_istore_n ok [(2, iv b), (0, iv a), (1, iv b)] dX9_greatestDivisor_1 rfl (by decide) rfl ?_
  refine v_iload_n ok 1 dX9_greatestDivisor_2 rfl rfl ?_
  refine v_istore_n ok [(3, iv a), (2, iv b), (0, iv a), (1, iv b)] dX9_greatestDivisor_3 rfl (by decide) rfl ?_
  refine v_iconst (n := 0) ok dX9_greatestDivisor_4 ?_
  refine v_istore ok [(4, iv 0), (3, iv a), (2, iv b), (0, iv a), (1, iv b)] dX9_greatestDivisor_5 (by decide) rfl ?_
  have lp7 : ∀ (fu : Nat) (q l k w : Int), (0 ≤ k ∧ k ≤ 100) → (0 ≤ l ∧ l ≤ 4000000 ∧ 0 < q ∧ q ≤ 4000000) → ((k = 0 ∧ q = b ∧ l = a) ∨ (0 < k ∧ l ≤ 31 - k)) → (gcdI q l = gcdI b a) → (100 - k).toNat < fu → V z g 6 M [(0, iv a), (1, iv b), (2, iv q), (3, iv l), (4, iv k)] [] 7 := by
    intro fu
    induction fu with
    | zero => intro q l k w _ _ _ _ hm; exact absurd hm (Nat.not_lt_zero _)
    | succ fu ih7 =>
      intro q l k w i7_0 i7_1 i7_2 i7_3 hm7
      refine v_iload ok 4 dX9_greatestDivisor_7 rfl ?_
      refine v_bipush (n := 100) ok rfl dX9_greatestDivisor_9 ?_
      refine v_icmp_ge (tgt := 34) ok ⟨by omega, by omega⟩ (by decide) dX9_greatestDivisor_11 (by decide) (fun c1 => absurd c1 (by omega)) (fun c1 => ?_)
      refine v_iload_n ok 3 dX9_greatestDivisor_14 rfl rfl ?_
      refine v_if_le (tgt := 34) ok ⟨by omega, by omega⟩ dX9_greatestDivisor_15 (by decide) (fun c2 => ?_) (fun c2 => ?_)
      · skip
        have hl0 : l = 0 := by omega
        have hg : q = gcdI b a := by rw [← i7_3, hl0, gcdI_0 (by omega)]
        refine v_iload_n ok 2 dX9_greatestDivisor_34 rfl rfl ?_
        refine v_iconst (n := 1) ok dX9_greatestDivisor_35 ?_
        refine v_mmax ok ⟨by omega, by omega⟩ (by decide) mk_X9_greatestDivisor_271 mmaxs_X9_greatestDivisor mmi_X9_greatestDivisor mmaxc_X9_greatestDivisor ⟨by decide, Nat.le_of_ble_eq_true rfl⟩ dX9_greatestDivisor_36 ?_
        exact v_iret ok rt dX9_greatestDivisor_39 (⟨(congrArg (fun q : Int => some (iv q)) (show (max q 1) = (gcdI b a) from by (rw [← hg]; omega))), rfl⟩)
      · skip
        have hm1 : 0 ≤ q % l := Int.emod_nonneg q (by omega)
        have hm2 : q % l < l := Int.emod_lt_of_pos q (by omega)
        have hm3 : q % l ≤ q := by
          have h1 := Int.mul_ediv_add_emod q l
          have h2 : 0 ≤ l * (q / l) := Int.mul_nonneg (by omega) (Int.ediv_nonneg (by omega) (by omega))
          omega
        refine v_iload_n ok 2 dX9_greatestDivisor_18 rfl rfl ?_
        refine v_iload_n ok 3 dX9_greatestDivisor_19 rfl rfl ?_
        refine v_irem ok (by omega) (by omega) dX9_greatestDivisor_20 ?_
        refine v_istore ok [(5, iv (q % l)), (0, iv a), (1, iv b), (2, iv q), (3, iv l), (4, iv k)] dX9_greatestDivisor_21 (by decide) rfl ?_
        refine v_iload_n ok 4 dX9_greatestDivisor_23 rfl rfl ?_
        refine v_istore_n ok [(2, iv l), (5, iv (q % l)), (0, iv a), (1, iv b), (3, iv l), (4, iv k)] dX9_greatestDivisor_24 rfl (by decide) rfl ?_
        refine v_iload ok 1 dX9_greatestDivisor_25 rfl ?_
        refine v_istore_n ok [(3, iv (q % l)), (2, iv l), (5, iv (q % l)), (0, iv a), (1, iv b), (4, iv k)] dX9_greatestDivisor_27 rfl (by decide) rfl ?_
        refine v_iinc ok 5 [(4, iv (k + 1)), (3, iv (q % l)), (2, iv l), (5, iv (q % l)), (0, iv a), (1, iv b)] dX9_greatestDivisor_28 rfl (by decide) rfl ?_
        refine v_goto (tgt := 7) ok dX9_greatestDivisor_31 (by decide) ?_
        refine v_lv (ls' := [(0, iv a), (1, iv b), (2, iv l), (3, iv (q % l)), (4, iv (k + 1))]) ok [4, 5, 2, 1, 0] rfl ?_
        exact ih7 l (q % l) (k + 1) 0 (by omega) (by omega) (by right; omega) (by rw [gcdI_s (by omega) (by omega)]; exact i7_3) (by omega)
  refine v_lv (ls' := [(0, iv a), (1, iv b), (2, iv b), (3, iv a), (4, iv 0)]) ok [3, 4, 2, 1, 0] rfl ?_
  exact lp7 _ b a 0 0 (by omega) (by omega) (Or.inl ⟨rfl, rfl, rfl⟩) rfl (Nat.lt_succ_self _)

theorem mk_X9_inLowestTerms_205 : Cond.constantLong RX9 205 (-9223372036854775808) ∈ wsX9_inLowestTerms := by decide +kernel
set_option maxRecDepth 100000 in
set_option maxHeartbeats 400000 in
theorem ct_X9_inLowestTerms (l : Launch) (g : Gl) (M : Mem) (a b p : Int) (ha : 0 ≤ a ∧ a ≤ 4000000) (hb : 0 ≤ b ∧ b ≤ 30) (hp : i32 p) : Ct l g yX9_inLowestTerms wsX9_inLowestTerms 2 46 [iv a, iv b, iv p] M (fun rv M' => (rv = some (jv (-9223372036854775808)) ∧ M' = M ∧ (b = 0 ∨ ¬ (0 ≤ p ∧ p ≤ 1))) ∨ (rv = some (jv ((if p = 0 then a else b) / gcdI b a)) ∧ M' = M ∧ (0 < b) ∧ (0 ≤ p ∧ p ≤ 1))) := by
  refine Ct.of (cc := cX9_inLowestTerms) (nL := 4) (ret := (some .long)) (by decide) rfl (Nat.le_of_ble_eq_true rfl) (fun z hz ok rt => ?_)
  have ok : Ok z g cX9_inLowestTerms 4 RX9 wsX9_inLowestTerms 2 46 := ok
  show V z g 4 M [(0, iv a), (1, iv b), (2, iv p)] [] 0
  refine v_iload_n ok 0 dX9_inLowestTerms_0 rfl rfl ?_
  refine v_if_lt (tgt := 17) ok ⟨by omega, by omega⟩ dX9_inLowestTerms_1 (by decide) (fun c1 => absurd c1 (by omega)) (fun c1 => ?_)
  refine v_iload_n ok 1 dX9_inLowestTerms_4 rfl rfl ?_
  refine v_if_le (tgt := 17) ok ⟨by omega, by omega⟩ dX9_inLowestTerms_5 (by decide) (fun c2 => ?_) (fun c2 => ?_)
  · skip
    refine v_ldc2 (n := -9223372036854775808) ok mk_X9_inLowestTerms_205 rfl dX9_inLowestTerms_17 ?_
    exact v_lret ok rt dX9_inLowestTerms_20 (Or.inl (⟨rfl, rfl, (by omega)⟩))
  · skip
    refine v_iload_n ok 2 dX9_inLowestTerms_8 rfl rfl ?_
    refine v_iconst (n := 0) ok dX9_inLowestTerms_9 ?_
    refine v_iconst (n := 1) ok dX9_inLowestTerms_10 ?_
    refine v_callS (na := 3) ok (ct_X9_between z.2.1 g M p 0 1 ⟨by omega, by omega⟩ (by decide) (by decide)) gX9_inLowestTerms_X9_between rfl (by decide +kernel) rfl (by decide) [] rfl (Nat.le_of_ble_eq_true rfl) dX9_inLowestTerms_11 (fun v4 M5 hp3 => ?_)
    rcases hp3 with ⟨rfl, eM5, h6⟩ | ⟨rfl, eM5, h7⟩
    · skip
      subst M5
      show V z g 4 M [(0, iv a), (1, iv b), (2, iv p)] [iv 1] 14
      refine v_if_ne (tgt := 21) ok (by decide) dX9_inLowestTerms_14 (by decide) (fun c8 => ?_) (fun c8 => absurd c8 (by decide))
      refine v_iload_n ok 0 dX9_inLowestTerms_21 rfl rfl ?_
      refine v_iload_n ok 1 dX9_inLowestTerms_22 rfl rfl ?_
      refine v_callS (na := 2) ok (ct_X9_greatestDivisor z.2.1 g M a b (by first | omega | assumption) (by first | omega | assumption)) gX9_inLowestTerms_X9_greatestDivisor rfl (by decide +kernel) rfl (by decide) [] rfl (Nat.le_of_ble_eq_true rfl) dX9_inLowestTerms_23 (fun v10 M11 hp9 => ?_)
      obtain ⟨rfl, eM11⟩ := hp9
      subst M11
      show V z g 4 M [(0, iv a), (1, iv b), (2, iv p)] [iv (gcdI b a)] 26
      have hg1 : 0 < gcdI b a := by
        unfold gcdI
        have := Nat.gcd_pos_of_pos_left a.toNat (show 0 < b.toNat by omega)
        omega
      have hg2 : gcdI b a ≤ 30 := by
        unfold gcdI
        have := Nat.gcd_le_left a.toNat (show 0 < b.toNat by omega)
        omega
      have hd1 : 0 ≤ a / gcdI b a ∧ a / gcdI b a ≤ a := ⟨Int.ediv_nonneg (by omega) (by omega), Int.ediv_le_self _ (by omega)⟩
      have hd2 : 0 ≤ b / gcdI b a ∧ b / gcdI b a ≤ b := ⟨Int.ediv_nonneg (by omega) (by omega), Int.ediv_le_self _ (by omega)⟩
      refine v_istore_n ok [(3, iv (gcdI b a)), (0, iv a), (1, iv b), (2, iv p)] dX9_inLowestTerms_26 rfl (by decide) rfl ?_
      refine v_iload_n ok 3 dX9_inLowestTerms_27 rfl rfl ?_
      refine v_if_ne (tgt := 35) ok ⟨by omega, by omega⟩ dX9_inLowestTerms_28 (by decide) (fun c12 => ?_) (fun c12 => ?_)
      · skip
        refine v_iload_n ok 2 dX9_inLowestTerms_35 rfl rfl ?_
        refine v_iload_n ok 0 dX9_inLowestTerms_36 rfl rfl ?_
        refine v_idiv ok (by omega) (by omega) dX9_inLowestTerms_37 ?_
        refine v_i2l ok ⟨by omega, by omega⟩ dX9_inLowestTerms_38 ?_
        exact v_lret ok rt dX9_inLowestTerms_39 (Or.inr (⟨(congrArg (fun q : Int => some (jv q)) (show (b / (gcdI b a)) = ((if p = 0 then a else b) / gcdI b a) from by (first | rw [if_pos (by omega)] | rw [if_neg (by omega)]))), rfl, (by omega), (by omega)⟩))
      · skip
        refine v_iload_n ok 1 dX9_inLowestTerms_31 rfl rfl ?_
        refine v_goto (tgt := 36) ok dX9_inLowestTerms_32 (by decide) ?_
        refine v_iload_n ok 0 dX9_inLowestTerms_36 rfl rfl ?_
        refine v_idiv ok (by omega) (by omega) dX9_inLowestTerms_37 ?_
        refine v_i2l ok ⟨by omega, by omega⟩ dX9_inLowestTerms_38 ?_
        exact v_lret ok rt dX9_inLowestTerms_39 (Or.inr (⟨(congrArg (fun q : Int => some (jv q)) (show (a / (gcdI b a)) = ((if p = 0 then a else b) / gcdI b a) from by (first | rw [if_pos (by omega)] | rw [if_neg (by omega)]))), rfl, (by omega), (by omega)⟩))
    · skip
      subst M5
      show V z g 4 M [(0, iv a), (1, iv b), (2, iv p)] [iv 0] 14
      refine v_if_ne (tgt := 21) ok (by decide) dX9_inLowestTerms_14 (by decide) (fun c13 => absurd c13 (by decide)) (fun c13 => ?_)
      refine v_ldc2 (n := -9223372036854775808) ok mk_X9_inLowestTerms_205 rfl dX9_inLowestTerms_17 ?_
      exact v_lret ok rt dX9_inLowestTerms_20 (Or.inl (⟨rfl, rfl, (by omega)⟩))

set_option maxRecDepth 100000 in
set_option maxHeartbeats 400000 in
theorem ct_X9_swap (l : Launch) (g : Gl) (M : Mem) (s t : Int) (hs : 0 ≤ s ∧ s < 8) (ht : 0 ≤ t ∧ t < 8) : Ct l g yX9_swap wsX9_swap 1 22 [rf g 42, iv s, iv t] M (fun rv M' => rv = none ∧ M' = (up1 M 42 (swp (M 42) s t))) := by
  refine Ct.of (cc := cX9_swap) (nL := 4) (ret := none) (by decide) rfl (Nat.le_of_ble_eq_true rfl) (fun z hz ok rt => ?_)
  have ok : Ok z g cX9_swap 4 RX9 wsX9_swap 1 22 := ok
  show V z g 4 M [(0, rf g 42), (1, iv s), (2, iv t)] [] 0
  refine v_iload_n ok 1 dX9_swap_0 rfl rfl ?_
  refine v_iconst (n := 0) ok dX9_swap_1 ?_
  refine v_aload_n ok 0 dX9_swap_2 rfl rfl ?_
  refine v_alen (n := 8) ok (Or.inl (by decide)) rfl dX9_swap_3 ?_
  refine v_iconst (n := 1) ok dX9_swap_4 ?_
  refine v_isub ok dX9_swap_5 ?_
  show V z g 4 M [(0, rf g 42), (1, iv s), (2, iv t)] [iv 7, iv 0, iv s] 6
  refine v_callS (na := 3) ok (ct_X9_between z.2.1 g M s 0 7 ⟨by omega, by omega⟩ (by decide) (by decide)) gX9_swap_X9_between rfl (by decide +kernel) rfl (by decide) [] rfl (Nat.le_of_ble_eq_true rfl) dX9_swap_6 (fun v2 M3 hp1 => ?_)
  rcases hp1 with ⟨rfl, eM3, h4⟩ | ⟨rfl, eM3, h5⟩
  · skip
    subst M3
    show V z g 4 M [(0, rf g 42), (1, iv s), (2, iv t)] [iv 1] 9
    refine v_if_eq (tgt := 38) ok (by decide) dX9_swap_9 (by decide) (fun c6 => absurd c6 (by decide)) (fun c6 => ?_)
    refine v_iload_n ok 2 dX9_swap_12 rfl rfl ?_
    refine v_iconst (n := 0) ok dX9_swap_13 ?_
    refine v_aload_n ok 0 dX9_swap_14 rfl rfl ?_
    refine v_alen (n := 8) ok (Or.inl (by decide)) rfl dX9_swap_15 ?_
    refine v_iconst (n := 1) ok dX9_swap_16 ?_
    refine v_isub ok dX9_swap_17 ?_
    show V z g 4 M [(0, rf g 42), (1, iv s), (2, iv t)] [iv 7, iv 0, iv t] 18
    refine v_callS (na := 3) ok (ct_X9_between z.2.1 g M t 0 7 ⟨by omega, by omega⟩ (by decide) (by decide)) gX9_swap_X9_between rfl (by decide +kernel) rfl (by decide) [] rfl (Nat.le_of_ble_eq_true rfl) dX9_swap_18 (fun v8 M9 hp7 => ?_)
    rcases hp7 with ⟨rfl, eM9, h10⟩ | ⟨rfl, eM9, h11⟩
    · skip
      subst M9
      show V z g 4 M [(0, rf g 42), (1, iv s), (2, iv t)] [iv 1] 21
      refine v_if_eq (tgt := 38) ok (by decide) dX9_swap_21 (by decide) (fun c12 => absurd c12 (by decide)) (fun c12 => ?_)
      refine v_aload_n ok 0 dX9_swap_24 rfl rfl ?_
      refine v_iload_n ok 1 dX9_swap_25 rfl rfl ?_
      refine v_iald (n := 8) (f0 := (M 42)) ok (by decide) rfl (by omega) rfl dX9_swap_26 ?_
      refine v_istore_n ok [(3, iv (M 42 s)), (0, rf g 42), (1, iv s), (2, iv t)] dX9_swap_27 rfl (by decide) rfl ?_
      refine v_aload_n ok 1 dX9_swap_28 rfl rfl ?_
      refine v_iload_n ok 2 dX9_swap_29 rfl rfl ?_
      refine v_aload_n ok 1 dX9_swap_30 rfl rfl ?_
      refine v_iload_n ok 3 dX9_swap_31 rfl rfl ?_
      refine v_iald (n := 8) (f0 := (M 42)) ok (by decide) rfl (by omega) rfl dX9_swap_32 ?_
      refine v_iast (n := 8) (f0 := (M 42)) ok (by decide) rfl (by omega) rfl dX9_swap_33 ?_
      refine v_aload_n ok 1 dX9_swap_34 rfl rfl ?_
      refine v_iload_n ok 3 dX9_swap_35 rfl rfl ?_
      refine v_iload_n ok 0 dX9_swap_36 rfl rfl ?_
      refine v_iast (n := 8) (f0 := up (M 42) s (M 42 t)) ok (by decide) rfl (by omega) rfl dX9_swap_37 ?_
      rw [up1_up1]
      exact v_vret ok rt dX9_swap_38 (⟨rfl, rfl⟩)
    · skip
      subst M9
      show V z g 4 M [(0, rf g 42), (1, iv s), (2, iv t)] [iv 0] 21
      exfalso; omega
  · skip
    subst M3
    show V z g 4 M [(0, rf g 42), (1, iv s), (2, iv t)] [iv 0] 9
    exfalso; omega

set_option maxRecDepth 100000 in
set_option maxHeartbeats 400000 in
theorem ct_X9_cutTo (l : Launch) (g : Gl) (M : Mem) (s v : Int) (hs : 0 ≤ s ∧ s ≤ 4) (hv : i64 v) : Ct l g yX9_cutTo wsX9_cutTo 0 0 [iv s, jv v] M (fun rv M' => rv = some (jv (nrw s v)) ∧ M' = M) := by
  refine Ct.of (cc := cX9_cutTo) (nL := 3) (ret := (some .long)) (by decide) rfl (Nat.le_of_ble_eq_true rfl) (fun z hz ok rt => ?_)
  have ok : Ok z g cX9_cutTo 3 RX9 wsX9_cutTo 0 0 := ok
  show V z g 3 M [(0, iv s), (1, jv v)] [] 0
  refine v_iload_n ok 0 dX9_cutTo_0 rfl rfl ?_
  by_cases e1 : s = 0
  · skip
    refine v_tblIn (off := 35) (tgt := 36) ok ⟨by omega, by omega⟩ (by omega) (by omega) (by rw [e1]; rfl) dX9_cutTo_1 (by decide) ?_
    refine v_lload_n ok 1 dX9_cutTo_36 rfl rfl ?_
    refine v_l2i ok dX9_cutTo_37 ?_
    have h1 := Int.le_bmod (x := v) (m := 256) (by decide)
    have h2 := Int.bmod_lt (x := v) (m := 256) (by decide)
    refine v_i2b ok dX9_cutTo_38 ?_
    refine v_i2l ok ⟨by omega, by omega⟩ dX9_cutTo_39 ?_
    exact v_lret ok rt dX9_cutTo_40 (⟨(congrArg (fun q : Int => some (jv q)) (show (Int.bmod v 256) = (nrw s v) from by (unfold nrw; (repeat' split) <;> first | rfl | omega))), rfl⟩)
  · skip
    by_cases e2 : s = 1
    · skip
      refine v_tblIn (off := 40) (tgt := 41) ok ⟨by omega, by omega⟩ (by omega) (by omega) (by rw [e2]; rfl) dX9_cutTo_1 (by decide) ?_
      refine v_lload_n ok 1 dX9_cutTo_41 rfl rfl ?_
      refine v_l2i ok dX9_cutTo_42 ?_
      have h1 := Int.le_bmod (x := v) (m := 65536) (by decide)
      have h2 := Int.bmod_lt (x := v) (m := 65536) (by decide)
      refine v_i2s ok dX9_cutTo_43 ?_
      refine v_i2l ok ⟨by omega, by omega⟩ dX9_cutTo_44 ?_
      exact v_lret ok rt dX9_cutTo_45 (⟨(congrArg (fun q : Int => some (jv q)) (show (Int.bmod v 65536) = (nrw s v) from by (unfold nrw; (repeat' split) <;> first | rfl | omega))), rfl⟩)
    · skip
      by_cases e3 : s = 2
      · skip
        refine v_tblIn (off := 45) (tgt := 46) ok ⟨by omega, by omega⟩ (by omega) (by omega) (by rw [e3]; rfl) dX9_cutTo_1 (by decide) ?_
        refine v_lload_n ok 1 dX9_cutTo_46 rfl rfl ?_
        have h1 := Int.le_bmod (x := v) (m := 4294967296) (by decide)
        have h2 := Int.bmod_lt (x := v) (m := 4294967296) (by decide)
        refine v_l2iw ok dX9_cutTo_47 ?_
        refine v_i2l ok ⟨by omega, by omega⟩ dX9_cutTo_48 ?_
        exact v_lret ok rt dX9_cutTo_49 (⟨(congrArg (fun q : Int => some (jv q)) (show (Int.bmod v 4294967296) = (nrw s v) from by (unfold nrw; (repeat' split) <;> first | rfl | omega))), rfl⟩)
      · skip
        by_cases e4 : s = 4
        · skip
          refine v_tblIn (off := 49) (tgt := 50) ok ⟨by omega, by omega⟩ (by omega) (by omega) (by rw [e4]; rfl) dX9_cutTo_1 (by decide) ?_
          refine v_lload_n ok 1 dX9_cutTo_50 rfl rfl ?_
          refine v_lconst (n := 0) ok rfl dX9_cutTo_51 ?_
          refine v_lcmp ok ⟨by omega, by omega⟩ (by decide) dX9_cutTo_52 (fun r5 hc6a hc6b hc6c hc6d => ?_)
          refine v_if_eq (tgt := 60) ok ⟨by omega, by omega⟩ dX9_cutTo_53 (by decide) (fun c7 => ?_) (fun c7 => ?_)
          · skip
            refine v_lconst (n := 0) ok rfl dX9_cutTo_60 ?_
            exact v_lret ok rt dX9_cutTo_61 (⟨(congrArg (fun q : Int => some (jv q)) (show 0 = (nrw s v) from by (unfold nrw; (repeat' split) <;> first | rfl | omega))), rfl⟩)
          · skip
            refine v_lconst (n := 1) ok rfl dX9_cutTo_56 ?_
            refine v_goto (tgt := 61) ok dX9_cutTo_57 (by decide) ?_
            exact v_lret ok rt dX9_cutTo_61 (⟨(congrArg (fun q : Int => some (jv q)) (show 1 = (nrw s v) from by (unfold nrw; (repeat' split) <;> first | rfl | omega))), rfl⟩)
        · skip
          suffices hdef : V z g 3 M [(0, iv s), (1, jv v)] [] 62 by
            by_cases hlo : s < 0
            · exact v_tblOut (tgt := 62) ok ⟨by omega, by omega⟩ (Or.inl hlo) dX9_cutTo_1 (by decide) hdef
            by_cases hhi : 4 < s
            · exact v_tblOut (tgt := 62) ok ⟨by omega, by omega⟩ (Or.inr hhi) dX9_cutTo_1 (by decide) hdef
            have hcs : s = 3 := by omega
            have hk := hcs
            · exact v_tblIn (off := 61) (tgt := 62) ok ⟨by omega, by omega⟩ (by omega) (by omega) (by rw [hk]; rfl) dX9_cutTo_1 (by decide) hdef
          refine v_lload_n ok 1 dX9_cutTo_62 rfl rfl ?_
          exact v_lret ok rt dX9_cutTo_63 (⟨(congrArg (fun q : Int => some (jv q)) (show v = (nrw s v) from by (unfold nrw; (repeat' split) <;> first | rfl | omega))), rfl⟩)

theorem mk_X9_isTape_63 : Cond.fieldLink RX9 63 "StormRunoff" "tapes" "[LStormRunoff$Tape;" ∈ wsX9_isTape := by decide +kernel
theorem mi_X9_isTape_9 : ∀ w ∈ wsX90, w ∈ wsX9_isTape := by decide +kernel
set_option maxRecDepth 100000 in
set_option maxHeartbeats 400000 in
theorem ct_X9_isTape (l : Launch) (g : Gl) (M : Mem) (t : Int) (ht : i32 t) : Ct l g yX9_isTape wsX9_isTape 1 22 [rf g 0, iv t] M (fun rv M' => (rv = some (iv 1) ∧ M' = M ∧ (0 ≤ t ∧ t ≤ 5)) ∨ (rv = some (iv 0) ∧ M' = M ∧ (¬ (0 ≤ t ∧ t ≤ 5)))) := by
  refine Ct.of (cc := cX9_isTape) (nL := 2) (ret := (some .boolean)) (by decide) rfl (Nat.le_of_ble_eq_true rfl) (fun z hz ok rt => ?_)
  have ok : Ok z g cX9_isTape 2 RX9 wsX9_isTape 1 22 := ok
  show V z g 2 M [(0, rf g 0), (1, iv t)] [] 0
  refine v_iload_n ok 1 dX9_isTape_0 rfl rfl ?_
  refine v_iconst (n := 0) ok dX9_isTape_1 ?_
  refine v_aload_n ok 0 dX9_isTape_2 rfl rfl ?_
  refine v_get (T := TX9) (N := 9) (f0 := (M 0)) (v := rf g 65) ok mi_X9_isTape_9 (kd_lt (show kd 0 = 9 from rfl) (by decide)) rfl rfl (cellF_9 _ (by decide)) 8 (by decide) mk_X9_isTape_63 rfl rfl dX9_isTape_3 ?_
  refine v_alen14 ok (by decide) dX9_isTape_6 ?_
  refine v_iconst (n := 1) ok dX9_isTape_7 ?_
  refine v_isub ok dX9_isTape_8 ?_
  show V z g 2 M [(0, rf g 0), (1, iv t)] [iv 5, iv 0, iv t] 9
  refine v_callS (na := 3) ok (ct_X9_between z.2.1 g M t 0 5 ⟨by omega, by omega⟩ (by decide) (by decide)) gX9_isTape_X9_between rfl (by decide +kernel) rfl (by decide) [] rfl (Nat.le_of_ble_eq_true rfl) dX9_isTape_9 (fun v2 M3 hp1 => ?_)
  rcases hp1 with ⟨rfl, eM3, h4⟩ | ⟨rfl, eM3, h5⟩
  · skip
    subst M3
    show V z g 2 M [(0, rf g 0), (1, iv t)] [iv 1] 12
    exact v_zret ok rt (by omega) dX9_isTape_12 (Or.inl (⟨rfl, rfl, (by omega)⟩))
  · skip
    subst M3
    show V z g 2 M [(0, rf g 0), (1, iv t)] [iv 0] 12
    exact v_zret ok rt (by omega) dX9_isTape_12 (Or.inr (⟨rfl, rfl, (by omega)⟩))
