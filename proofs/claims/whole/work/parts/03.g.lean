theorem mk_X1_join_18 : Cond.fieldLink RX1 18 "StormRunoff$Course" "joined" "[I" ∈ wsX1_join := by decide +kernel
theorem mi_X1_join_1 : ∀ w ∈ wsX10, w ∈ wsX1_join := by decide +kernel
theorem mk_X1_join_37 : Cond.fieldLink RX1 37 "StormRunoff$Site" "many" "I" ∈ wsX1_join := by decide +kernel
theorem mi_X1_join_6 : ∀ w ∈ wsX60, w ∈ wsX1_join := by decide +kernel
theorem mk_X1_join_43 : Cond.fieldLink RX1 43 "StormRunoff$Site" "basins" "[LStormRunoff$Basin;" ∈ wsX1_join := by decide +kernel
theorem mk_X1_join_47 : Cond.fieldLink RX1 47 "StormRunoff$Site" "rain" "[I" ∈ wsX1_join := by decide +kernel
theorem mk_X1_join_15 : Cond.fieldLink RX1 15 "StormRunoff$Course" "out" "[I" ∈ wsX1_join := by decide +kernel
set_option maxRecDepth 100000 in
set_option maxHeartbeats 400000 in
theorem ct_X1_join_2 (l : Launch) (g : Gl) (M : Mem)  (hs : SiteOk M 2) : Ct l g yX1_join wsX1_join 4 88 [rf g 50, rf g 2] M (fun rv M' => ∃ (F O : Int → Int), rv = none ∧ M' = (up1 (up1 (up1 M 53 (jnS M 2 (M 2 2).toNat)) 51 F) 52 O)) := by
  refine Ct.of (cc := cX1_join) (nL := 4) (ret := none) (by decide) rfl (Nat.le_of_ble_eq_true rfl) (fun z hz ok rt => ?_)
  have ok : Ok z g cX1_join 4 RX1 wsX1_join 4 88 := ok
  show V z g 4 M [(0, rf g 50), (1, rf g 2)] [] 0
  have hR : bdf (M 3) 8 0 20 := hs.1
  have hm : 0 ≤ M 2 2 ∧ M 2 2 ≤ 3 := hs.2.1
  have hA0 : bdf (M 6) 5 0 9 := hs.2.2.1.1
  have hk0 : 0 ≤ M 5 2 ∧ M 5 2 ≤ 4 := hs.2.2.1.2.2.1
  have hn0 : 0 ≤ M 5 3 ∧ M 5 3 ≤ 9 := hs.2.2.1.2.2.2
  have hA1 : bdf (M 8) 5 0 9 := hs.2.2.2.1.1
  have hk1 : 0 ≤ M 7 2 ∧ M 7 2 ≤ 4 := hs.2.2.2.1.2.2.1
  have hn1 : 0 ≤ M 7 3 ∧ M 7 3 ≤ 9 := hs.2.2.2.1.2.2.2
  have hA2 : bdf (M 10) 5 0 9 := hs.2.2.2.2.1
  have hk2 : 0 ≤ M 9 2 ∧ M 9 2 ≤ 4 := hs.2.2.2.2.2.2.1
  have hn2 : 0 ≤ M 9 3 ∧ M 9 3 ≤ 9 := hs.2.2.2.2.2.2.2
  refine v_aload_n ok 0 dX1_join_0 rfl rfl ?_
  refine v_get (T := TX1) (N := 3) (f0 := (M 50)) (v := rf g 53) ok mi_X1_join_1 (kd_lt (show kd 50 = 1 from rfl) (by decide)) rfl rfl (cellF_1 _ (by decide)) 2 (by decide) mk_X1_join_18 rfl rfl dX1_join_1 ?_
  refine v_iconst (n := 0) ok dX1_join_4 ?_
  refine v_callS (na := 2) ok (ct_J7_fill_53178 z.2.1 g M 53 30 0 (by decide) rfl) gX1_join_J7_fill_53178 rfl (by decide +kernel) rfl (by decide) [] rfl (Nat.le_of_ble_eq_true rfl) dX1_join_5 (fun v2 M3 hp1 => ?_)
  obtain ⟨rfl, rfl⟩ := hp1
  show V z g 4 (up1 M 53 (fun _ => 0)) [(0, rf g 50), (1, rf g 2)] [] 8
  rw [show ((up1 M 53 (fun _ => 0)) : Mem) = (up1 M 53 (jnS M 2 0)) from rfl]
  refine v_iconst (n := 0) ok dX1_join_8 ?_
  refine v_istore_n ok [(2, iv 0), (0, rf g 50), (1, rf g 2)] dX1_join_9 rfl (by decide) rfl ?_
  refine v_iload_n ok 0 dX1_join_10 rfl rfl ?_
  refine v_aload_n ok 2 dX1_join_11 rfl rfl ?_
  refine v_get (T := TX6) (N := 3) (f0 := (M 2)) (v := iv (M 2 2)) ok mi_X1_join_6 (kd_lt (show kd 2 = 6 from rfl) (by decide)) rfl rfl (cellF_6 _ (by decide)) 2 (by decide) mk_X1_join_37 rfl rfl dX1_join_12 ?_
  refine v_icmp_ge (tgt := 89) ok (by decide) ⟨by omega, by omega⟩ dX1_join_15 (by decide) (fun c4 => ?_) (fun c4 => ?_)
  · skip
    have hmi : (M 2 2).toNat = 0 := by omega
    exact v_vret ok rt dX1_join_89 (⟨(M 51), (M 52), rfl, (by rw [hmi] <;> first | rfl | (funext j; by_cases hj0 : j = 53 <;> by_cases hj1 : j = 51 <;> by_cases hj2 : j = 52 <;> simp_all [up1]))⟩)
  · skip
    refine v_iload_n ok 0 dX1_join_18 rfl rfl ?_
    refine v_aload_n ok 2 dX1_join_19 rfl rfl ?_
    refine v_get (T := TX6) (N := 3) (f0 := (M 2)) (v := rf g 4) ok mi_X1_join_6 (kd_lt (show kd 2 = 6 from rfl) (by decide)) rfl rfl (cellF_6 _ (by decide)) 1 (by decide) mk_X1_join_43 rfl rfl dX1_join_20 ?_
    refine v_alen13 ok (by decide) dX1_join_23 ?_
    refine v_icmp_ge (tgt := 89) ok (by decide) (by decide) dX1_join_24 (by decide) (fun c5 => absurd c5 (by decide)) (fun c5 => ?_)
    refine v_aload_n ok 1 dX1_join_27 rfl rfl ?_
    refine v_aload_n ok 2 dX1_join_28 rfl rfl ?_
    refine v_get (T := TX6) (N := 3) (f0 := (M 2)) (v := rf g 4) ok mi_X1_join_6 (kd_lt (show kd 2 = 6 from rfl) (by decide)) rfl rfl (cellF_6 _ (by decide)) 1 (by decide) mk_X1_join_43 rfl rfl dX1_join_29 ?_
    refine v_iload_n ok 0 dX1_join_32 rfl rfl ?_
    refine v_aald13L (q := 5) ok (by decide) (by decide) rfl dX1_join_33 ?_
    refine v_aload_n ok 2 dX1_join_34 rfl rfl ?_
    refine v_get (T := TX6) (N := 3) (f0 := (M 2)) (v := rf g 3) ok mi_X1_join_6 (kd_lt (show kd 2 = 6 from rfl) (by decide)) rfl rfl (cellF_6 _ (by decide)) 0 (by decide) mk_X1_join_47 rfl rfl dX1_join_35 ?_
    refine v_callV (na := 2) (i := 50) (C := RX1) (T := TX1) (N := 3) (f0 := (M 50)) ok (ct_X1_runOff z.2.1 g (up1 M 53 (jnS M 2 0)) 5 3 (by decide) (by decide) rfl (by show 0 ≤ (M 5) 2 ∧ (M 5) 2 ≤ 4; first | omega | assumption) (by show 0 ≤ (M 5) 3 ∧ (M 5) 3 ≤ 9; first | omega | assumption) hR (by assumption)) gX1_join_X1_runOff (kd_lt (show kd 50 = 1 from rfl) (by decide)) rfl rfl (cellF_1 _ (by decide)) rfl (by decide +kernel) rfl (by decide) [] rfl (Nat.le_of_ble_eq_true rfl) dX1_join_38 (fun v7 M8 hp6 => ?_)
    obtain ⟨rfl, rfl⟩ := hp6
    show V z g 4 (up1 (up1 (up1 M 53 (jnS M 2 0)) 51 (fl ((M 3)) ((M 6)) 8)) 52 (otp ((M 5) 2) ((M 5) 3) (fl ((M 3)) ((M 6)) 8))) [(2, iv 0), (0, rf g 50), (1, rf g 2)] [iv (sto ((M 5) 2) ((M 5) 3) (fl ((M 3)) ((M 6)) 8) 30)] 41
    refine v_pop ok rfl dX1_join_41 ?_
    refine v_iconst (n := 0) ok dX1_join_42 ?_
    refine v_istore_n ok [(3, iv 0), (2, iv 0), (0, rf g 50), (1, rf g 2)] dX1_join_43 rfl (by decide) rfl ?_
    have lp44 : ∀ (fu : Nat) (k : Int) (J : Int → Int), (0 ≤ k ∧ k ≤ 30) → (∀ j : Int, 0 ≤ j → j < 30 → J j = if j < k then (jnS M 2 0) j + (otp ((M 5) 2) ((M 5) 3) (fl ((M 3)) ((M 6)) 8)) j else (jnS M 2 0) j) → (30 - k).toNat < fu → V z g 4 (up1 (up1 (up1 M 53 J) 51 (fl ((M 3)) ((M 6)) 8)) 52 (otp ((M 5) 2) ((M 5) 3) (fl ((M 3)) ((M 6)) 8))) [(0, rf g 50), (1, rf g 2), (2, iv 0), (3, iv k)] [] 44 := by
      intro fu
      induction fu with
      | zero => intro k J _ _ hm; exact absurd hm (Nat.not_lt_zero _)
      | succ fu ih44 =>
        intro k J i44_0 i44_1 hm44
        refine v_iload_n ok 3 dX1_join_44 rfl rfl ?_
        refine v_aload_n ok 0 dX1_join_45 rfl rfl ?_
        refine v_get (T := TX1) (N := 3) (f0 := (M 50)) (v := rf g 53) ok mi_X1_join_1 (kd_lt (show kd 50 = 1 from rfl) (by decide)) rfl rfl (cellF_1 _ (by decide)) 2 (by decide) mk_X1_join_18 rfl rfl dX1_join_46 ?_
        refine v_alen (n := 30) ok (Or.inl (by decide)) rfl dX1_join_49 ?_
        refine v_icmp_ge (tgt := 83) ok ⟨by omega, by omega⟩ (by decide) dX1_join_50 (by decide) (fun c9 => ?_) (fun c9 => ?_)
        · skip
          rw [show ((up1 (up1 (up1 M 53 J) 51 (fl ((M 3)) ((M 6)) 8)) 52 (otp ((M 5) 2) ((M 5) 3) (fl ((M 3)) ((M 6)) 8))) : Mem) = (up1 (up1 (up1 M 51 (fl ((M 3)) ((M 6)) 8)) 52 (otp ((M 5) 2) ((M 5) 3) (fl ((M 3)) ((M 6)) 8))) 53 J) from (by
                funext j
                by_cases hj0 : j = 53
                · subst hj0; simp [up1, up1_self]
                by_cases hj1 : j = 51
                · subst hj1; simp [up1, up1_self]
                by_cases hj2 : j = 52
                · subst hj2; simp [up1, up1_self]
                simp [up1, hj0, hj1, hj2])]
          refine v_cong (n := 30) (jnS M 2 1) (Or.inl (by decide)) rfl (fun j j0 j1 => by rw [i44_1 j j0 j1, if_pos (by omega)]; rfl) ?_
          rw [show ((up1 (up1 (up1 M 51 (fl ((M 3)) ((M 6)) 8)) 52 (otp ((M 5) 2) ((M 5) 3) (fl ((M 3)) ((M 6)) 8))) 53 (jnS M 2 1)) : Mem) = (up1 (up1 (up1 M 53 (jnS M 2 1)) 51 (fl ((M 3)) ((M 6)) 8)) 52 (otp ((M 5) 2) ((M 5) 3) (fl ((M 3)) ((M 6)) 8))) from (by
                funext j
                by_cases hj0 : j = 53
                · subst hj0; simp [up1, up1_self]
                by_cases hj1 : j = 51
                · subst hj1; simp [up1, up1_self]
                by_cases hj2 : j = 52
                · subst hj2; simp [up1, up1_self]
                simp [up1, hj0, hj1, hj2])]
          refine v_iinc ok 2 [(2, iv 1), (0, rf g 50), (1, rf g 2), (3, iv k)] dX1_join_83 rfl (by decide) rfl ?_
          refine v_goto (tgt := 10) ok dX1_join_86 (by decide) ?_
          refine v_iload_n ok 0 dX1_join_10 rfl rfl ?_
          refine v_aload_n ok 2 dX1_join_11 rfl rfl ?_
          refine v_get (T := TX6) (N := 3) (f0 := (M 2)) (v := iv (M 2 2)) ok mi_X1_join_6 (kd_lt (show kd 2 = 6 from rfl) (by decide)) rfl rfl (cellF_6 _ (by decide)) 2 (by decide) mk_X1_join_37 rfl rfl dX1_join_12 ?_
          refine v_icmp_ge (tgt := 89) ok (by decide) ⟨by omega, by omega⟩ dX1_join_15 (by decide) (fun c10 => ?_) (fun c10 => ?_)
          · skip
            have hmi : (M 2 2).toNat = 1 := by omega
            exact v_vret ok rt dX1_join_89 (⟨(fl ((M 3)) ((M 6)) 8), (otp ((M 5) 2) ((M 5) 3) (fl ((M 3)) ((M 6)) 8)), rfl, (by rw [hmi] <;> first | rfl | (funext j; by_cases hj0 : j = 53 <;> by_cases hj1 : j = 51 <;> by_cases hj2 : j = 52 <;> simp_all [up1]))⟩)
          · skip
            refine v_iload_n ok 0 dX1_join_18 rfl rfl ?_
            refine v_aload_n ok 2 dX1_join_19 rfl rfl ?_
            refine v_get (T := TX6) (N := 3) (f0 := (M 2)) (v := rf g 4) ok mi_X1_join_6 (kd_lt (show kd 2 = 6 from rfl) (by decide)) rfl rfl (cellF_6 _ (by decide)) 1 (by decide) mk_X1_join_43 rfl rfl dX1_join_20 ?_
            refine v_alen13 ok (by decide) dX1_join_23 ?_
            refine v_icmp_ge (tgt := 89) ok (by decide) (by decide) dX1_join_24 (by decide) (fun c11 => absurd c11 (by decide)) (fun c11 => ?_)
            refine v_aload_n ok 1 dX1_join_27 rfl rfl ?_
            refine v_aload_n ok 2 dX1_join_28 rfl rfl ?_
            refine v_get (T := TX6) (N := 3) (f0 := (M 2)) (v := rf g 4) ok mi_X1_join_6 (kd_lt (show kd 2 = 6 from rfl) (by decide)) rfl rfl (cellF_6 _ (by decide)) 1 (by decide) mk_X1_join_43 rfl rfl dX1_join_29 ?_
            refine v_iload_n ok 0 dX1_join_32 rfl rfl ?_
            refine v_aald13L (q := 7) ok (by decide) (by decide) rfl dX1_join_33 ?_
            refine v_aload_n ok 2 dX1_join_34 rfl rfl ?_
            refine v_get (T := TX6) (N := 3) (f0 := (M 2)) (v := rf g 3) ok mi_X1_join_6 (kd_lt (show kd 2 = 6 from rfl) (by decide)) rfl rfl (cellF_6 _ (by decide)) 0 (by decide) mk_X1_join_47 rfl rfl dX1_join_35 ?_
            refine v_callV (na := 2) (i := 50) (C := RX1) (T := TX1) (N := 3) (f0 := (M 50)) ok (ct_X1_runOff z.2.1 g (up1 (up1 (up1 M 53 (jnS M 2 1)) 51 (fl ((M 3)) ((M 6)) 8)) 52 (otp ((M 5) 2) ((M 5) 3) (fl ((M 3)) ((M 6)) 8))) 7 3 (by decide) (by decide) rfl (by show 0 ≤ (M 7) 2 ∧ (M 7) 2 ≤ 4; first | omega | assumption) (by show 0 ≤ (M 7) 3 ∧ (M 7) 3 ≤ 9; first | omega | assumption) hR (by assumption)) gX1_join_X1_runOff (kd_lt (show kd 50 = 1 from rfl) (by decide)) rfl rfl (cellF_1 _ (by decide)) rfl (by decide +kernel) rfl (by decide) [] rfl (Nat.le_of_ble_eq_true rfl) dX1_join_38 (fun v13 M14 hp12 => ?_)
            obtain ⟨rfl, rfl⟩ := hp12
            show V z g 4 (up1 (up1 (up1 (up1 (up1 M 53 (jnS M 2 1)) 51 (fl ((M 3)) ((M 6)) 8)) 52 (otp ((M 5) 2) ((M 5) 3) (fl ((M 3)) ((M 6)) 8))) 51 (fl ((M 3)) ((M 8)) 8)) 52 (otp ((M 7) 2) ((M 7) 3) (fl ((M 3)) ((M 8)) 8))) [(2, iv 1), (0, rf g 50), (1, rf g 2), (3, iv k)] [iv (sto ((M 7) 2) ((M 7) 3) (fl ((M 3)) ((M 8)) 8) 30)] 41
            rw [show ((up1 (up1 (up1 (up1 (up1 M 53 (jnS M 2 1)) 51 (fl ((M 3)) ((M 6)) 8)) 52 (otp ((M 5) 2) ((M 5) 3) (fl ((M 3)) ((M 6)) 8))) 51 (fl ((M 3)) ((M 8)) 8)) 52 (otp ((M 7) 2) ((M 7) 3) (fl ((M 3)) ((M 8)) 8))) : Mem) = (up1 (up1 (up1 M 53 (jnS M 2 1)) 51 (fl ((M 3)) ((M 8)) 8)) 52 (otp ((M 7) 2) ((M 7) 3) (fl ((M 3)) ((M 8)) 8))) from (by
                  funext j
                  by_cases hj0 : j = 53
                  · subst hj0; simp [up1, up1_self]
                  by_cases hj1 : j = 51
                  · subst hj1; simp [up1, up1_self]
                  by_cases hj2 : j = 52
                  · subst hj2; simp [up1, up1_self]
                  simp [up1, hj0, hj1, hj2])]
            refine v_pop ok rfl dX1_join_41 ?_
            refine v_iconst (n := 0) ok dX1_join_42 ?_
            refine v_istore_n ok [(3, iv 0), (2, iv 1), (0, rf g 50), (1, rf g 2)] dX1_join_43 rfl (by decide) rfl ?_
            have lp44x : ∀ (fu : Nat) (k : Int) (J : Int → Int), (0 ≤ k ∧ k ≤ 30) → (∀ j : Int, 0 ≤ j → j < 30 → J j = if j < k then (jnS M 2 1) j + (otp ((M 7) 2) ((M 7) 3) (fl ((M 3)) ((M 8)) 8)) j else (jnS M 2 1) j) → (30 - k).toNat < fu → V z g 4 (up1 (up1 (up1 M 53 J) 51 (fl ((M 3)) ((M 8)) 8)) 52 (otp ((M 7) 2) ((M 7) 3) (fl ((M 3)) ((M 8)) 8))) [(0, rf g 50), (1, rf g 2), (2, iv 1), (3, iv k)] [] 44 := by
              intro fu
              induction fu with
              | zero => intro k J _ _ hm; exact absurd hm (Nat.not_lt_zero _)
              | succ fu ih44 =>
                intro k J i44_0 i44_1 hm44
                refine v_iload_n ok 3 dX1_join_44 rfl rfl ?_
                refine v_aload_n ok 0 dX1_join_45 rfl rfl ?_
                refine v_get (T := TX1) (N := 3) (f0 := (M 50)) (v := rf g 53) ok mi_X1_join_1 (kd_lt (show kd 50 = 1 from rfl) (by decide)) rfl rfl (cellF_1 _ (by decide)) 2 (by decide) mk_X1_join_18 rfl rfl dX1_join_46 ?_
                refine v_alen (n := 30) ok (Or.inl (by decide)) rfl dX1_join_49 ?_
                refine v_icmp_ge (tgt := 83) ok ⟨by omega, by omega⟩ (by decide) dX1_join_50 (by decide) (fun c15 => ?_) (fun c15 => ?_)
                · skip
                  rw [show ((up1 (up1 (up1 M 53 J) 51 (fl ((M 3)) ((M 8)) 8)) 52 (otp ((M 7) 2) ((M 7) 3) (fl ((M 3)) ((M 8)) 8))) : Mem) = (up1 (up1 (up1 M 51 (fl ((M 3)) ((M 8)) 8)) 52 (otp ((M 7) 2) ((M 7) 3) (fl ((M 3)) ((M 8)) 8))) 53 J) from (by
                        funext j
                        by_cases hj0 : j = 53
                        · subst hj0; simp [up1, up1_self]
                        by_cases hj1 : j = 51
                        · subst hj1; simp [up1, up1_self]
                        by_cases hj2 : j = 52
                        · subst hj2; simp [up1, up1_self]
                        simp [up1, hj0, hj1, hj2])]
                  refine v_cong (n := 30) (jnS M 2 2) (Or.inl (by decide)) rfl (fun j j0 j1 => by rw [i44_1 j j0 j1, if_pos (by omega)]; rfl) ?_
                  rw [show ((up1 (up1 (up1 M 51 (fl ((M 3)) ((M 8)) 8)) 52 (otp ((M 7) 2) ((M 7) 3) (fl ((M 3)) ((M 8)) 8))) 53 (jnS M 2 2)) : Mem) = (up1 (up1 (up1 M 53 (jnS M 2 2)) 51 (fl ((M 3)) ((M 8)) 8)) 52 (otp ((M 7) 2) ((M 7) 3) (fl ((M 3)) ((M 8)) 8))) from (by
                        funext j
                        by_cases hj0 : j = 53
                        · subst hj0; simp [up1, up1_self]
                        by_cases hj1 : j = 51
                        · subst hj1; simp [up1, up1_self]
                        by_cases hj2 : j = 52
                        · subst hj2; simp [up1, up1_self]
                        simp [up1, hj0, hj1, hj2])]
                  refine v_iinc ok 2 [(2, iv 2), (0, rf g 50), (1, rf g 2), (3, iv k)] dX1_join_83 rfl (by decide) rfl ?_
                  refine v_goto (tgt := 10) ok dX1_join_86 (by decide) ?_
                  refine v_iload_n ok 0 dX1_join_10 rfl rfl ?_
                  refine v_aload_n ok 2 dX1_join_11 rfl rfl ?_
                  refine v_get (T := TX6) (N := 3) (f0 := (M 2)) (v := iv (M 2 2)) ok mi_X1_join_6 (kd_lt (show kd 2 = 6 from rfl) (by decide)) rfl rfl (cellF_6 _ (by decide)) 2 (by decide) mk_X1_join_37 rfl rfl dX1_join_12 ?_
                  refine v_icmp_ge (tgt := 89) ok (by decide) ⟨by omega, by omega⟩ dX1_join_15 (by decide) (fun c16 => ?_) (fun c16 => ?_)
                  · skip
                    have hmi : (M 2 2).toNat = 2 := by omega
                    exact v_vret ok rt dX1_join_89 (⟨(fl ((M 3)) ((M 8)) 8), (otp ((M 7) 2) ((M 7) 3) (fl ((M 3)) ((M 8)) 8)), rfl, (by rw [hmi] <;> first | rfl | (funext j; by_cases hj0 : j = 53 <;> by_cases hj1 : j = 51 <;> by_cases hj2 : j = 52 <;> simp_all [up1]))⟩)
                  · skip
                    refine v_iload_n ok 0 dX1_join_18 rfl rfl ?_
                    refine v_aload_n ok 2 dX1_join_19 rfl rfl ?_
                    refine v_get (T := TX6) (N := 3) (f0 := (M 2)) (v := rf g 4) ok mi_X1_join_6 (kd_lt (show kd 2 = 6 from rfl) (by decide)) rfl rfl (cellF_6 _ (by decide)) 1 (by decide) mk_X1_join_43 rfl rfl dX1_join_20 ?_
                    refine v_alen13 ok (by decide) dX1_join_23 ?_
                    refine v_icmp_ge (tgt := 89) ok (by decide) (by decide) dX1_join_24 (by decide) (fun c17 => absurd c17 (by decide)) (fun c17 => ?_)
                    refine v_aload_n ok 1 dX1_join_27 rfl rfl ?_
                    refine v_aload_n ok 2 dX1_join_28 rfl rfl ?_
                    refine v_get (T := TX6) (N := 3) (f0 := (M 2)) (v := rf g 4) ok mi_X1_join_6 (kd_lt (show kd 2 = 6 from rfl) (by decide)) rfl rfl (cellF_6 _ (by decide)) 1 (by decide) mk_X1_join_43 rfl rfl dX1_join_29 ?_
                    refine v_iload_n ok 0 dX1_join_32 rfl rfl ?_
                    refine v_aald13L (q := 9) ok (by decide) (by decide) rfl dX1_join_33 ?_
                    refine v_aload_n ok 2 dX1_join_34 rfl rfl ?_
                    refine v_get (T := TX6) (N := 3) (f0 := (M 2)) (v := rf g 3) ok mi_X1_join_6 (kd_lt (show kd 2 = 6 from rfl) (by decide)) rfl rfl (cellF_6 _ (by decide)) 0 (by decide) mk_X1_join_47 rfl rfl dX1_join_35 ?_
                    refine v_callV (na := 2) (i := 50) (C := RX1) (T := TX1) (N := 3) (f0 := (M 50)) ok (ct_X1_runOff z.2.1 g (up1 (up1 (up1 M 53 (jnS M 2 2)) 51 (fl ((M 3)) ((M 8)) 8)) 52 (otp ((M 7) 2) ((M 7) 3) (fl ((M 3)) ((M 8)) 8))) 9 3 (by decide) (by decide) rfl (by show 0 ≤ (M 9) 2 ∧ (M 9) 2 ≤ 4; first | omega | assumption) (by show 0 ≤ (M 9) 3 ∧ (M 9) 3 ≤ 9; first | omega | assumption) hR (by assumption)) gX1_join_X1_runOff (kd_lt (show kd 50 = 1 from rfl) (by decide)) rfl rfl (cellF_1 _ (by decide)) rfl (by decide +kernel) rfl (by decide) [] rfl (Nat.le_of_ble_eq_true rfl) dX1_join_38 (fun v19 M20 hp18 => ?_)
                    obtain ⟨rfl, rfl⟩ := hp18
                    show V z g 4 (up1 (up1 (up1 (up1 (up1 M 53 (jnS M 2 2)) 51 (fl ((M 3)) ((M 8)) 8)) 52 (otp ((M 7) 2) ((M 7) 3) (fl ((M 3)) ((M 8)) 8))) 51 (fl ((M 3)) ((M 10)) 8)) 52 (otp ((M 9) 2) ((M 9) 3) (fl ((M 3)) ((M 10)) 8))) [(2, iv 2), (0, rf g 50), (1, rf g 2), (3, iv k)] [iv (sto ((M 9) 2) ((M 9) 3) (fl ((M 3)) ((M 10)) 8) 30)] 41
                    rw [show ((up1 (up1 (up1 (up1 (up1 M 53 (jnS M 2 2)) 51 (fl ((M 3)) ((M 8)) 8)) 52 (otp ((M 7) 2) ((M 7) 3) (fl ((M 3)) ((M 8)) 8))) 51 (fl ((M 3)) ((M 10)) 8)) 52 (otp ((M 9) 2) ((M 9) 3) (fl ((M 3)) ((M 10)) 8))) : Mem) = (up1 (up1 (up1 M 53 (jnS M 2 2)) 51 (fl ((M 3)) ((M 10)) 8)) 52 (otp ((M 9) 2) ((M 9) 3) (fl ((M 3)) ((M 10)) 8))) from (by
                          funext j
                          by_cases hj0 : j = 53
                          · subst hj0; simp [up1, up1_self]
                          by_cases hj1 : j = 51
                          · subst hj1; simp [up1, up1_self]
                          by_cases hj2 : j = 52
                          · subst hj2; simp [up1, up1_self]
                          simp [up1, hj0, hj1, hj2])]
                    refine v_pop ok rfl dX1_join_41 ?_
                    refine v_iconst (n := 0) ok dX1_join_42 ?_
                    refine v_istore_n ok [(3, iv 0), (2, iv 2), (0, rf g 50), (1, rf g 2)] dX1_join_43 rfl (by decide) rfl ?_
                    have lp44xx : ∀ (fu : Nat) (k : Int) (J : Int → Int), (0 ≤ k ∧ k ≤ 30) → (∀ j : Int, 0 ≤ j → j < 30 → J j = if j < k then (jnS M 2 2) j + (otp ((M 9) 2) ((M 9) 3) (fl ((M 3)) ((M 10)) 8)) j else (jnS M 2 2) j) → (30 - k).toNat < fu → V z g 4 (up1 (up1 (up1 M 53 J) 51 (fl ((M 3)) ((M 10)) 8)) 52 (otp ((M 9) 2) ((M 9) 3) (fl ((M 3)) ((M 10)) 8))) [(0, rf g 50), (1, rf g 2), (2, iv 2), (3, iv k)] [] 44 := by
                      intro fu
                      induction fu with
                      | zero => intro k J _ _ hm; exact absurd hm (Nat.not_lt_zero _)
                      | succ fu ih44 =>
                        intro k J i44_0 i44_1 hm44
                        refine v_iload_n ok 3 dX1_join_44 rfl rfl ?_
                        refine v_aload_n ok 0 dX1_join_45 rfl rfl ?_
                        refine v_get (T := TX1) (N := 3) (f0 := (M 50)) (v := rf g 53) ok mi_X1_join_1 (kd_lt (show kd 50 = 1 from rfl) (by decide)) rfl rfl (cellF_1 _ (by decide)) 2 (by decide) mk_X1_join_18 rfl rfl dX1_join_46 ?_
                        refine v_alen (n := 30) ok (Or.inl (by decide)) rfl dX1_join_49 ?_
                        refine v_icmp_ge (tgt := 83) ok ⟨by omega, by omega⟩ (by decide) dX1_join_50 (by decide) (fun c21 => ?_) (fun c21 => ?_)
                        · skip
                          rw [show ((up1 (up1 (up1 M 53 J) 51 (fl ((M 3)) ((M 10)) 8)) 52 (otp ((M 9) 2) ((M 9) 3) (fl ((M 3)) ((M 10)) 8))) : Mem) = (up1 (up1 (up1 M 51 (fl ((M 3)) ((M 10)) 8)) 52 (otp ((M 9) 2) ((M 9) 3) (fl ((M 3)) ((M 10)) 8))) 53 J) from (by
                                funext j
                                by_cases hj0 : j = 53
                                · subst hj0; simp [up1, up1_self]
                                by_cases hj1 : j = 51
                                · subst hj1; simp [up1, up1_self]
                                by_cases hj2 : j = 52
                                · subst hj2; simp [up1, up1_self]
                                simp [up1, hj0, hj1, hj2])]
                          refine v_cong (n := 30) (jnS M 2 3) (Or.inl (by decide)) rfl (fun j j0 j1 => by rw [i44_1 j j0 j1, if_pos (by omega)]; rfl) ?_
                          rw [show ((up1 (up1 (up1 M 51 (fl ((M 3)) ((M 10)) 8)) 52 (otp ((M 9) 2) ((M 9) 3) (fl ((M 3)) ((M 10)) 8))) 53 (jnS M 2 3)) : Mem) = (up1 (up1 (up1 M 53 (jnS M 2 3)) 51 (fl ((M 3)) ((M 10)) 8)) 52 (otp ((M 9) 2) ((M 9) 3) (fl ((M 3)) ((M 10)) 8))) from (by
                                funext j
                                by_cases hj0 : j = 53
                                · subst hj0; simp [up1, up1_self]
                                by_cases hj1 : j = 51
                                · subst hj1; simp [up1, up1_self]
                                by_cases hj2 : j = 52
                                · subst hj2; simp [up1, up1_self]
                                simp [up1, hj0, hj1, hj2])]
                          refine v_iinc ok 2 [(2, iv 3), (0, rf g 50), (1, rf g 2), (3, iv k)] dX1_join_83 rfl (by decide) rfl ?_
                          refine v_goto (tgt := 10) ok dX1_join_86 (by decide) ?_
                          refine v_iload_n ok 0 dX1_join_10 rfl rfl ?_
                          refine v_aload_n ok 2 dX1_join_11 rfl rfl ?_
                          refine v_get (T := TX6) (N := 3) (f0 := (M 2)) (v := iv (M 2 2)) ok mi_X1_join_6 (kd_lt (show kd 2 = 6 from rfl) (by decide)) rfl rfl (cellF_6 _ (by decide)) 2 (by decide) mk_X1_join_37 rfl rfl dX1_join_12 ?_
                          refine v_icmp_ge (tgt := 89) ok (by decide) ⟨by omega, by omega⟩ dX1_join_15 (by decide) (fun c22 => ?_) (fun c22 => absurd c22 (by omega))
                          have hmi : (M 2 2).toNat = 3 := by omega
                          exact v_vret ok rt dX1_join_89 (⟨(fl ((M 3)) ((M 10)) 8), (otp ((M 9) 2) ((M 9) 3) (fl ((M 3)) ((M 10)) 8)), rfl, (by rw [hmi] <;> first | rfl | (funext j; by_cases hj0 : j = 53 <;> by_cases hj1 : j = 51 <;> by_cases hj2 : j = 52 <;> simp_all [up1]))⟩)
                        · skip
                          refine v_iload_n ok 3 dX1_join_53 rfl rfl ?_
                          refine v_aload_n ok 0 dX1_join_54 rfl rfl ?_
                          refine v_get (T := TX1) (N := 3) (f0 := (M 50)) (v := rf g 52) ok mi_X1_join_1 (kd_lt (show kd 50 = 1 from rfl) (by decide)) rfl rfl (cellF_1 _ (by decide)) 1 (by decide) mk_X1_join_15 rfl rfl dX1_join_55 ?_
                          refine v_alen (n := 30) ok (Or.inl (by decide)) rfl dX1_join_58 ?_
                          refine v_icmp_ge (tgt := 83) ok ⟨by omega, by omega⟩ (by decide) dX1_join_59 (by decide) (fun c23 => absurd c23 (by omega)) (fun c23 => ?_)
                          refine v_aload_n ok 0 dX1_join_62 rfl rfl ?_
                          refine v_get (T := TX1) (N := 3) (f0 := (M 50)) (v := rf g 53) ok mi_X1_join_1 (kd_lt (show kd 50 = 1 from rfl) (by decide)) rfl rfl (cellF_1 _ (by decide)) 2 (by decide) mk_X1_join_18 rfl rfl dX1_join_63 ?_
                          refine v_iload_n ok 3 dX1_join_66 rfl rfl ?_
                          refine v_dup2 ok rfl rfl dX1_join_67 ?_
                          refine v_iald (n := 30) (f0 := J) ok (by decide) rfl (by omega) rfl dX1_join_68 ?_
                          refine v_aload_n ok 0 dX1_join_69 rfl rfl ?_
                          refine v_get (T := TX1) (N := 3) (f0 := (M 50)) (v := rf g 52) ok mi_X1_join_1 (kd_lt (show kd 50 = 1 from rfl) (by decide)) rfl rfl (cellF_1 _ (by decide)) 1 (by decide) mk_X1_join_15 rfl rfl dX1_join_70 ?_
                          refine v_iload_n ok 3 dX1_join_73 rfl rfl ?_
                          refine v_iald (n := 30) (f0 := (otp ((M 9) 2) ((M 9) 3) (fl ((M 3)) ((M 10)) 8))) ok (by decide) rfl (by omega) rfl dX1_join_74 ?_
                          refine v_iadd ok dX1_join_75 ?_
                          refine v_iast (n := 30) (f0 := J) ok (by decide) rfl (by omega) rfl dX1_join_76 ?_
                          rw [show (up1 (up1 (up1 (up1 M 53 J) 51 (fl ((M 3)) ((M 10)) 8)) 52 (otp ((M 9) 2) ((M 9) 3) (fl ((M 3)) ((M 10)) 8))) 53 (up J k ((J k) + ((otp ((M 9) 2) ((M 9) 3) (fl ((M 3)) ((M 10)) 8)) k))) : Mem) = (up1 (up1 (up1 M 53 (up J k ((J k) + ((otp ((M 9) 2) ((M 9) 3) (fl ((M 3)) ((M 10)) 8)) k)))) 51 (fl ((M 3)) ((M 10)) 8)) 52 (otp ((M 9) 2) ((M 9) 3) (fl ((M 3)) ((M 10)) 8))) from (by
                                funext j
                                by_cases hj0 : j = 53
                                · subst hj0; simp [up1, up1_self]
                                by_cases hj1 : j = 51
                                · subst hj1; simp [up1, up1_self]
                                by_cases hj2 : j = 52
                                · subst hj2; simp [up1, up1_self]
                                simp [up1, hj0, hj1, hj2])]
                          refine v_iinc ok 3 [(3, iv (k + 1)), (0, rf g 50), (1, rf g 2), (2, iv 2)] dX1_join_77 rfl (by decide) rfl ?_
                          refine v_goto (tgt := 44) ok dX1_join_80 (by decide) ?_
                          refine v_lv (ls' := [(0, rf g 50), (1, rf g 2), (2, iv 2), (3, iv (k + 1))]) ok [1, 2, 3, 0] rfl ?_
                          exact ih44 (k + 1) (up J k ((J k) + ((otp ((M 9) 2) ((M 9) 3) (fl ((M 3)) ((M 10)) 8)) k))) (by omega) (fun j j0 j1 => by
                              by_cases e : j = k
                              · rw [e, up_same, if_pos (by omega), i44_1 k (by omega) (by omega), if_neg (by omega)]
                              · rw [up_ne e, i44_1 j j0 j1]
                                by_cases c : j < k
                                · rw [if_pos c, if_pos (by omega)]
                                · rw [if_neg c, if_neg (by omega)]) (by omega)
                    refine v_lv (ls' := [(0, rf g 50), (1, rf g 2), (2, iv 2), (3, iv 0)]) ok [2, 3, 1, 0] rfl ?_
                    exact lp44xx _ 0 (jnS M 2 2) (by omega) (fun j j0 j1 => by rw [if_neg (by omega)]) (Nat.lt_succ_self _)
                · skip
                  refine v_iload_n ok 3 dX1_join_53 rfl rfl ?_
                  refine v_aload_n ok 0 dX1_join_54 rfl rfl ?_
                  refine v_get (T := TX1) (N := 3) (f0 := (M 50)) (v := rf g 52) ok mi_X1_join_1 (kd_lt (show kd 50 = 1 from rfl) (by decide)) rfl rfl (cellF_1 _ (by decide)) 1 (by decide) mk_X1_join_15 rfl rfl dX1_join_55 ?_
                  refine v_alen (n := 30) ok (Or.inl (by decide)) rfl dX1_join_58 ?_
                  refine v_icmp_ge (tgt := 83) ok ⟨by omega, by omega⟩ (by decide) dX1_join_59 (by decide) (fun c24 => absurd c24 (by omega)) (fun c24 => ?_)
                  refine v_aload_n ok 0 dX1_join_62 rfl rfl ?_
                  refine v_get (T := TX1) (N := 3) (f0 := (M 50)) (v := rf g 53) ok mi_X1_join_1 (kd_lt (show kd 50 = 1 from rfl) (by decide)) rfl rfl (cellF_1 _ (by decide)) 2 (by decide) mk_X1_join_18 rfl rfl dX1_join_63 ?_
                  refine v_iload_n ok 3 dX1_join_66 rfl rfl ?_
                  refine v_dup2 ok rfl rfl dX1_join_67 ?_
                  refine v_iald (n := 30) (f0 := J) ok (by decide) rfl (by omega) rfl dX1_join_68 ?_
                  refine v_aload_n ok 0 dX1_join_69 rfl rfl ?_
                  refine v_get (T := TX1) (N := 3) (f0 := (M 50)) (v := rf g 52) ok mi_X1_join_1 (kd_lt (show kd 50 = 1 from rfl) (by decide)) rfl rfl (cellF_1 _ (by decide)) 1 (by decide) mk_X1_join_15 rfl rfl dX1_join_70 ?_
                  refine v_iload_n ok 3 dX1_join_73 rfl rfl ?_
                  refine v_iald (n := 30) (f0 := (otp ((M 7) 2) ((M 7) 3) (fl ((M 3)) ((M 8)) 8))) ok (by decide) rfl (by omega) rfl dX1_join_74 ?_
                  refine v_iadd ok dX1_join_75 ?_
                  refine v_iast (n := 30) (f0 := J) ok (by decide) rfl (by omega) rfl dX1_join_76 ?_
                  rw [show (up1 (up1 (up1 (up1 M 53 J) 51 (fl ((M 3)) ((M 8)) 8)) 52 (otp ((M 7) 2) ((M 7) 3) (fl ((M 3)) ((M 8)) 8))) 53 (up J k ((J k) + ((otp ((M 7) 2) ((M 7) 3) (fl ((M 3)) ((M 8)) 8)) k))) : Mem) = (up1 (up1 (up1 M 53 (up J k ((J k) + ((otp ((M 7) 2) ((M 7) 3) (fl ((M 3)) ((M 8)) 8)) k)))) 51 (fl ((M 3)) ((M 8)) 8)) 52 (otp ((M 7) 2) ((M 7) 3) (fl ((M 3)) ((M 8)) 8))) from (by
                        funext j
                        by_cases hj0 : j = 53
                        · subst hj0; simp [up1, up1_self]
                        by_cases hj1 : j = 51
                        · subst hj1; simp [up1, up1_self]
                        by_cases hj2 : j = 52
                        · subst hj2; simp [up1, up1_self]
                        simp [up1, hj0, hj1, hj2])]
                  refine v_iinc ok 3 [(3, iv (k + 1)), (0, rf g 50), (1, rf g 2), (2, iv 1)] dX1_join_77 rfl (by decide) rfl ?_
                  refine v_goto (tgt := 44) ok dX1_join_80 (by decide) ?_
                  refine v_lv (ls' := [(0, rf g 50), (1, rf g 2), (2, iv 1), (3, iv (k + 1))]) ok [1, 2, 3, 0] rfl ?_
                  exact ih44 (k + 1) (up J k ((J k) + ((otp ((M 7) 2) ((M 7) 3) (fl ((M 3)) ((M 8)) 8)) k))) (by omega) (fun j j0 j1 => by
                      by_cases e : j = k
                      · rw [e, up_same, if_pos (by omega), i44_1 k (by omega) (by omega), if_neg (by omega)]
                      · rw [up_ne e, i44_1 j j0 j1]
                        by_cases c : j < k
                        · rw [if_pos c, if_pos (by omega)]
                        · rw [if_neg c, if_neg (by omega)]) (by omega)
            refine v_lv (ls' := [(0, rf g 50), (1, rf g 2), (2, iv 1), (3, iv 0)]) ok [2, 3, 1, 0] rfl ?_
            exact lp44x _ 0 (jnS M 2 1) (by omega) (fun j j0 j1 => by rw [if_neg (by omega)]) (Nat.lt_succ_self _)
        · skip
          refine v_iload_n ok 3 dX1_join_53 rfl rfl ?_
          refine v_aload_n ok 0 dX1_join_54 rfl rfl ?_
          refine v_get (T := TX1) (N := 3) (f0 := (M 50)) (v := rf g 52) ok mi_X1_join_1 (kd_lt (show kd 50 = 1 from rfl) (by decide)) rfl rfl (cellF_1 _ (by decide)) 1 (by decide) mk_X1_join_15 rfl rfl dX1_join_55 ?_
          refine v_alen (n := 30) ok (Or.inl (by decide)) rfl dX1_join_58 ?_
          refine v_icmp_ge (tgt := 83) ok ⟨by omega, by omega⟩ (by decide) dX1_join_59 (by decide) (fun c25 => absurd c25 (by omega)) (fun c25 => ?_)
          refine v_aload_n ok 0 dX1_join_62 rfl rfl ?_
          refine v_get (T := TX1) (N := 3) (f0 := (M 50)) (v := rf g 53) ok mi_X1_join_1 (kd_lt (show kd 50 = 1 from rfl) (by decide)) rfl rfl (cellF_1 _ (by decide)) 2 (by decide) mk_X1_join_18 rfl rfl dX1_join_63 ?_
          refine v_iload_n ok 3 dX1_join_66 rfl rfl ?_
          refine v_dup2 ok rfl rfl dX1_join_67 ?_
          refine v_iald (n := 30) (f0 := J) ok (by decide) rfl (by omega) rfl dX1_join_68 ?_
          refine v_aload_n ok 0 dX1_join_69 rfl rfl ?_
          refine v_get (T := TX1) (N := 3) (f0 := (M 50)) (v := rf g 52) ok mi_X1_join_1 (kd_lt (show kd 50 = 1 from rfl) (by decide)) rfl rfl (cellF_1 _ (by decide)) 1 (by decide) mk_X1_join_15 rfl rfl dX1_join_70 ?_
          refine v_iload_n ok 3 dX1_join_73 rfl rfl ?_
          refine v_iald (n := 30) (f0 := (otp ((M 5) 2) ((M 5) 3) (fl ((M 3)) ((M 6)) 8))) ok (by decide) rfl (by omega) rfl dX1_join_74 ?_
          refine v_iadd ok dX1_join_75 ?_
          refine v_iast (n := 30) (f0 := J) ok (by decide) rfl (by omega) rfl dX1_join_76 ?_
          rw [show (up1 (up1 (up1 (up1 M 53 J) 51 (fl ((M 3)) ((M 6)) 8)) 52 (otp ((M 5) 2) ((M 5) 3) (fl ((M 3)) ((M 6)) 8))) 53 (up J k ((J k) + ((otp ((M 5) 2) ((M 5) 3) (fl ((M 3)) ((M 6)) 8)) k))) : Mem) = (up1 (up1 (up1 M 53 (up J k ((J k) + ((otp ((M 5) 2) ((M 5) 3) (fl ((M 3)) ((M 6)) 8)) k)))) 51 (fl ((M 3)) ((M 6)) 8)) 52 (otp ((M 5) 2) ((M 5) 3) (fl ((M 3)) ((M 6)) 8))) from (by
                funext j
                by_cases hj0 : j = 53
                · subst hj0; simp [up1, up1_self]
                by_cases hj1 : j = 51
                · subst hj1; simp [up1, up1_self]
                by_cases hj2 : j = 52
                · subst hj2; simp [up1, up1_self]
                simp [up1, hj0, hj1, hj2])]
          refine v_iinc ok 3 [(3, iv (k + 1)), (0, rf g 50), (1, rf g 2), (2, iv 0)] dX1_join_77 rfl (by decide) rfl ?_
          refine v_goto (tgt := 44) ok dX1_join_80 (by decide) ?_
          refine v_lv (ls' := [(0, rf g 50), (1, rf g 2), (2, iv 0), (3, iv (k + 1))]) ok [1, 2, 3, 0] rfl ?_
          exact ih44 (k + 1) (up J k ((J k) + ((otp ((M 5) 2) ((M 5) 3) (fl ((M 3)) ((M 6)) 8)) k))) (by omega) (fun j j0 j1 => by
              by_cases e : j = k
              · rw [e, up_same, if_pos (by omega), i44_1 k (by omega) (by omega), if_neg (by omega)]
              · rw [up_ne e, i44_1 j j0 j1]
                by_cases c : j < k
                · rw [if_pos c, if_pos (by omega)]
                · rw [if_neg c, if_neg (by omega)]) (by omega)
    refine v_lv (ls' := [(0, rf g 50), (1, rf g 2), (2, iv 0), (3, iv 0)]) ok [2, 3, 1, 0] rfl ?_
    exact lp44 _ 0 (jnS M 2 0) (by omega) (fun j j0 j1 => by rw [if_neg (by omega)]) (Nat.lt_succ_self _)

set_option maxRecDepth 100000 in
set_option maxHeartbeats 400000 in
theorem ct_X1_join_41 (l : Launch) (g : Gl) (M : Mem)  (hs : SiteOk M 41) : Ct l g yX1_join wsX1_join 4 88 [rf g 50, rf g 41] M (fun rv M' => ∃ (F O : Int → Int), rv = none ∧ M' = (up1 (up1 (up1 M 53 (jnS M 41 (M 41 2).toNat)) 51 F) 52 O)) := by
  refine Ct.of (cc := cX1_join) (nL := 4) (ret := none) (by decide) rfl (Nat.le_of_ble_eq_true rfl) (fun z hz ok rt => ?_)
  have ok : Ok z g cX1_join 4 RX1 wsX1_join 4 88 := ok
  show V z g 4 M [(0, rf g 50), (1, rf g 41)] [] 0
  have hR : bdf (M 42) 8 0 20 := hs.1
  have hm : 0 ≤ M 41 2 ∧ M 41 2 ≤ 3 := hs.2.1
  have hA0 : bdf (M 45) 5 0 9 := hs.2.2.1.1
  have hk0 : 0 ≤ M 44 2 ∧ M 44 2 ≤ 4 := hs.2.2.1.2.2.1
  have hn0 : 0 ≤ M 44 3 ∧ M 44 3 ≤ 9 := hs.2.2.1.2.2.2
  have hA1 : bdf (M 47) 5 0 9 := hs.2.2.2.1.1
  have hk1 : 0 ≤ M 46 2 ∧ M 46 2 ≤ 4 := hs.2.2.2.1.2.2.1
  have hn1 : 0 ≤ M 46 3 ∧ M 46 3 ≤ 9 := hs.2.2.2.1.2.2.2
  have hA2 : bdf (M 49) 5 0 9 := hs.2.2.2.2.1
  have hk2 : 0 ≤ M 48 2 ∧ M 48 2 ≤ 4 := hs.2.2.2.2.2.2.1
  have hn2 : 0 ≤ M 48 3 ∧ M 48 3 ≤ 9 := hs.2.2.2.2.2.2.2
  refine v_aload_n ok 0 dX1_join_0 rfl rfl ?_
  refine v_get (T := TX1) (N := 3) (f0 := (M 50)) (v := rf g 53) ok mi_X1_join_1 (kd_lt (show kd 50 = 1 from rfl) (by decide)) rfl rfl (cellF_1 _ (by decide)) 2 (by decide) mk_X1_join_18 rfl rfl dX1_join_1 ?_
  refine v_iconst (n := 0) ok dX1_join_4 ?_
  refine v_callS (na := 2) ok (ct_J7_fill_53178 z.2.1 g M 53 30 0 (by decide) rfl) gX1_join_J7_fill_53178 rfl (by decide +kernel) rfl (by decide) [] rfl (Nat.le_of_ble_eq_true rfl) dX1_join_5 (fun v2 M3 hp1 => ?_)
  obtain ⟨rfl, rfl⟩ := hp1
  show V z g 4 (up1 M 53 (fun _ => 0)) [(0, rf g 50), (1, rf g 41)] [] 8
  rw [show ((up1 M 53 (fun _ => 0)) : Mem) = (up1 M 53 (jnS M 41 0)) from rfl]
  refine v_iconst (n := 0) ok dX1_join_8 ?_
  refine v_istore_n ok [(2, iv 0), (0, rf g 50), (1, rf g 41)] dX1_join_9 rfl (by decide) rfl ?_
  refine v_iload_n ok 0 dX1_join_10 rfl rfl ?_
  refine v_aload_n ok 2 dX1_join_11 rfl rfl ?_
  refine v_get (T := TX6) (N := 3) (f0 := (M 41)) (v := iv (M 41 2)) ok mi_X1_join_6 (kd_lt (show kd 41 = 6 from rfl) (by decide)) rfl rfl (cellF_6 _ (by decide)) 2 (by decide) mk_X1_join_37 rfl rfl dX1_join_12 ?_
  refine v_icmp_ge (tgt := 89) ok (by decide) ⟨by omega, by omega⟩ dX1_join_15 (by decide) (fun c4 => ?_) (fun c4 => ?_)
  · skip
    have hmi : (M 41 2).toNat = 0 := by omega
    exact v_vret ok rt dX1_join_89 (⟨(M 51), (M 52), rfl, (by rw [hmi] <;> first | rfl | (funext j; by_cases hj0 : j = 53 <;> by_cases hj1 : j = 51 <;> by_cases hj2 : j = 52 <;> simp_all [up1]))⟩)
  · skip
    refine v_iload_n ok 0 dX1_join_18 rfl rfl ?_
    refine v_aload_n ok 2 dX1_join_19 rfl rfl ?_
    refine v_get (T := TX6) (N := 3) (f0 := (M 41)) (v := rf g 43) ok mi_X1_join_6 (kd_lt (show kd 41 = 6 from rfl) (by decide)) rfl rfl (cellF_6 _ (by decide)) 1 (by decide) mk_X1_join_43 rfl rfl dX1_join_20 ?_
    refine v_alen13 ok (by decide) dX1_join_23 ?_
    refine v_icmp_ge (tgt := 89) ok (by decide) (by decide) dX1_join_24 (by decide) (fun c5 => absurd c5 (by decide)) (fun c5 => ?_)
    refine v_aload_n ok 1 dX1_join_27 rfl rfl ?_
    refine v_aload_n ok 2 dX1_join_28 rfl rfl ?_
    refine v_get (T := TX6) (N := 3) (f0 := (M 41)) (v := rf g 43) ok mi_X1_join_6 (kd_lt (show kd 41 = 6 from rfl) (by decide)) rfl rfl (cellF_6 _ (by decide)) 1 (by decide) mk_X1_join_43 rfl rfl dX1_join_29 ?_
    refine v_iload_n ok 0 dX1_join_32 rfl rfl ?_
    refine v_aald13L (q := 44) ok (by decide) (by decide) rfl dX1_join_33 ?_
    refine v_aload_n ok 2 dX1_join_34 rfl rfl ?_
    refine v_get (T := TX6) (N := 3) (f0 := (M 41)) (v := rf g 42) ok mi_X1_join_6 (kd_lt (show kd 41 = 6 from rfl) (by decide)) rfl rfl (cellF_6 _ (by decide)) 0 (by decide) mk_X1_join_47 rfl rfl dX1_join_35 ?_
    refine v_callV (na := 2) (i := 50) (C := RX1) (T := TX1) (N := 3) (f0 := (M 50)) ok (ct_X1_runOff z.2.1 g (up1 M 53 (jnS M 41 0)) 44 42 (by decide) (by decide) rfl (by show 0 ≤ (M 44) 2 ∧ (M 44) 2 ≤ 4; first | omega | assumption) (by show 0 ≤ (M 44) 3 ∧ (M 44) 3 ≤ 9; first | omega | assumption) hR (by assumption)) gX1_join_X1_runOff (kd_lt (show kd 50 = 1 from rfl) (by decide)) rfl rfl (cellF_1 _ (by decide)) rfl (by decide +kernel) rfl (by decide) [] rfl (Nat.le_of_ble_eq_true rfl) dX1_join_38 (fun v7 M8 hp6 => ?_)
    obtain ⟨rfl, rfl⟩ := hp6
    show V z g 4 (up1 (up1 (up1 M 53 (jnS M 41 0)) 51 (fl ((M 42)) ((M 45)) 8)) 52 (otp ((M 44) 2) ((M 44) 3) (fl ((M 42)) ((M 45)) 8))) [(2, iv 0), (0, rf g 50), (1, rf g 41)] [iv (sto ((M 44) 2) ((M 44) 3) (fl ((M 42)) ((M 45)) 8) 30)] 41
    refine v_pop ok rfl dX1_join_41 ?_
    refine v_iconst (n := 0) ok dX1_join_42 ?_
    refine v_istore_n ok [(3, iv 0), (2, iv 0), (0, rf g 50), (1, rf g 41)] dX1_join_43 rfl (by decide) rfl ?_
    have lp44 : ∀ (fu : Nat) (k : Int) (J : Int → Int), (0 ≤ k ∧ k ≤ 30) → (∀ j : Int, 0 ≤ j → j < 30 → J j = if j < k then (jnS M 41 0) j + (otp ((M 44) 2) ((M 44) 3) (fl ((M 42)) ((M 45)) 8)) j else (jnS M 41 0) j) → (30 - k).toNat < fu → V z g 4 (up1 (up1 (up1 M 53 J) 51 (fl ((M 42)) ((M 45)) 8)) 52 (otp ((M 44) 2) ((M 44) 3) (fl ((M 42)) ((M 45)) 8))) [(0, rf g 50), (1, rf g 41), (2, iv 0), (3, iv k)] [] 44 := by
      intro fu
      induction fu with
      | zero => intro k J _ _ hm; exact absurd hm (Nat.not_lt_zero _)
      | succ fu ih44 =>
        intro k J i44_0 i44_1 hm44
        refine v_iload_n ok 3 dX1_join_44 rfl rfl ?_
        refine v_aload_n ok 0 dX1_join_45 rfl rfl ?_
        refine v_get (T := TX1) (N := 3) (f0 := (M 50)) (v := rf g 53) ok mi_X1_join_1 (kd_lt (show kd 50 = 1 from rfl) (by decide)) rfl rfl (cellF_1 _ (by decide)) 2 (by decide) mk_X1_join_18 rfl rfl dX1_join_46 ?_
        refine v_alen (n := 30) ok (Or.inl (by decide)) rfl dX1_join_49 ?_
        refine v_icmp_ge (tgt := 83) ok ⟨by omega, by omega⟩ (by decide) dX1_join_50 (by decide) (fun c9 => ?_) (fun c9 => ?_)
        · skip
          rw [show ((up1 (up1 (up1 M 53 J) 51 (fl ((M 42)) ((M 45)) 8)) 52 (otp ((M 44) 2) ((M 44) 3) (fl ((M 42)) ((M 45)) 8))) : Mem) = (up1 (up1 (up1 M 51 (fl ((M 42)) ((M 45)) 8)) 52 (otp ((M 44) 2) ((M 44) 3) (fl ((M 42)) ((M 45)) 8))) 53 J) from (by
                funext j
                by_cases hj0 : j = 53
                · subst hj0; simp [up1, up1_self]
                by_cases hj1 : j = 51
                · subst hj1; simp [up1, up1_self]
                by_cases hj2 : j = 52
                · subst hj2; simp [up1, up1_self]
                simp [up1, hj0, hj1, hj2])]
          refine v_cong (n := 30) (jnS M 41 1) (Or.inl (by decide)) rfl (fun j j0 j1 => by rw [i44_1 j j0 j1, if_pos (by omega)]; rfl) ?_
          rw [show ((up1 (up1 (up1 M 51 (fl ((M 42)) ((M 45)) 8)) 52 (otp ((M 44) 2) ((M 44) 3) (fl ((M 42)) ((M 45)) 8))) 53 (jnS M 41 1)) : Mem) = (up1 (up1 (up1 M 53 (jnS M 41 1)) 51 (fl ((M 42)) ((M 45)) 8)) 52 (otp ((M 44) 2) ((M 44) 3) (fl ((M 42)) ((M 45)) 8))) from (by
                funext j
                by_cases hj0 : j = 53
                · subst hj0; simp [up1, up1_self]
                by_cases hj1 : j = 51
                · subst hj1; simp [up1, up1_self]
                by_cases hj2 : j = 52
                · subst hj2; simp [up1, up1_self]
                simp [up1, hj0, hj1, hj2])]
          refine v_iinc ok 2 [(2, iv 1), (0, rf g 50), (1, rf g 41), (3, iv k)] dX1_join_83 rfl (by decide) rfl ?_
          refine v_goto (tgt := 10) ok dX1_join_86 (by decide) ?_
          refine v_iload_n ok 0 dX1_join_10 rfl rfl ?_
          refine v_aload_n ok 2 dX1_join_11 rfl rfl ?_
          refine v_get (T := TX6) (N := 3) (f0 := (M 41)) (v := iv (M 41 2)) ok mi_X1_join_6 (kd_lt (show kd 41 = 6 from rfl) (by decide)) rfl rfl (cellF_6 _ (by decide)) 2 (by decide) mk_X1_join_37 rfl rfl dX1_join_12 ?_
          refine v_icmp_ge (tgt := 89) ok (by decide) ⟨by omega, by omega⟩ dX1_join_15 (by decide) (fun c10 => ?_) (fun c10 => ?_)
          · skip
            have hmi : (M 41 2).toNat = 1 := by omega
            exact v_vret ok rt dX1_join_89 (⟨(fl ((M 42)) ((M 45)) 8), (otp ((M 44) 2) ((M 44) 3) (fl ((M 42)) ((M 45)) 8)), rfl, (by rw [hmi] <;> first | rfl | (funext j; by_cases hj0 : j = 53 <;> by_cases hj1 : j = 51 <;> by_cases hj2 : j = 52 <;> simp_all [up1]))⟩)
          · skip
            refine v_iload_n ok 0 dX1_join_18 rfl rfl ?_
            refine v_aload_n ok 2 dX1_join_19 rfl rfl ?_
            refine v_get (T := TX6) (N := 3) (f0 := (M 41)) (v := rf g 43) ok mi_X1_join_6 (kd_lt (show kd 41 = 6 from rfl) (by decide)) rfl rfl (cellF_6 _ (by decide)) 1 (by decide) mk_X1_join_43 rfl rfl dX1_join_20 ?_
            refine v_alen13 ok (by decide) dX1_join_23 ?_
            refine v_icmp_ge (tgt := 89) ok (by decide) (by decide) dX1_join_24 (by decide) (fun c11 => absurd c11 (by decide)) (fun c11 => ?_)
            refine v_aload_n ok 1 dX1_join_27 rfl rfl ?_
            refine v_aload_n ok 2 dX1_join_28 rfl rfl ?_
            refine v_get (T := TX6) (N := 3) (f0 := (M 41)) (v := rf g 43) ok mi_X1_join_6 (kd_lt (show kd 41 = 6 from rfl) (by decide)) rfl rfl (cellF_6 _ (by decide)) 1 (by decide) mk_X1_join_43 rfl rfl dX1_join_29 ?_
            refine v_iload_n ok 0 dX1_join_32 rfl rfl ?_
            refine v_aald13L (q := 46) ok (by decide) (by decide) rfl dX1_join_33 ?_
            refine v_aload_n ok 2 dX1_join_34 rfl rfl ?_
            refine v_get (T := TX6) (N := 3) (f0 := (M 41)) (v := rf g 42) ok mi_X1_join_6 (kd_lt (show kd 41 = 6 from rfl) (by decide)) rfl rfl (cellF_6 _ (by decide)) 0 (by decide) mk_X1_join_47 rfl rfl dX1_join_35 ?_
            refine v_callV (na := 2) (i := 50) (C := RX1) (T := TX1) (N := 3) (f0 := (M 50)) ok (ct_X1_runOff z.2.1 g (up1 (up1 (up1 M 53 (jnS M 41 1)) 51 (fl ((M 42)) ((M 45)) 8)) 52 (otp ((M 44) 2) ((M 44) 3) (fl ((M 42)) ((M 45)) 8))) 46 42 (by decide) (by decide) rfl (by show 0 ≤ (M 46) 2 ∧ (M 46) 2 ≤ 4; first | omega | assumption) (by show 0 ≤ (M 46) 3 ∧ (M 46) 3 ≤ 9; first | omega | assumption) hR (by assumption)) gX1_join_X1_runOff (kd_lt (show kd 50 = 1 from rfl) (by decide)) rfl rfl (cellF_1 _ (by decide)) rfl (by decide +kernel) rfl (by decide) [] rfl (Nat.le_of_ble_eq_true rfl) dX1_join_38 (fun v13 M14 hp12 => ?_)
            obtain ⟨rfl, rfl⟩ := hp12
            show V z g 4 (up1 (up1 (up1 (up1 (up1 M 53 (jnS M 41 1)) 51 (fl ((M 42)) ((M 45)) 8)) 52 (otp ((M 44) 2) ((M 44) 3) (fl ((M 42)) ((M 45)) 8))) 51 (fl ((M 42)) ((M 47)) 8)) 52 (otp ((M 46) 2) ((M 46) 3) (fl ((M 42)) ((M 47)) 8))) [(2, iv 1), (0, rf g 50), (1, rf g 41), (3, iv k)] [iv (sto ((M 46) 2) ((M 46) 3) (fl ((M 42)) ((M 47)) 8) 30)] 41
            rw [show ((up1 (up1 (up1 (up1 (up1 M 53 (jnS M 41 1)) 51 (fl ((M 42)) ((M 45)) 8)) 52 (otp ((M 44) 2) ((M 44) 3) (fl ((M 42)) ((M 45)) 8))) 51 (fl ((M 42)) ((M 47)) 8)) 52 (otp ((M 46) 2) ((M 46) 3) (fl ((M 42)) ((M 47)) 8))) : Mem) = (up1 (up1 (up1 M 53 (jnS M 41 1)) 51 (fl ((M 42)) ((M 47)) 8)) 52 (otp ((M 46) 2) ((M 46) 3) (fl ((M 42)) ((M 47)) 8))) from (by
                  funext j
                  by_cases hj0 : j = 53
                  · subst hj0; simp [up1, up1_self]
                  by_cases hj1 : j = 51
                  · subst hj1; simp [up1, up1_self]
                  by_cases hj2 : j = 52
                  · subst hj2; simp [up1, up1_self]
                  simp [up1, hj0, hj1, hj2])]
            refine v_pop ok rfl dX1_join_41 ?_
            refine v_iconst (n := 0) ok dX1_join_42 ?_
            refine v_istore_n ok [(3, iv 0), (2, iv 1), (0, rf g 50), (1, rf g 41)] dX1_join_43 rfl (by decide) rfl ?_
            have lp44x : ∀ (fu : Nat) (k : Int) (J : Int → Int), (0 ≤ k ∧ k ≤ 30) → (∀ j : Int, 0 ≤ j → j < 30 → J j = if j < k then (jnS M 41 1) j + (otp ((M 46) 2) ((M 46) 3) (fl ((M 42)) ((M 47)) 8)) j else (jnS M 41 1) j) → (30 - k).toNat < fu → V z g 4 (up1 (up1 (up1 M 53 J) 51 (fl ((M 42)) ((M 47)) 8)) 52 (otp ((M 46) 2) ((M 46) 3) (fl ((M 42)) ((M 47)) 8))) [(0, rf g 50), (1, rf g 41), (2, iv 1), (3, iv k)] [] 44 := by
              intro fu
              induction fu with
              | zero => intro k J _ _ hm; exact absurd hm (Nat.not_lt_zero _)
              | succ fu ih44 =>
                intro k J i44_0 i44_1 hm44
                refine v_iload_n ok 3 dX1_join_44 rfl rfl ?_
                refine v_aload_n ok 0 dX1_join_45 rfl rfl ?_
                refine v_get (T := TX1) (N := 3) (f0 := (M 50)) (v := rf g 53) ok mi_X1_join_1 (kd_lt (show kd 50 = 1 from rfl) (by decide)) rfl rfl (cellF_1 _ (by decide)) 2 (by decide) mk_X1_join_18 rfl rfl dX1_join_46 ?_
                refine v_alen (n := 30) ok (Or.inl (by decide)) rfl dX1_join_49 ?_
                refine v_icmp_ge (tgt := 83) ok ⟨by omega, by omega⟩ (by decide) dX1_join_50 (by decide) (fun c15 => ?_) (fun c15 => ?_)
                · skip
                  rw [show ((up1 (up1 (up1 M 53 J) 51 (fl ((M 42)) ((M 47)) 8)) 52 (otp ((M 46) 2) ((M 46) 3) (fl ((M 42)) ((M 47)) 8))) : Mem) = (up1 (up1 (up1 M 51 (fl ((M 42)) ((M 47)) 8)) 52 (otp ((M 46) 2) ((M 46) 3) (fl ((M 42)) ((M 47)) 8))) 53 J) from (by
                        funext j
                        by_cases hj0 : j = 53
                        · subst hj0; simp [up1, up1_self]
                        by_cases hj1 : j = 51
                        · subst hj1; simp [up1, up1_self]
                        by_cases hj2 : j = 52
                        · subst hj2; simp [up1, up1_self]
                        simp [up1, hj0, hj1, hj2])]
                  refine v_cong (n := 30) (jnS M 41 2) (Or.inl (by decide)) rfl (fun j j0 j1 => by rw [i44_1 j j0 j1, if_pos (by omega)]; rfl) ?_
                  rw [show ((up1 (up1 (up1 M 51 (fl ((M 42)) ((M 47)) 8)) 52 (otp ((M 46) 2) ((M 46) 3) (fl ((M 42)) ((M 47)) 8))) 53 (jnS M 41 2)) : Mem) = (up1 (up1 (up1 M 53 (jnS M 41 2)) 51 (fl ((M 42)) ((M 47)) 8)) 52 (otp ((M 46) 2) ((M 46) 3) (fl ((M 42)) ((M 47)) 8))) from (by
                        funext j
                        by_cases hj0 : j = 53
                        · subst hj0; simp [up1, up1_self]
                        by_cases hj1 : j = 51
                        · subst hj1; simp [up1, up1_self]
                        by_cases hj2 : j = 52
                        · subst hj2; simp [up1, up1_self]
                        simp [up1, hj0, hj1, hj2])]
                  refine v_iinc ok 2 [(2, iv 2), (0, rf g 50), (1, rf g 41), (3, iv k)] dX1_join_83 rfl (by decide) rfl ?_
                  refine v_goto (tgt := 10) ok dX1_join_86 (by decide) ?_
                  refine v_iload_n ok 0 dX1_join_10 rfl rfl ?_
                  refine v_aload_n ok 2 dX1_join_11 rfl rfl ?_
                  refine v_get (T := TX6) (N := 3) (f0 := (M 41)) (v := iv (M 41 2)) ok mi_X1_join_6 (kd_lt (show kd 41 = 6 from rfl) (by decide)) rfl rfl (cellF_6 _ (by decide)) 2 (by decide) mk_X1_join_37 rfl rfl dX1_join_12 ?_
                  refine v_icmp_ge (tgt := 89) ok (by decide) ⟨by omega, by omega⟩ dX1_join_15 (by decide) (fun c16 => ?_) (fun c16 => ?_)
                  · skip
                    have hmi : (M 41 2).toNat = 2 := by omega
                    exact v_vret ok rt dX1_join_89 (⟨(fl ((M 42)) ((M 47)) 8), (otp ((M 46) 2) ((M 46) 3) (fl ((M 42)) ((M 47)) 8)), rfl, (by rw [hmi] <;> first | rfl | (funext j; by_cases hj0 : j = 53 <;> by_cases hj1 : j = 51 <;> by_cases hj2 : j = 52 <;> simp_all [up1]))⟩)
                  · skip
                    refine v_iload_n ok 0 dX1_join_18 rfl rfl ?_
                    refine v_aload_n ok 2 dX1_join_19 rfl rfl ?_
                    refine v_get (T := TX6) (N := 3) (f0 := (M 41)) (v := rf g 43) ok mi_X1_join_6 (kd_lt (show kd 41 = 6 from rfl) (by decide)) rfl rfl (cellF_6 _ (by decide)) 1 (by decide) mk_X1_join_43 rfl rfl dX1_join_20 ?_
                    refine v_alen13 ok (by decide) dX1_join_23 ?_
                    refine v_icmp_ge (tgt := 89) ok (by decide) (by decide) dX1_join_24 (by decide) (fun c17 => absurd c17 (by decide)) (fun c17 => ?_)
                    refine v_aload_n ok 1 dX1_join_27 rfl rfl ?_
                    refine v_aload_n ok 2 dX1_join_28 rfl rfl ?_
                    refine v_get (T := TX6) (N := 3) (f0 := (M 41)) (v := rf g 43) ok mi_X1_join_6 (kd_lt (show kd 41 = 6 from rfl) (by decide)) rfl rfl (cellF_6 _ (by decide)) 1 (by decide) mk_X1_join_43 rfl rfl dX1_join_29 ?_
                    refine v_iload_n ok 0 dX1_join_32 rfl rfl ?_
                    refine v_aald13L (q := 48) ok (by decide) (by decide) rfl dX1_join_33 ?_
                    refine v_aload_n ok 2 dX1_join_34 rfl rfl ?_
                    refine v_get (T := TX6) (N := 3) (f0 := (M 41)) (v := rf g 42) ok mi_X1_join_6 (kd_lt (show kd 41 = 6 from rfl) (by decide)) rfl rfl (cellF_6 _ (by decide)) 0 (by decide) mk_X1_join_47 rfl rfl dX1_join_35 ?_
                    refine v_callV (na := 2) (i := 50) (C := RX1) (T := TX1) (N := 3) (f0 := (M 50)) ok (ct_X1_runOff z.2.1 g (up1 (up1 (up1 M 53 (jnS M 41 2)) 51 (fl ((M 42)) ((M 47)) 8)) 52 (otp ((M 46) 2) ((M 46) 3) (fl ((M 42)) ((M 47)) 8))) 48 42 (by decide) (by decide) rfl (by show 0 ≤ (M 48) 2 ∧ (M 48) 2 ≤ 4; first | omega | assumption) (by show 0 ≤ (M 48) 3 ∧ (M 48) 3 ≤ 9; first | omega | assumption) hR (by assumption)) gX1_join_X1_runOff (kd_lt (show kd 50 = 1 from rfl) (by decide)) rfl rfl (cellF_1 _ (by decide)) rfl (by decide +kernel) rfl (by decide) [] rfl (Nat.le_of_ble_eq_true rfl) dX1_join_38 (fun v19 M20 hp18 => ?_)
                    obtain ⟨rfl, rfl⟩ := hp18
                    show V z g 4 (up1 (up1 (up1 (up1 (up1 M 53 (jnS M 41 2)) 51 (fl ((M 42)) ((M 47)) 8)) 52 (otp ((M 46) 2) ((M 46) 3) (fl ((M 42)) ((M 47)) 8))) 51 (fl ((M 42)) ((M 49)) 8)) 52 (otp ((M 48) 2) ((M 48) 3) (fl ((M 42)) ((M 49)) 8))) [(2, iv 2), (0, rf g 50), (1, rf g 41), (3, iv k)] [iv (sto ((M 48) 2) ((M 48) 3) (fl ((M 42)) ((M 49)) 8) 30)] 41
                    rw [show ((up1 (up1 (up1 (up1 (up1 M 53 (jnS M 41 2)) 51 (fl ((M 42)) ((M 47)) 8)) 52 (otp ((M 46) 2) ((M 46) 3) (fl ((M 42)) ((M 47)) 8))) 51 (fl ((M 42)) ((M 49)) 8)) 52 (otp ((M 48) 2) ((M 48) 3) (fl ((M 42)) ((M 49)) 8))) : Mem) = (up1 (up1 (up1 M 53 (jnS M 41 2)) 51 (fl ((M 42)) ((M 49)) 8)) 52 (otp ((M 48) 2) ((M 48) 3) (fl ((M 42)) ((M 49)) 8))) from (by
                          funext j
                          by_cases hj0 : j = 53
                          · subst hj0; simp [up1, up1_self]
                          by_cases hj1 : j = 51
                          · subst hj1; simp [up1, up1_self]
                          by_cases hj2 : j = 52
                          · subst hj2; simp [up1, up1_self]
                          simp [up1, hj0, hj1, hj2])]
                    refine v_pop ok rfl dX1_join_41 ?_
                    refine v_iconst (n := 0) ok dX1_join_42 ?_
                    refine v_istore_n ok [(3, iv 0), (2, iv 2), (0, rf g 50), (1, rf g 41)] dX1_join_43 rfl (by decide) rfl ?_
                    have lp44xx : ∀ (fu : Nat) (k : Int) (J : Int → Int), (0 ≤ k ∧ k ≤ 30) → (∀ j : Int, 0 ≤ j → j < 30 → J j = if j < k then (jnS M 41 2) j + (otp ((M 48) 2) ((M 48) 3) (fl ((M 42)) ((M 49)) 8)) j else (jnS M 41 2) j) → (30 - k).toNat < fu → V z g 4 (up1 (up1 (up1 M 53 J) 51 (fl ((M 42)) ((M 49)) 8)) 52 (otp ((M 48) 2) ((M 48) 3) (fl ((M 42)) ((M 49)) 8))) [(0, rf g 50), (1, rf g 41), (2, iv 2), (3, iv k)] [] 44 := by
                      intro fu
                      induction fu with
                      | zero => intro k J _ _ hm; exact absurd hm (Nat.not_lt_zero _)
                      | succ fu ih44 =>
                        intro k J i44_0 i44_1 hm44
                        refine v_iload_n ok 3 dX1_join_44 rfl rfl ?_
                        refine v_aload_n ok 0 dX1_join_45 rfl rfl ?_
                        refine v_get (T := TX1) (N := 3) (f0 := (M 50)) (v := rf g 53) ok mi_X1_join_1 (kd_lt (show kd 50 = 1 from rfl) (by decide)) rfl rfl (cellF_1 _ (by decide)) 2 (by decide) mk_X1_join_18 rfl rfl dX1_join_46 ?_
                        refine v_alen (n := 30) ok (Or.inl (by decide)) rfl dX1_join_49 ?_
                        refine v_icmp_ge (tgt := 83) ok ⟨by omega, by omega⟩ (by decide) dX1_join_50 (by decide) (fun c21 => ?_) (fun c21 => ?_)
                        · skip
                          rw [show ((up1 (up1 (up1 M 53 J) 51 (fl ((M 42)) ((M 49)) 8)) 52 (otp ((M 48) 2) ((M 48) 3) (fl ((M 42)) ((M 49)) 8))) : Mem) = (up1 (up1 (up1 M 51 (fl ((M 42)) ((M 49)) 8)) 52 (otp ((M 48) 2) ((M 48) 3) (fl ((M 42)) ((M 49)) 8))) 53 J) from (by
                                funext j
                                by_cases hj0 : j = 53
                                · subst hj0; simp [up1, up1_self]
                                by_cases hj1 : j = 51
                                · subst hj1; simp [up1, up1_self]
                                by_cases hj2 : j = 52
                                · subst hj2; simp [up1, up1_self]
                                simp [up1, hj0, hj1, hj2])]
                          refine v_cong (n := 30) (jnS M 41 3) (Or.inl (by decide)) rfl (fun j j0 j1 => by rw [i44_1 j j0 j1, if_pos (by omega)]; rfl) ?_
                          rw [show ((up1 (up1 (up1 M 51 (fl ((M 42)) ((M 49)) 8)) 52 (otp ((M 48) 2) ((M 48) 3) (fl ((M 42)) ((M 49)) 8))) 53 (jnS M 41 3)) : Mem) = (up1 (up1 (up1 M 53 (jnS M 41 3)) 51 (fl ((M 42)) ((M 49)) 8)) 52 (otp ((M 48) 2) ((M 48) 3) (fl ((M 42)) ((M 49)) 8))) from (by
                                funext j
                                by_cases hj0 : j = 53
                                · subst hj0; simp [up1, up1_self]
                                by_cases hj1 : j = 51
                                · subst hj1; simp [up1, up1_self]
                                by_cases hj2 : j = 52
                                · subst hj2; simp [up1, up1_self]
                                simp [up1, hj0, hj1, hj2])]
                          refine v_iinc ok 2 [(2, iv 3), (0, rf g 50), (1, rf g 41), (3, iv k)] dX1_join_83 rfl (by decide) rfl ?_
                          refine v_goto (tgt := 10) ok dX1_join_86 (by decide) ?_
                          refine v_iload_n ok 0 dX1_join_10 rfl rfl ?_
                          refine v_aload_n ok 2 dX1_join_11 rfl rfl ?_
                          refine v_get (T := TX6) (N := 3) (f0 := (M 41)) (v := iv (M 41 2)) ok mi_X1_join_6 (kd_lt (show kd 41 = 6 from rfl) (by decide)) rfl rfl (cellF_6 _ (by decide)) 2 (by decide) mk_X1_join_37 rfl rfl dX1_join_12 ?_
                          refine v_icmp_ge (tgt := 89) ok (by decide) ⟨by omega, by omega⟩ dX1_join_15 (by decide) (fun c22 => ?_) (fun c22 => absurd c22 (by omega))
                          have hmi : (M 41 2).toNat = 3 := by omega
                          exact v_vret ok rt dX1_join_89 (⟨(fl ((M 42)) ((M 49)) 8), (otp ((M 48) 2) ((M 48) 3) (fl ((M 42)) ((M 49)) 8)), rfl, (by rw [hmi] <;> first | rfl | (funext j; by_cases hj0 : j = 53 <;> by_cases hj1 : j = 51 <;> by_cases hj2 : j = 52 <;> simp_all [up1]))⟩)
                        · skip
                          refine v_iload_n ok 3 dX1_join_53 rfl rfl ?_
                          refine v_aload_n ok 0 dX1_join_54 rfl rfl ?_
                          refine v_get (T := TX1) (N := 3) (f0 := (M 50)) (v := rf g 52) ok mi_X1_join_1 (kd_lt (show kd 50 = 1 from rfl) (by decide)) rfl rfl (cellF_1 _ (by decide)) 1 (by decide) mk_X1_join_15 rfl rfl dX1_join_55 ?_
                          refine v_alen (n := 30) ok (Or.inl (by decide)) rfl dX1_join_58 ?_
                          refine v_icmp_ge (tgt := 83) ok ⟨by omega, by omega⟩ (by decide) dX1_join_59 (by decide) (fun c23 => absurd c23 (by omega)) (fun c23 => ?_)
                          refine v_aload_n ok 0 dX1_join_62 rfl rfl ?_
                          refine v_get (T := TX1) (N := 3) (f0 := (M 50)) (v := rf g 53) ok mi_X1_join_1 (kd_lt (show kd 50 = 1 from rfl) (by decide)) rfl rfl (cellF_1 _ (by decide)) 2 (by decide) mk_X1_join_18 rfl rfl dX1_join_63 ?_
                          refine v_iload_n ok 3 dX1_join_66 rfl rfl ?_
                          refine v_dup2 ok rfl rfl dX1_join_67 ?_
                          refine v_iald (n := 30) (f0 := J) ok (by decide) rfl (by omega) rfl dX1_join_68 ?_
                          refine v_aload_n ok 0 dX1_join_69 rfl rfl ?_
                          refine v_get (T := TX1) (N := 3) (f0 := (M 50)) (v := rf g 52) ok mi_X1_join_1 (kd_lt (show kd 50 = 1 from rfl) (by decide)) rfl rfl (cellF_1 _ (by decide)) 1 (by decide) mk_X1_join_15 rfl rfl dX1_join_70 ?_
                          refine v_iload_n ok 3 dX1_join_73 rfl rfl ?_
                          refine v_iald (n := 30) (f0 := (otp ((M 48) 2) ((M 48) 3) (fl ((M 42)) ((M 49)) 8))) ok (by decide) rfl (by omega) rfl dX1_join_74 ?_
                          refine v_iadd ok dX1_join_75 ?_
                          refine v_iast (n := 30) (f0 := J) ok (by decide) rfl (by omega) rfl dX1_join_76 ?_
                          rw [show (up1 (up1 (up1 (up1 M 53 J) 51 (fl ((M 42)) ((M 49)) 8)) 52 (otp ((M 48) 2) ((M 48) 3) (fl ((M 42)) ((M 49)) 8))) 53 (up J k ((J k) + ((otp ((M 48) 2) ((M 48) 3) (fl ((M 42)) ((M 49)) 8)) k))) : Mem) = (up1 (up1 (up1 M 53 (up J k ((J k) + ((otp ((M 48) 2) ((M 48) 3) (fl ((M 42)) ((M 49)) 8)) k)))) 51 (fl ((M 42)) ((M 49)) 8)) 52 (otp ((M 48) 2) ((M 48) 3) (fl ((M 42)) ((M 49)) 8))) from (by
                                funext j
                                by_cases hj0 : j = 53
                                · subst hj0; simp [up1, up1_self]
                                by_cases hj1 : j = 51
                                · subst hj1; simp [up1, up1_self]
                                by_cases hj2 : j = 52
                                · subst hj2; simp [up1, up1_self]
                                simp [up1, hj0, hj1, hj2])]
                          refine v_iinc ok 3 [(3, iv (k + 1)), (0, rf g 50), (1, rf g 41), (2, iv 2)] dX1_join_77 rfl (by decide) rfl ?_
                          refine v_goto (tgt := 44) ok dX1_join_80 (by decide) ?_
                          refine v_lv (ls' := [(0, rf g 50), (1, rf g 41), (2, iv 2), (3, iv (k + 1))]) ok [1, 2, 3, 0] rfl ?_
                          exact ih44 (k + 1) (up J k ((J k) + ((otp ((M 48) 2) ((M 48) 3) (fl ((M 42)) ((M 49)) 8)) k))) (by omega) (fun j j0 j1 => by
                              by_cases e : j = k
                              · rw [e, up_same, if_pos (by omega), i44_1 k (by omega) (by omega), if_neg (by omega)]
                              · rw [up_ne e, i44_1 j j0 j1]
                                by_cases c : j < k
                                · rw [if_pos c, if_pos (by omega)]
                                · rw [if_neg c, if_neg (by omega)]) (by omega)
                    refine v_lv (ls' := [(0, rf g 50), (1, rf g 41), (2, iv 2), (3, iv 0)]) ok [2, 3, 1, 0] rfl ?_
                    exact lp44xx _ 0 (jnS M 41 2) (by omega) (fun j j0 j1 => by rw [if_neg (by omega)]) (Nat.lt_succ_self _)
                · skip
                  refine v_iload_n ok 3 dX1_join_53 rfl rfl ?_
                  refine v_aload_n ok 0 dX1_join_54 rfl rfl ?_
                  refine v_get (T := TX1) (N := 3) (f0 := (M 50)) (v := rf g 52) ok mi_X1_join_1 (kd_lt (show kd 50 = 1 from rfl) (by decide)) rfl rfl (cellF_1 _ (by decide)) 1 (by decide) mk_X1_join_15 rfl rfl dX1_join_55 ?_
                  refine v_alen (n := 30) ok (Or.inl (by decide)) rfl dX1_join_58 ?_
                  refine v_icmp_ge (tgt := 83) ok ⟨by omega, by omega⟩ (by decide) dX1_join_59 (by decide) (fun c24 => absurd c24 (by omega)) (fun c24 => ?_)
                  refine v_aload_n ok 0 dX1_join_62 rfl rfl ?_
                  refine v_get (T := TX1) (N := 3) (f0 := (M 50)) (v := rf g 53) ok mi_X1_join_1 (kd_lt (show kd 50 = 1 from rfl) (by decide)) rfl rfl (cellF_1 _ (by decide)) 2 (by decide) mk_X1_join_18 rfl rfl dX1_join_63 ?_
                  refine v_iload_n ok 3 dX1_join_66 rfl rfl ?_
                  refine v_dup2 ok rfl rfl dX1_join_67 ?_
                  refine v_iald (n := 30) (f0 := J) ok (by decide) rfl (by omega) rfl dX1_join_68 ?_
                  refine v_aload_n ok 0 dX1_join_69 rfl rfl ?_
                  refine v_get (T := TX1) (N := 3) (f0 := (M 50)) (v := rf g 52) ok mi_X1_join_1 (kd_lt (show kd 50 = 1 from rfl) (by decide)) rfl rfl (cellF_1 _ (by decide)) 1 (by decide) mk_X1_join_15 rfl rfl dX1_join_70 ?_
                  refine v_iload_n ok 3 dX1_join_73 rfl rfl ?_
                  refine v_iald (n := 30) (f0 := (otp ((M 46) 2) ((M 46) 3) (fl ((M 42)) ((M 47)) 8))) ok (by decide) rfl (by omega) rfl dX1_join_74 ?_
                  refine v_iadd ok dX1_join_75 ?_
                  refine v_iast (n := 30) (f0 := J) ok (by decide) rfl (by omega) rfl dX1_join_76 ?_
                  rw [show (up1 (up1 (up1 (up1 M 53 J) 51 (fl ((M 42)) ((M 47)) 8)) 52 (otp ((M 46) 2) ((M 46) 3) (fl ((M 42)) ((M 47)) 8))) 53 (up J k ((J k) + ((otp ((M 46) 2) ((M 46) 3) (fl ((M 42)) ((M 47)) 8)) k))) : Mem) = (up1 (up1 (up1 M 53 (up J k ((J k) + ((otp ((M 46) 2) ((M 46) 3) (fl ((M 42)) ((M 47)) 8)) k)))) 51 (fl ((M 42)) ((M 47)) 8)) 52 (otp ((M 46) 2) ((M 46) 3) (fl ((M 42)) ((M 47)) 8))) from (by
                        funext j
                        by_cases hj0 : j = 53
                        · subst hj0; simp [up1, up1_self]
                        by_cases hj1 : j = 51
                        · subst hj1; simp [up1, up1_self]
                        by_cases hj2 : j = 52
                        · subst hj2; simp [up1, up1_self]
                        simp [up1, hj0, hj1, hj2])]
                  refine v_iinc ok 3 [(3, iv (k + 1)), (0, rf g 50), (1, rf g 41), (2, iv 1)] dX1_join_77 rfl (by decide) rfl ?_
                  refine v_goto (tgt := 44) ok dX1_join_80 (by decide) ?_
                  refine v_lv (ls' := [(0, rf g 50), (1, rf g 41), (2, iv 1), (3, iv (k + 1))]) ok [1, 2, 3, 0] rfl ?_
                  exact ih44 (k + 1) (up J k ((J k) + ((otp ((M 46) 2) ((M 46) 3) (fl ((M 42)) ((M 47)) 8)) k))) (by omega) (fun j j0 j1 => by
                      by_cases e : j = k
                      · rw [e, up_same, if_pos (by omega), i44_1 k (by omega) (by omega), if_neg (by omega)]
                      · rw [up_ne e, i44_1 j j0 j1]
                        by_cases c : j < k
                        · rw [if_pos c, if_pos (by omega)]
                        · rw [if_neg c, if_neg (by omega)]) (by omega)
            refine v_lv (ls' := [(0, rf g 50), (1, rf g 41), (2, iv 1), (3, iv 0)]) ok [2, 3, 1, 0] rfl ?_
            exact lp44x _ 0 (jnS M 41 1) (by omega) (fun j j0 j1 => by rw [if_neg (by omega)]) (Nat.lt_succ_self _)
        · skip
          refine v_iload_n ok 3 dX1_join_53 rfl rfl ?_
          refine v_aload_n ok 0 dX1_join_54 rfl rfl ?_
          refine v_get (T := TX1) (N := 3) (f0 := (M 50)) (v := rf g 52) ok mi_X1_join_1 (kd_lt (show kd 50 = 1 from rfl) (by decide)) rfl rfl (cellF_1 _ (by decide)) 1 (by decide) mk_X1_join_15 rfl rfl dX1_join_55 ?_
          refine v_alen (n := 30) ok (Or.inl (by decide)) rfl dX1_join_58 ?_
          refine v_icmp_ge (tgt := 83) ok ⟨by omega, by omega⟩ (by decide) dX1_join_59 (by decide) (fun c25 => absurd c25 (by omega)) (fun c25 => ?_)
          refine v_aload_n ok 0 dX1_join_62 rfl rfl ?_
          refine v_get (T := TX1) (N := 3) (f0 := (M 50)) (v := rf g 53) ok mi_X1_join_1 (kd_lt (show kd 50 = 1 from rfl) (by decide)) rfl rfl (cellF_1 _ (by decide)) 2 (by decide) mk_X1_join_18 rfl rfl dX1_join_63 ?_
          refine v_iload_n ok 3 dX1_join_66 rfl rfl ?_
          refine v_dup2 ok rfl rfl dX1_join_67 ?_
          refine v_iald (n := 30) (f0 := J) ok (by decide) rfl (by omega) rfl dX1_join_68 ?_
          refine v_aload_n ok 0 dX1_join_69 rfl rfl ?_
          refine v_get (T := TX1) (N := 3) (f0 := (M 50)) (v := rf g 52) ok mi_X1_join_1 (kd_lt (show kd 50 = 1 from rfl) (by decide)) rfl rfl (cellF_1 _ (by decide)) 1 (by decide) mk_X1_join_15 rfl rfl dX1_join_70 ?_
          refine v_iload_n ok 3 dX1_join_73 rfl rfl ?_
          refine v_iald (n := 30) (f0 := (otp ((M 44) 2) ((M 44) 3) (fl ((M 42)) ((M 45)) 8))) ok (by decide) rfl (by omega) rfl dX1_join_74 ?_
          refine v_iadd ok dX1_join_75 ?_
          refine v_iast (n := 30) (f0 := J) ok (by decide) rfl (by omega) rfl dX1_join_76 ?_
          rw [show (up1 (up1 (up1 (up1 M 53 J) 51 (fl ((M 42)) ((M 45)) 8)) 52 (otp ((M 44) 2) ((M 44) 3) (fl ((M 42)) ((M 45)) 8))) 53 (up J k ((J k) + ((otp ((M 44) 2) ((M 44) 3) (fl ((M 42)) ((M 45)) 8)) k))) : Mem) = (up1 (up1 (up1 M 53 (up J k ((J k) + ((otp ((M 44) 2) ((M 44) 3) (fl ((M 42)) ((M 45)) 8)) k)))) 51 (fl ((M 42)) ((M 45)) 8)) 52 (otp ((M 44) 2) ((M 44) 3) (fl ((M 42)) ((M 45)) 8))) from (by
                funext j
                by_cases hj0 : j = 53
                · subst hj0; simp [up1, up1_self]
                by_cases hj1 : j = 51
                · subst hj1; simp [up1, up1_self]
                by_cases hj2 : j = 52
                · subst hj2; simp [up1, up1_self]
                simp [up1, hj0, hj1, hj2])]
          refine v_iinc ok 3 [(3, iv (k + 1)), (0, rf g 50), (1, rf g 41), (2, iv 0)] dX1_join_77 rfl (by decide) rfl ?_
          refine v_goto (tgt := 44) ok dX1_join_80 (by decide) ?_
          refine v_lv (ls' := [(0, rf g 50), (1, rf g 41), (2, iv 0), (3, iv (k + 1))]) ok [1, 2, 3, 0] rfl ?_
          exact ih44 (k + 1) (up J k ((J k) + ((otp ((M 44) 2) ((M 44) 3) (fl ((M 42)) ((M 45)) 8)) k))) (by omega) (fun j j0 j1 => by
              by_cases e : j = k
              · rw [e, up_same, if_pos (by omega), i44_1 k (by omega) (by omega), if_neg (by omega)]
              · rw [up_ne e, i44_1 j j0 j1]
                by_cases c : j < k
                · rw [if_pos c, if_pos (by omega)]
                · rw [if_neg c, if_neg (by omega)]) (by omega)
    refine v_lv (ls' := [(0, rf g 50), (1, rf g 41), (2, iv 0), (3, iv 0)]) ok [2, 3, 1, 0] rfl ?_
    exact lp44 _ 0 (jnS M 41 0) (by omega) (fun j j0 j1 => by rw [if_neg (by omega)]) (Nat.lt_succ_self _)

theorem mk_X1_peakOf_18 : Cond.fieldLink RX1 18 "StormRunoff$Course" "joined" "[I" ∈ wsX1_peakOf := by decide +kernel
theorem mi_X1_peakOf_1 : ∀ w ∈ wsX10, w ∈ wsX1_peakOf := by decide +kernel
theorem ms_X1_peakOf_X9_measure : Cond.static yX9_measure ∈ wsX1_peakOf := by decide +kernel
theorem mn_X1_peakOf_X9_measure : Cond.initialized yX9_measure.cls ∈ wsX1_peakOf := by decide +kernel
theorem mq_X1_peakOf_X9_measure : (RX1, 58, yX9_measure) ∈ nestW := by decide +kernel
set_option maxRecDepth 100000 in
set_option maxHeartbeats 400000 in
theorem ct_X1_peakOf_2 (l : Launch) (g : Gl) (M : Mem)  (hs : SiteOk M 2) : Ct l g yX1_peakOf wsX1_peakOf 5 111 [rf g 50, rf g 2] M (fun rv M' => ∃ (F O : Int → Int), rv = some (iv (msr 1 (jnS M 2 (M 2 2).toNat) 30)) ∧ M' = (up1 (up1 (up1 M 53 (jnS M 2 (M 2 2).toNat)) 51 F) 52 O)) := by
  refine Ct.of (cc := cX1_peakOf) (nL := 2) (ret := (some .int)) (by decide) rfl (Nat.le_of_ble_eq_true rfl) (fun z hz ok rt => ?_)
  have ok : Ok z g cX1_peakOf 2 RX1 wsX1_peakOf 5 111 := ok
  show V z g 2 M [(0, rf g 50), (1, rf g 2)] [] 0
  refine v_aload_n ok 0 dX1_peakOf_0 rfl rfl ?_
  refine v_aload_n ok 1 dX1_peakOf_1 rfl rfl ?_
  refine v_callV (na := 1) (i := 50) (C := RX1) (T := TX1) (N := 3) (f0 := (M 50)) ok (ct_X1_join_2 z.2.1 g M  hs) gX1_peakOf_X1_join (kd_lt (show kd 50 = 1 from rfl) (by decide)) rfl rfl (cellF_1 _ (by decide)) rfl (by decide +kernel) rfl (by decide) [] rfl (Nat.le_of_ble_eq_true rfl) dX1_peakOf_2 (fun v2 M3 hp1 => ?_)
  obtain ⟨F4, O5, rfl, rfl⟩ := hp1
  show V z g 2 (up1 (up1 (up1 M 53 (jnS M 2 ((M 2) 2).toNat)) 51 F4) 52 O5) [(0, rf g 50), (1, rf g 2)] [] 5
  refine v_aload_n ok 0 dX1_peakOf_5 rfl rfl ?_
  refine v_get (T := TX1) (N := 3) (f0 := (M 50)) (v := rf g 53) ok mi_X1_peakOf_1 (kd_lt (show kd 50 = 1 from rfl) (by decide)) rfl rfl (cellF_1 _ (by decide)) 2 (by decide) mk_X1_peakOf_18 rfl rfl dX1_peakOf_6 ?_
  refine v_iconst (n := 1) ok dX1_peakOf_9 ?_
  refine v_callN (na := 2) ok (ct_X9_measure z.2.1 g (up1 (up1 (up1 M 53 (jnS M 2 ((M 2) 2).toNat)) 51 F4) 52 O5) 53 30 129600 1 (by decide) rfl (by decide) (by decide) (jnS_rng hs) (by decide)) gX1_peakOf_X9_measure_n58 mq_X1_peakOf_X9_measure ms_X1_peakOf_X9_measure mn_X1_peakOf_X9_measure rfl (by decide +kernel) rfl (by decide) [] rfl (Nat.le_of_ble_eq_true rfl) dX1_peakOf_10 (fun v7 M8 hp6 => ?_)
  obtain ⟨r9, rfl, rfl, h10⟩ := hp6
  have h10 : r9 = msr 1 ((jnS M 2 ((M 2) 2).toNat)) (30 : Int).toNat := h10
  show V z g 2 (up1 (up1 (up1 M 53 (jnS M 2 ((M 2) 2).toNat)) 51 F4) 52 O5) [(0, rf g 50), (1, rf g 2)] [iv r9] 13
  rw [show (r9 : Int) = (msr 1 (jnS M 2 (M 2 2).toNat) 30) from h10]
  exact v_iret ok rt dX1_peakOf_13 (⟨F4, O5, rfl, (by
        funext j
        by_cases hj0 : j = 53
        · subst hj0; simp [up1, up1_self]
        by_cases hj1 : j = 51
        · subst hj1; simp [up1, up1_self]
        by_cases hj2 : j = 52
        · subst hj2; simp [up1, up1_self]
        simp [up1, hj0, hj1, hj2])⟩)

set_option maxRecDepth 100000 in
set_option maxHeartbeats 400000 in
theorem ct_X1_peakOf_41 (l : Launch) (g : Gl) (M : Mem)  (hs : SiteOk M 41) : Ct l g yX1_peakOf wsX1_peakOf 5 111 [rf g 50, rf g 41] M (fun rv M' => ∃ (F O : Int → Int), rv = some (iv (msr 1 (jnS M 41 (M 41 2).toNat) 30)) ∧ M' = (up1 (up1 (up1 M 53 (jnS M 41 (M 41 2).toNat)) 51 F) 52 O)) := by
  refine Ct.of (cc := cX1_peakOf) (nL := 2) (ret := (some .int)) (by decide) rfl (Nat.le_of_ble_eq_true rfl) (fun z hz ok rt => ?_)
  have ok : Ok z g cX1_peakOf 2 RX1 wsX1_peakOf 5 111 := ok
  show V z g 2 M [(0, rf g 50), (1, rf g 41)] [] 0
  refine v_aload_n ok 0 dX1_peakOf_0 rfl rfl ?_
  refine v_aload_n ok 1 dX1_peakOf_1 rfl rfl ?_
  refine v_callV (na := 1) (i := 50) (C := RX1) (T := TX1) (N := 3) (f0 := (M 50)) ok (ct_X1_join_41 z.2.1 g M  hs) gX1_peakOf_X1_join (kd_lt (show kd 50 = 1 from rfl) (by decide)) rfl rfl (cellF_1 _ (by decide)) rfl (by decide +kernel) rfl (by decide) [] rfl (Nat.le_of_ble_eq_true rfl) dX1_peakOf_2 (fun v2 M3 hp1 => ?_)
  obtain ⟨F4, O5, rfl, rfl⟩ := hp1
  show V z g 2 (up1 (up1 (up1 M 53 (jnS M 41 ((M 41) 2).toNat)) 51 F4) 52 O5) [(0, rf g 50), (1, rf g 41)] [] 5
  refine v_aload_n ok 0 dX1_peakOf_5 rfl rfl ?_
  refine v_get (T := TX1) (N := 3) (f0 := (M 50)) (v := rf g 53) ok mi_X1_peakOf_1 (kd_lt (show kd 50 = 1 from rfl) (by decide)) rfl rfl (cellF_1 _ (by decide)) 2 (by decide) mk_X1_peakOf_18 rfl rfl dX1_peakOf_6 ?_
  refine v_iconst (n := 1) ok dX1_peakOf_9 ?_
  refine v_callN (na := 2) ok (ct_X9_measure z.2.1 g (up1 (up1 (up1 M 53 (jnS M 41 ((M 41) 2).toNat)) 51 F4) 52 O5) 53 30 129600 1 (by decide) rfl (by decide) (by decide) (jnS_rng hs) (by decide)) gX1_peakOf_X9_measure_n58 mq_X1_peakOf_X9_measure ms_X1_peakOf_X9_measure mn_X1_peakOf_X9_measure rfl (by decide +kernel) rfl (by decide) [] rfl (Nat.le_of_ble_eq_true rfl) dX1_peakOf_10 (fun v7 M8 hp6 => ?_)
  obtain ⟨r9, rfl, rfl, h10⟩ := hp6
  have h10 : r9 = msr 1 ((jnS M 41 ((M 41) 2).toNat)) (30 : Int).toNat := h10
  show V z g 2 (up1 (up1 (up1 M 53 (jnS M 41 ((M 41) 2).toNat)) 51 F4) 52 O5) [(0, rf g 50), (1, rf g 41)] [iv r9] 13
  rw [show (r9 : Int) = (msr 1 (jnS M 41 (M 41 2).toNat) 30) from h10]
  exact v_iret ok rt dX1_peakOf_13 (⟨F4, O5, rfl, (by
        funext j
        by_cases hj0 : j = 53
        · subst hj0; simp [up1, up1_self]
        by_cases hj1 : j = 51
        · subst hj1; simp [up1, up1_self]
        by_cases hj2 : j = 52
        · subst hj2; simp [up1, up1_self]
        simp [up1, hj0, hj1, hj2])⟩)
