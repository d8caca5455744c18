theorem mk_X10_exchange_159 : Cond.methodLink RX10 159 Lib.Math.min.name ∈ wsX10_exchange := by decide +kernel
theorem mmins_X10_exchange : Cond.static Lib.Math.min.name ∈ wsX10_exchange := by decide +kernel
theorem mmi_X10_exchange : Cond.initialized "java/lang/Math" ∈ wsX10_exchange := by decide +kernel
theorem mminc_X10_exchange : Cond.code Lib.Math.min.name Lib.Math.min.code 2 (some .int) ∈ wsX10_exchange := by decide +kernel
set_option maxRecDepth 100000 in
set_option maxHeartbeats 1000000 in
theorem ct_X10_exchange (l : Launch) (g : Gl) (M : Mem) (w : Int) (hwi : i32 w) (hw : WOk (M 79)) : Ct l g yX10_exchange wsX10_exchange 5 114 [rf g 78, iv w] M (fun rv M' => (rv = some (iv (-1)) ∧ M' = M ∧ (¬ (0 ≤ w ∧ w ≤ 1))) ∨ (∃ (F O C J : Int → Int), rv = some (iv (exO (fun s t => pkW (swp (M 79) s t)) (pkW (M 79)) 8).2) ∧ M' = (up1 (up1 (up1 (up1 M 84 F) 85 O) 78 C) 86 J) ∧ (w = 0) ∧ (∀ j : Int, j ≠ 13 → C j = M 78 j)) ∨ (∃ (F O C J : Int → Int), rv = some (iv (exO (fun s t => pkW (swp (M 79) s t)) (pkW (M 79)) 8).1) ∧ M' = (up1 (up1 (up1 (up1 M 84 F) 85 O) 78 C) 86 J) ∧ (w = 1) ∧ (∀ j : Int, j ≠ 13 → C j = M 78 j))) := by
  refine Ct.of (cc := cX10_exchange) (nL := 7) (ret := (some .int)) (by decide) rfl (Nat.le_of_ble_eq_true rfl) (fun z hz ok rt => ?_)
  have ok : Ok z g cX10_exchange 7 RX10 wsX10_exchange 5 114 := ok
  show V z g 7 M [(0, rf g 78), (1, iv w)] [] 0
  refine v_iload_n ok 1 dX10_exchange_0 rfl rfl ?_
  refine v_i2l ok ⟨by omega, by omega⟩ dX10_exchange_1 ?_
  refine v_lconst (n := 0) ok rfl dX10_exchange_2 ?_
  refine v_lconst (n := 1) ok rfl dX10_exchange_3 ?_
  refine v_callS (na := 3) ok (ct_X10_in z.2.1 g M w 0 1 ⟨by omega, by omega⟩ (by decide) (by decide)) gX10_exchange_X10_in rfl (by decide +kernel) rfl (by decide) [] rfl (Nat.le_of_ble_eq_true rfl) dX10_exchange_4 (fun v2 M3 hp1 => ?_)
  rcases hp1 with ⟨rfl, eM3, h4⟩ | ⟨rfl, eM3, h5⟩
  · skip
    subst M3
    show V z g 7 M [(0, rf g 78), (1, iv w)] [iv 1] 7
    refine v_if_ne (tgt := 12) ok (by decide) dX10_exchange_7 (by decide) (fun c6 => ?_) (fun c6 => absurd c6 (by decide))
    refine v_bipush (n := -5) ok rfl dX10_exchange_12 ?_
    refine v_istore_n ok [(2, iv (-5)), (0, rf g 78), (1, iv w)] dX10_exchange_14 rfl (by decide) rfl ?_
    refine v_aload_n ok 1 dX10_exchange_15 rfl rfl ?_
    refine v_callV (na := 0) (i := 78) (C := RX10) (T := TX10) (N := 22) (f0 := (M 78)) ok (ct_X10_peak z.2.1 g M  hw) gX10_exchange_X10_peak (kd_lt (show kd 78 = 10 from rfl) (by decide)) rfl rfl (cellF_10 _ (by decide)) rfl (by decide +kernel) rfl (by decide) [] rfl (Nat.le_of_ble_eq_true rfl) dX10_exchange_16 (fun v8 M9 hp7 => ?_)
    obtain ⟨F10, O11, C12, rfl, rfl, h13⟩ := hp7
    have h13 : ∀ j : Int, j ≠ 13 → C12 j = (M 78) j := h13
    show V z g 7 (up1 (up1 (up1 (up1 M 84 F10) 85 O11) 78 C12) 86 (jnW ((M 79)))) [(2, iv (-5)), (0, rf g 78), (1, iv w)] [iv (pkW ((M 79)))] 19
    have hC9 := h13
    refine v_istore_n ok [(3, iv (pkW ((M 79)))), (2, iv (-5)), (0, rf g 78), (1, iv w)] dX10_exchange_19 rfl (by decide) rfl ?_
    refine v_iconst (n := 0) ok dX10_exchange_20 ?_
    refine v_istore ok [(4, iv 0), (3, iv (pkW ((M 79)))), (2, iv (-5)), (0, rf g 78), (1, iv w)] dX10_exchange_21 (by decide) rfl ?_
    have lp23 : ∀ (fu : Nat) (s p r : Int) (F O C J : Int → Int), (0 ≤ s ∧ s ≤ 8) → ((p, r) = exO (fun s t => pkW (swp (M 79) s t)) (pkW (M 79)) s.toNat) → (0 ≤ p ∧ p ≤ 129600) → (∀ j : Int, j ≠ 13 → C j = M 78 j) → (8 - s).toNat < fu → V z g 7 (up1 (up1 (up1 (up1 M 84 F) 85 O) 78 C) 86 J) [(0, rf g 78), (1, iv w), (2, iv r), (3, iv p), (4, iv s)] [] 23 := by
      intro fu
      induction fu with
      | zero => intro s p r F O C J _ _ _ _ hm; exact absurd hm (Nat.not_lt_zero _)
      | succ fu ih23 =>
        intro s p r F O C J i23_0 i23_1 i23_2 i23_3 hm23
        refine v_iload ok 4 dX10_exchange_23 rfl ?_
        refine v_bipush (n := 8) ok rfl dX10_exchange_25 ?_
        refine v_icmp_ge (tgt := 103) ok ⟨by omega, by omega⟩ (by decide) dX10_exchange_27 (by decide) (fun c14 => ?_) (fun c14 => ?_)
        · skip
          rw [show s.toNat = 8 by omega] at i23_1
          rw [show (r : Int) = (exO (fun s t => pkW (swp (M 79) s t)) (pkW (M 79)) 8).2 from (by rw [← i23_1])]
          rw [show (p : Int) = (exO (fun s t => pkW (swp (M 79) s t)) (pkW (M 79)) 8).1 from (by rw [← i23_1])]
          refine v_iload_n ok 1 dX10_exchange_103 rfl rfl ?_
          refine v_if_ne (tgt := 111) ok ⟨by omega, by omega⟩ dX10_exchange_104 (by decide) (fun c15 => ?_) (fun c15 => ?_)
          · skip
            refine v_iload_n ok 3 dX10_exchange_111 rfl rfl ?_
            exact v_iret ok rt dX10_exchange_112 (Or.inr (Or.inr (⟨F, O, C, J, rfl, rfl, (by omega), i23_3⟩)))
          · skip
            refine v_iload_n ok 2 dX10_exchange_107 rfl rfl ?_
            refine v_goto (tgt := 112) ok dX10_exchange_108 (by decide) ?_
            exact v_iret ok rt dX10_exchange_112 (Or.inr (Or.inl (⟨F, O, C, J, rfl, rfl, (by omega), i23_3⟩)))
        · skip
          refine v_iload ok 4 dX10_exchange_30 rfl ?_
          refine v_iconst (n := 1) ok dX10_exchange_32 ?_
          refine v_iadd ok dX10_exchange_33 ?_
          refine v_istore ok [(5, iv (s + 1)), (0, rf g 78), (1, iv w), (2, iv r), (3, iv p), (4, iv s)] dX10_exchange_34 (by decide) rfl ?_
          have lp36 : ∀ (fu : Nat) (t p r x : Int) (F O C J : Int → Int), (s + 1 ≤ t ∧ t ≤ 8) → ((p, r) = exI (fun s t => pkW (swp (M 79) s t)) s (exO (fun s t => pkW (swp (M 79) s t)) (pkW (M 79)) s.toNat) (t - s - 1).toNat) → (0 ≤ p ∧ p ≤ 129600) → (∀ j : Int, j ≠ 13 → C j = M 78 j) → (8 - t).toNat < fu → V z g 7 (up1 (up1 (up1 (up1 M 84 F) 85 O) 78 C) 86 J) [(0, rf g 78), (1, iv w), (2, iv r), (3, iv p), (4, iv s), (5, iv t)] [] 36 := by
            intro fu
            induction fu with
            | zero => intro t p r x F O C J _ _ _ _ hm; exact absurd hm (Nat.not_lt_zero _)
            | succ fu ih36 =>
              intro t p r x F O C J i36_0 i36_1 i36_2 i36_3 hm36
              refine v_iload ok 5 dX10_exchange_36 rfl ?_
              refine v_bipush (n := 8) ok rfl dX10_exchange_38 ?_
              refine v_icmp_ge (tgt := 97) ok ⟨by omega, by omega⟩ (by decide) dX10_exchange_40 (by decide) (fun c16 => ?_) (fun c16 => ?_)
              · skip
                refine v_iinc ok 4 [(4, iv (s + 1)), (0, rf g 78), (1, iv w), (2, iv r), (3, iv p), (5, iv t)] dX10_exchange_97 rfl (by decide) rfl ?_
                refine v_goto (tgt := 23) ok dX10_exchange_100 (by decide) ?_
                refine v_lv (ls' := [(0, rf g 78), (1, iv w), (2, iv r), (3, iv p), (4, iv (s + 1))]) ok [1, 2, 3, 4, 0] rfl ?_
                exact ih23 (s + 1) p r F O C J (by omega) (by rw [exO_s i23_0.1 (by omega)]; rw [show t = 8 by omega] at i36_1; exact i36_1) i36_2 i36_3 (by omega)
              · skip
                refine v_aload_n ok 0 dX10_exchange_43 rfl rfl ?_
                refine v_iload ok 4 dX10_exchange_44 rfl ?_
                refine v_iload ok 5 dX10_exchange_46 rfl ?_
                refine v_callV (na := 2) (i := 78) (C := RX10) (T := TX10) (N := 22) (f0 := C) ok (ct_X10_changes z.2.1 g (up1 (up1 (up1 (up1 M 84 F) 85 O) 78 C) 86 J) s t (by first | omega | assumption) (by first | omega | assumption)) gX10_exchange_X10_changes (kd_lt (show kd 78 = 10 from rfl) (by decide)) rfl rfl (cellF_10 _ (by decide)) rfl (by decide +kernel) rfl (by decide) [] rfl (Nat.le_of_ble_eq_true rfl) dX10_exchange_48 (fun v18 M19 hp17 => ?_)
                obtain ⟨rfl, rfl⟩ := hp17
                show V z g 7 (up1 (up1 (up1 (up1 (up1 M 84 F) 85 O) 78 C) 86 J) 79 (swp ((M 79)) s t)) [(0, rf g 78), (1, iv w), (2, iv r), (3, iv p), (4, iv s), (5, iv t)] [] 51
                refine v_aload_n ok 0 dX10_exchange_51 rfl rfl ?_
                refine v_callV (na := 0) (i := 78) (C := RX10) (T := TX10) (N := 22) (f0 := C) ok (ct_X10_peak z.2.1 g (up1 (up1 (up1 (up1 (up1 M 84 F) 85 O) 78 C) 86 J) 79 (swp ((M 79)) s t))  (WOk_swp hw (by omega) (by omega) (by omega) (by omega))) gX10_exchange_X10_peak (kd_lt (show kd 78 = 10 from rfl) (by decide)) rfl rfl (cellF_10 _ (by decide)) rfl (by decide +kernel) rfl (by decide) [] rfl (Nat.le_of_ble_eq_true rfl) dX10_exchange_52 (fun v21 M22 hp20 => ?_)
                obtain ⟨F23, O24, C25, rfl, rfl, h26⟩ := hp20
                have h26 : ∀ j : Int, j ≠ 13 → C25 j = C j := h26
                show V z g 7 (up1 (up1 (up1 (up1 (up1 (up1 (up1 (up1 (up1 M 84 F) 85 O) 78 C) 86 J) 79 (swp ((M 79)) s t)) 84 F23) 85 O24) 78 C25) 86 (jnW ((swp ((M 79)) s t)))) [(0, rf g 78), (1, iv w), (2, iv r), (3, iv p), (4, iv s), (5, iv t)] [iv (pkW ((swp ((M 79)) s t)))] 55
                rw [show ((up1 (up1 (up1 (up1 (up1 (up1 (up1 (up1 (up1 M 84 F) 85 O) 78 C) 86 J) 79 (swp ((M 79)) s t)) 84 F23) 85 O24) 78 C25) 86 (jnW ((swp ((M 79)) s t)))) : Mem) = (up1 (up1 (up1 (up1 (up1 M 84 F23) 85 O24) 78 C25) 86 (jnW ((swp ((M 79)) s t)))) 79 (swp ((M 79)) s t)) from (by
                      funext j
                      by_cases hj0 : j = 84
                      · subst hj0; simp [up1, up1_self]
                      by_cases hj1 : j = 85
                      · subst hj1; simp [up1, up1_self]
                      by_cases hj2 : j = 78
                      · subst hj2; simp [up1, up1_self]
                      by_cases hj3 : j = 86
                      · subst hj3; simp [up1, up1_self]
                      by_cases hj4 : j = 79
                      · subst hj4; simp [up1, up1_self]
                      simp [up1, hj0, hj1, hj2, hj3, hj4])]
                have hC9 : ∀ j : Int, j ≠ 13 → C25 j = M 78 j := fun j hj => (h26 j hj).trans (i36_3 j hj)
                refine v_istore ok [(6, iv (pkW ((swp ((M 79)) s t)))), (0, rf g 78), (1, iv w), (2, iv r), (3, iv p), (4, iv s), (5, iv t)] dX10_exchange_55 (by decide) rfl ?_
                refine v_aload_n ok 1 dX10_exchange_57 rfl rfl ?_
                refine v_iload ok 5 dX10_exchange_58 rfl ?_
                refine v_iload ok 6 dX10_exchange_60 rfl ?_
                refine v_callV (na := 2) (i := 78) (C := RX10) (T := TX10) (N := 22) (f0 := C25) ok (ct_X10_changes z.2.1 g (up1 (up1 (up1 (up1 (up1 M 84 F23) 85 O24) 78 C25) 86 (jnW ((swp ((M 79)) s t)))) 79 (swp ((M 79)) s t)) s t (by first | omega | assumption) (by first | omega | assumption)) gX10_exchange_X10_changes (kd_lt (show kd 78 = 10 from rfl) (by decide)) rfl rfl (cellF_10 _ (by decide)) rfl (by decide +kernel) rfl (by decide) [] rfl (Nat.le_of_ble_eq_true rfl) dX10_exchange_62 (fun v28 M29 hp27 => ?_)
                obtain ⟨rfl, rfl⟩ := hp27
                show V z g 7 (up1 (up1 (up1 (up1 (up1 (up1 M 84 F23) 85 O24) 78 C25) 86 (jnW ((swp ((M 79)) s t)))) 79 (swp ((M 79)) s t)) 79 (swp ((swp ((M 79)) s t)) s t)) [(6, iv (pkW ((swp ((M 79)) s t)))), (0, rf g 78), (1, iv w), (2, iv r), (3, iv p), (4, iv s), (5, iv t)] [] 65
                rw [show ((up1 (up1 (up1 (up1 (up1 (up1 M 84 F23) 85 O24) 78 C25) 86 (jnW ((swp ((M 79)) s t)))) 79 (swp ((M 79)) s t)) 79 (swp ((swp ((M 79)) s t)) s t)) : Mem) = (up1 (up1 (up1 (up1 (up1 M 84 F23) 85 O24) 78 C25) 86 (jnW ((swp ((M 79)) s t)))) 79 (swp ((swp ((M 79)) s t)) s t)) from (by
                      funext j
                      by_cases hj0 : j = 84
                      · subst hj0; simp [up1, up1_self]
                      by_cases hj1 : j = 85
                      · subst hj1; simp [up1, up1_self]
                      by_cases hj2 : j = 78
                      · subst hj2; simp [up1, up1_self]
                      by_cases hj3 : j = 86
                      · subst hj3; simp [up1, up1_self]
                      by_cases hj4 : j = 79
                      · subst hj4; simp [up1, up1_self]
                      simp [up1, hj0, hj1, hj2, hj3, hj4])]
                rw [show ((up1 (up1 (up1 (up1 (up1 M 84 F23) 85 O24) 78 C25) 86 (jnW ((swp ((M 79)) s t)))) 79 (swp ((swp ((M 79)) s t)) s t)) : Mem) = (up1 (up1 (up1 (up1 (up1 M 84 F23) 85 O24) 78 C25) 86 (jnW ((swp ((M 79)) s t)))) 79 (swp (swp (M 79) s t) s t)) from (by funext j; by_cases hj0 : j = 78 <;> by_cases hj1 : j = 79 <;> by_cases hj2 : j = 84 <;> by_cases hj3 : j = 85 <;> by_cases hj4 : j = 86 <;> simp_all [up1])]
                rw [show ((up1 (up1 (up1 (up1 (up1 M 84 F23) 85 O24) 78 C25) 86 (jnW ((swp ((M 79)) s t)))) 79 (swp (swp (M 79) s t) s t)) : Mem) = (up1 (up1 (up1 (up1 M 84 F23) 85 O24) 78 C25) 86 (jnW ((swp ((M 79)) s t)))) from (by rw [swp_swp (show s ≠ t by omega)]; funext j; by_cases hj1 : j = 79 <;> by_cases hj0 : j = 78 <;> by_cases hj2 : j = 84 <;> by_cases hj3 : j = 85 <;> by_cases hj4 : j = 86 <;> simp_all [up1])]
                have hpk := pkW_rng (WOk_swp hw (s := s) (t := t) (by omega) (by omega) (by omega) (by omega))
                refine v_iload ok 0 dX10_exchange_65 rfl ?_
                refine v_iload_n ok 4 dX10_exchange_67 rfl rfl ?_
                refine v_icmp_ge (tgt := 82) ok ⟨by omega, by omega⟩ ⟨by omega, by omega⟩ dX10_exchange_68 (by decide) (fun c30 => ?_) (fun c30 => ?_)
                · skip
                  refine v_iload_n ok 3 dX10_exchange_82 rfl rfl ?_
                  refine v_istore_n ok [(2, iv r), (6, iv (pkW ((swp ((M 79)) s t)))), (0, rf g 78), (1, iv w), (3, iv p), (4, iv s), (5, iv t)] dX10_exchange_83 rfl (by decide) rfl ?_
                  refine v_iload_n ok 4 dX10_exchange_84 rfl rfl ?_
                  refine v_iload ok 1 dX10_exchange_85 rfl ?_
                  refine v_mmin ok ⟨by omega, by omega⟩ ⟨by omega, by omega⟩ mk_X10_exchange_159 mmins_X10_exchange mmi_X10_exchange mminc_X10_exchange ⟨by decide, Nat.le_of_ble_eq_true rfl⟩ dX10_exchange_87 ?_
                  have hb1 : (min p (pkW (swp (M 79) s t)), r) = exI (fun s t => pkW (swp (M 79) s t)) s (exO (fun s t => pkW (swp (M 79) s t)) (pkW (M 79)) s.toNat) (t + 1 - s - 1).toNat := by
                    rw [exI_s i36_0.1, ← i36_1]
                    unfold stp
                    rw [if_neg (by show ¬ pkW (swp (M 79) s t) < p; omega), Int.min_eq_left (by omega)]
                  refine v_istore_n ok [(3, iv (min p (pkW ((swp ((M 79)) s t))))), (2, iv r), (6, iv (pkW ((swp ((M 79)) s t)))), (0, rf g 78), (1, iv w), (4, iv s), (5, iv t)] dX10_exchange_90 rfl (by decide) rfl ?_
                  refine v_iinc ok 6 [(5, iv (t + 1)), (3, iv (min p (pkW ((swp ((M 79)) s t))))), (2, iv r), (6, iv (pkW ((swp ((M 79)) s t)))), (0, rf g 78), (1, iv w), (4, iv s)] dX10_exchange_91 rfl (by decide) rfl ?_
                  refine v_goto (tgt := 36) ok dX10_exchange_94 (by decide) ?_
                  refine v_lv (ls' := [(0, rf g 78), (1, iv w), (2, iv r), (3, iv (min p (pkW ((swp ((M 79)) s t))))), (4, iv s), (5, iv (t + 1))]) ok [4, 5, 2, 1, 6, 0] rfl ?_
                  exact ih36 (t + 1) (min p (pkW ((swp ((M 79)) s t)))) r 0 F23 O24 C25 (jnW ((swp ((M 79)) s t))) (by omega) hb1 (by omega) hC9 (by omega)
                · skip
                  refine v_bipush (n := 10) ok rfl dX10_exchange_71 ?_
                  refine v_iload ok 5 dX10_exchange_73 rfl ?_
                  refine v_imul ok dX10_exchange_75 ?_
                  refine v_iload ok 6 dX10_exchange_76 rfl ?_
                  refine v_iadd ok dX10_exchange_78 ?_
                  refine v_goto (tgt := 83) ok dX10_exchange_79 (by decide) ?_
                  refine v_istore_n ok [(2, iv ((10 * s) + t)), (6, iv (pkW ((swp ((M 79)) s t)))), (0, rf g 78), (1, iv w), (3, iv p), (4, iv s), (5, iv t)] dX10_exchange_83 rfl (by decide) rfl ?_
                  refine v_iload_n ok 4 dX10_exchange_84 rfl rfl ?_
                  refine v_iload ok 1 dX10_exchange_85 rfl ?_
                  refine v_mmin ok ⟨by omega, by omega⟩ ⟨by omega, by omega⟩ mk_X10_exchange_159 mmins_X10_exchange mmi_X10_exchange mminc_X10_exchange ⟨by decide, Nat.le_of_ble_eq_true rfl⟩ dX10_exchange_87 ?_
                  have hb1 : (min p (pkW (swp (M 79) s t)), ((10 * s) + t)) = exI (fun s t => pkW (swp (M 79) s t)) s (exO (fun s t => pkW (swp (M 79) s t)) (pkW (M 79)) s.toNat) (t + 1 - s - 1).toNat := by
                    rw [exI_s i36_0.1, ← i36_1]
                    unfold stp
                    rw [if_pos (by show pkW (swp (M 79) s t) < p; omega), Int.min_eq_right (by omega)]
                  refine v_istore_n ok [(3, iv (min p (pkW ((swp ((M 79)) s t))))), (2, iv ((10 * s) + t)), (6, iv (pkW ((swp ((M 79)) s t)))), (0, rf g 78), (1, iv w), (4, iv s), (5, iv t)] dX10_exchange_90 rfl (by decide) rfl ?_
                  refine v_iinc ok 6 [(5, iv (t + 1)), (3, iv (min p (pkW ((swp ((M 79)) s t))))), (2, iv ((10 * s) + t)), (6, iv (pkW ((swp ((M 79)) s t)))), (0, rf g 78), (1, iv w), (4, iv s)] dX10_exchange_91 rfl (by decide) rfl ?_
                  refine v_goto (tgt := 36) ok dX10_exchange_94 (by decide) ?_
                  refine v_lv (ls' := [(0, rf g 78), (1, iv w), (2, iv ((10 * s) + t)), (3, iv (min p (pkW ((swp ((M 79)) s t))))), (4, iv s), (5, iv (t + 1))]) ok [4, 5, 2, 1, 6, 0] rfl ?_
                  exact ih36 (t + 1) (min p (pkW ((swp ((M 79)) s t)))) ((10 * s) + t) 0 F23 O24 C25 (jnW ((swp ((M 79)) s t))) (by omega) hb1 (by omega) hC9 (by omega)
          refine v_lv (ls' := [(0, rf g 78), (1, iv w), (2, iv r), (3, iv p), (4, iv s), (5, iv (s + 1))]) ok [1, 2, 3, 4, 5, 0] rfl ?_
          exact lp36 _ (s + 1) p r 0 F O C J (by omega) (by rw [show (s + 1 - s - 1).toNat = 0 by omega]; exact i23_1) i23_2 i23_3 (Nat.lt_succ_self _)
    refine v_lv (ls' := [(0, rf g 78), (1, iv w), (2, iv (-5)), (3, iv (pkW ((M 79)))), (4, iv 0)]) ok [3, 4, 2, 1, 0] rfl ?_
    exact lp23 _ 0 (pkW ((M 79))) (-5) F10 O11 C12 (jnW ((M 79))) (by omega) rfl (pkW_rng hw) hC9 (Nat.lt_succ_self _)
  · skip
    subst M3
    show V z g 7 M [(0, rf g 78), (1, iv w)] [iv 0] 7
    refine v_if_ne (tgt := 12) ok (by decide) dX10_exchange_7 (by decide) (fun c31 => absurd c31 (by decide)) (fun c31 => ?_)
    refine v_iconst (n := -1) ok dX10_exchange_10 ?_
    exact v_iret ok rt dX10_exchange_11 (Or.inl (⟨rfl, rfl, (by omega)⟩))

theorem mk_X10_see_229 : Cond.constantLong RX10 229 (9999) ∈ wsX10_see := by decide +kernel
theorem mk_X10_see_11 : Cond.fieldLink RX10 11 "StormRunoffModel" "w" "[I" ∈ wsX10_see := by decide +kernel
theorem mi_X10_see_10 : ∀ w ∈ wsX100, w ∈ wsX10_see := by decide +kernel
set_option maxRecDepth 100000 in
set_option maxHeartbeats 400000 in
theorem ct_X10_see (l : Launch) (g : Gl) (M : Mem) (h n : Int) (hh : i32 h) (hn : i32 n) (hrw : 0 ≤ M 79 45 ∧ M 79 45 ≤ 5) : Ct l g yX10_see wsX10_see 2 45 [rf g 78, iv h, iv n] M (fun rv M' => (rv = some (iv 0) ∧ M' = (up1 M 79 (up (M 79) 45 0)) ∧ (h = -1)) ∨ (rv = some (iv (-1)) ∧ M' = M ∧ (h ≠ -1) ∧ (¬ (0 ≤ h ∧ h ≤ 29))) ∨ (rv = some (iv (-2)) ∧ M' = M ∧ (0 ≤ h ∧ h ≤ 29) ∧ (¬ (0 ≤ n ∧ n ≤ 9999))) ∨ (rv = some (iv (-4)) ∧ M' = M ∧ (0 ≤ h ∧ h ≤ 29) ∧ (0 ≤ n ∧ n ≤ 9999) ∧ (M 79 45 = 5)) ∨ (rv = some (iv (M 79 45 + 1)) ∧ M' = (up1 M 79 (adW (M 79) 45 46 h n)) ∧ (0 ≤ h ∧ h ≤ 29) ∧ (0 ≤ n ∧ n ≤ 9999) ∧ (M 79 45 < 5))) := by
  refine Ct.of (cc := cX10_see) (nL := 4) (ret := (some .int)) (by decide) rfl (Nat.le_of_ble_eq_true rfl) (fun z hz ok rt => ?_)
  have ok : Ok z g cX10_see 4 RX10 wsX10_see 2 45 := ok
  show V z g 4 M [(0, rf g 78), (1, iv h), (2, iv n)] [] 0
  refine v_iload_n ok 1 dX10_see_0 rfl rfl ?_
  refine v_iconst (n := -1) ok dX10_see_1 ?_
  refine v_icmp_ne (tgt := 15) ok ⟨by omega, by omega⟩ (by decide) dX10_see_2 (by decide) (fun c1 => ?_) (fun c1 => ?_)
  · skip
    refine v_iload_n ok 1 dX10_see_15 rfl rfl ?_
    refine v_callS (na := 1) ok (ct_X10_isHour z.2.1 g M h ⟨by omega, by omega⟩) gX10_see_X10_isHour rfl (by decide +kernel) rfl (by decide) [] rfl (Nat.le_of_ble_eq_true rfl) dX10_see_16 (fun v3 M4 hp2 => ?_)
    rcases hp2 with ⟨rfl, eM4, h5⟩ | ⟨rfl, eM4, h6⟩
    · skip
      subst M4
      show V z g 4 M [(0, rf g 78), (1, iv h), (2, iv n)] [iv 1] 19
      refine v_if_ne (tgt := 24) ok (by decide) dX10_see_19 (by decide) (fun c7 => ?_) (fun c7 => absurd c7 (by decide))
      refine v_iload_n ok 2 dX10_see_24 rfl rfl ?_
      refine v_i2l ok ⟨by omega, by omega⟩ dX10_see_25 ?_
      refine v_lconst (n := 0) ok rfl dX10_see_26 ?_
      refine v_ldc2 (n := 9999) ok mk_X10_see_229 rfl dX10_see_27 ?_
      refine v_callS (na := 3) ok (ct_X10_in z.2.1 g M n 0 9999 ⟨by omega, by omega⟩ (by decide) (by decide)) gX10_see_X10_in rfl (by decide +kernel) rfl (by decide) [] rfl (Nat.le_of_ble_eq_true rfl) dX10_see_30 (fun v9 M10 hp8 => ?_)
      rcases hp8 with ⟨rfl, eM10, h11⟩ | ⟨rfl, eM10, h12⟩
      · skip
        subst M10
        show V z g 4 M [(0, rf g 78), (1, iv h), (2, iv n)] [iv 1] 33
        refine v_if_ne (tgt := 39) ok (by decide) dX10_see_33 (by decide) (fun c13 => ?_) (fun c13 => absurd c13 (by decide))
        refine v_aload_n ok 0 dX10_see_39 rfl rfl ?_
        refine v_get (T := TX10) (N := 22) (f0 := (M 78)) (v := rf g 79) ok mi_X10_see_10 (kd_lt (show kd 78 = 10 from rfl) (by decide)) rfl rfl (cellF_10 _ (by decide)) 0 (by decide) mk_X10_see_11 rfl rfl dX10_see_40 ?_
        refine v_bipush (n := 45) ok rfl dX10_see_43 ?_
        refine v_iald (n := 90) (f0 := (M 79)) ok (by decide) rfl (by omega) rfl dX10_see_45 ?_
        refine v_iconst (n := 5) ok dX10_see_46 ?_
        refine v_icmp_ne (tgt := 53) ok ⟨by omega, by omega⟩ (by decide) dX10_see_47 (by decide) (fun c14 => ?_) (fun c14 => ?_)
        · skip
          refine v_bipush (n := 46) ok rfl dX10_see_53 ?_
          refine v_iconst (n := 2) ok dX10_see_55 ?_
          refine v_aload_n ok 0 dX10_see_56 rfl rfl ?_
          refine v_get (T := TX10) (N := 22) (f0 := (M 78)) (v := rf g 79) ok mi_X10_see_10 (kd_lt (show kd 78 = 10 from rfl) (by decide)) rfl rfl (cellF_10 _ (by decide)) 0 (by decide) mk_X10_see_11 rfl rfl dX10_see_57 ?_
          refine v_bipush (n := 45) ok rfl dX10_see_60 ?_
          refine v_iald (n := 90) (f0 := (M 79)) ok (by decide) rfl (by omega) rfl dX10_see_62 ?_
          refine v_imul ok dX10_see_63 ?_
          refine v_iadd ok dX10_see_64 ?_
          refine v_istore_n ok [(3, iv (46 + (2 * (M 79 45)))), (0, rf g 78), (1, iv h), (2, iv n)] dX10_see_65 rfl (by decide) rfl ?_
          refine v_aload_n ok 1 dX10_see_66 rfl rfl ?_
          refine v_get (T := TX10) (N := 22) (f0 := (M 78)) (v := rf g 79) ok mi_X10_see_10 (kd_lt (show kd 78 = 10 from rfl) (by decide)) rfl rfl (cellF_10 _ (by decide)) 0 (by decide) mk_X10_see_11 rfl rfl dX10_see_67 ?_
          refine v_iload_n ok 0 dX10_see_70 rfl rfl ?_
          refine v_iload_n ok 2 dX10_see_71 rfl rfl ?_
          refine v_iast (n := 90) (f0 := (M 79)) ok (by decide) rfl (by omega) rfl dX10_see_72 ?_
          refine v_aload_n ok 1 dX10_see_73 rfl rfl ?_
          refine v_get (T := TX10) (N := 22) (f0 := (M 78)) (v := rf g 79) ok mi_X10_see_10 (kd_lt (show kd 78 = 10 from rfl) (by decide)) rfl rfl (cellF_10 _ (by decide)) 0 (by decide) mk_X10_see_11 rfl rfl dX10_see_74 ?_
          refine v_iload_n ok 0 dX10_see_77 rfl rfl ?_
          refine v_iconst (n := 1) ok dX10_see_78 ?_
          refine v_iadd ok dX10_see_79 ?_
          refine v_iload_n ok 3 dX10_see_80 rfl rfl ?_
          refine v_iast (n := 90) (f0 := up (M 79) (46 + (2 * (M 79 45))) h) ok (by decide) rfl (by omega) rfl dX10_see_81 ?_
          rw [up1_up1]
          refine v_aload_n ok 1 dX10_see_82 rfl rfl ?_
          refine v_get (T := TX10) (N := 22) (f0 := (M 78)) (v := rf g 79) ok mi_X10_see_10 (kd_lt (show kd 78 = 10 from rfl) (by decide)) rfl rfl (cellF_10 _ (by decide)) 0 (by decide) mk_X10_see_11 rfl rfl dX10_see_83 ?_
          refine v_bipush (n := 45) ok rfl dX10_see_86 ?_
          refine v_dup2 ok rfl rfl dX10_see_88 ?_
          refine v_iald (n := 90) (f0 := up (up (M 79) (46 + (2 * (M 79 45))) h) ((46 + (2 * (M 79 45))) + 1) n) ok (by decide) rfl (by omega) rfl dX10_see_89 ?_
          rw [show ((up (up (M 79) (46 + (2 * (M 79 45))) h) ((46 + (2 * (M 79 45))) + 1) n 45) : Int) = (M 79 45) from (by rw [up_ne (by omega), up_ne (by omega)])]
          refine v_iconst (n := 1) ok dX10_see_90 ?_
          refine v_iadd ok dX10_see_91 ?_
          refine v_iast (n := 90) (f0 := up (up (M 79) (46 + (2 * (M 79 45))) h) ((46 + (2 * (M 79 45))) + 1) n) ok (by decide) rfl (by omega) rfl dX10_see_92 ?_
          rw [up1_up1]
          refine v_cong (n := 90) (adW (M 79) 45 46 h n) (Or.inl (by decide)) rfl (fun j j0 j1 => rfl) ?_
          refine v_aload_n ok 1 dX10_see_93 rfl rfl ?_
          refine v_get (T := TX10) (N := 22) (f0 := (M 78)) (v := rf g 79) ok mi_X10_see_10 (kd_lt (show kd 78 = 10 from rfl) (by decide)) rfl rfl (cellF_10 _ (by decide)) 0 (by decide) mk_X10_see_11 rfl rfl dX10_see_94 ?_
          refine v_bipush (n := 45) ok rfl dX10_see_97 ?_
          refine v_iald (n := 90) (f0 := (adW (M 79) 45 46 h n)) ok (by decide) rfl (by omega) rfl dX10_see_99 ?_
          exact v_iret ok rt dX10_see_100 (Or.inr (Or.inr (Or.inr (Or.inr (⟨(congrArg (fun q : Int => some (iv q)) (show ((adW (M 79) 45 46 h n) 45) = (M 79 45 + 1) from by (unfold adW; rw [up_same]))), rfl, (by omega), (by omega), (by omega)⟩)))))
        · skip
          refine v_bipush (n := -4) ok rfl dX10_see_50 ?_
          exact v_iret ok rt dX10_see_52 (Or.inr (Or.inr (Or.inr (Or.inl (⟨rfl, rfl, (by omega), (by omega), (by omega)⟩)))))
      · skip
        subst M10
        show V z g 4 M [(0, rf g 78), (1, iv h), (2, iv n)] [iv 0] 33
        refine v_if_ne (tgt := 39) ok (by decide) dX10_see_33 (by decide) (fun c15 => absurd c15 (by decide)) (fun c15 => ?_)
        refine v_bipush (n := -2) ok rfl dX10_see_36 ?_
        exact v_iret ok rt dX10_see_38 (Or.inr (Or.inr (Or.inl (⟨rfl, rfl, (by omega), (by omega)⟩))))
    · skip
      subst M4
      show V z g 4 M [(0, rf g 78), (1, iv h), (2, iv n)] [iv 0] 19
      refine v_if_ne (tgt := 24) ok (by decide) dX10_see_19 (by decide) (fun c16 => absurd c16 (by decide)) (fun c16 => ?_)
      refine v_iconst (n := -1) ok dX10_see_22 ?_
      exact v_iret ok rt dX10_see_23 (Or.inr (Or.inl (⟨rfl, rfl, (by omega), (by omega)⟩)))
  · skip
    refine v_aload_n ok 0 dX10_see_5 rfl rfl ?_
    refine v_get (T := TX10) (N := 22) (f0 := (M 78)) (v := rf g 79) ok mi_X10_see_10 (kd_lt (show kd 78 = 10 from rfl) (by decide)) rfl rfl (cellF_10 _ (by decide)) 0 (by decide) mk_X10_see_11 rfl rfl dX10_see_6 ?_
    refine v_bipush (n := 45) ok rfl dX10_see_9 ?_
    refine v_iconst (n := 0) ok dX10_see_11 ?_
    refine v_iast (n := 90) (f0 := (M 79)) ok (by decide) rfl (by omega) rfl dX10_see_12 ?_
    refine v_iconst (n := 0) ok dX10_see_13 ?_
    exact v_iret ok rt dX10_see_14 (Or.inl (⟨rfl, rfl, (by omega)⟩))

theorem mk_X10_book_229 : Cond.constantLong RX10 229 (9999) ∈ wsX10_book := by decide +kernel
theorem mk_X10_book_11 : Cond.fieldLink RX10 11 "StormRunoffModel" "w" "[I" ∈ wsX10_book := by decide +kernel
theorem mi_X10_book_10 : ∀ w ∈ wsX100, w ∈ wsX10_book := by decide +kernel
set_option maxRecDepth 100000 in
set_option maxHeartbeats 400000 in
theorem ct_X10_book (l : Launch) (g : Gl) (M : Mem) (h n : Int) (hh : i32 h) (hn : i32 n) (hrw : 0 ≤ M 79 73 ∧ M 79 73 ≤ 8) : Ct l g yX10_book wsX10_book 2 45 [rf g 78, iv h, iv n] M (fun rv M' => (rv = some (iv 0) ∧ M' = (up1 M 79 (up (M 79) 73 0)) ∧ (h = -1)) ∨ (rv = some (iv (-1)) ∧ M' = M ∧ (h ≠ -1) ∧ (¬ (0 ≤ h ∧ h ≤ 29))) ∨ (rv = some (iv (-2)) ∧ M' = M ∧ (0 ≤ h ∧ h ≤ 29) ∧ (¬ (0 ≤ n ∧ n ≤ 9999))) ∨ (rv = some (iv (-4)) ∧ M' = M ∧ (0 ≤ h ∧ h ≤ 29) ∧ (0 ≤ n ∧ n ≤ 9999) ∧ (M 79 73 = 8)) ∨ (rv = some (iv (M 79 73 + 1)) ∧ M' = (up1 M 79 (adW (M 79) 73 74 h n)) ∧ (0 ≤ h ∧ h ≤ 29) ∧ (0 ≤ n ∧ n ≤ 9999) ∧ (M 79 73 < 8))) := by
  refine Ct.of (cc := cX10_book) (nL := 4) (ret := (some .int)) (by decide) rfl (Nat.le_of_ble_eq_true rfl) (fun z hz ok rt => ?_)
  have ok : Ok z g cX10_book 4 RX10 wsX10_book 2 45 := ok
  show V z g 4 M [(0, rf g 78), (1, iv h), (2, iv n)] [] 0
  refine v_iload_n ok 1 dX10_book_0 rfl rfl ?_
  refine v_iconst (n := -1) ok dX10_book_1 ?_
  refine v_icmp_ne (tgt := 15) ok ⟨by omega, by omega⟩ (by decide) dX10_book_2 (by decide) (fun c1 => ?_) (fun c1 => ?_)
  · skip
    refine v_iload_n ok 1 dX10_book_15 rfl rfl ?_
    refine v_callS (na := 1) ok (ct_X10_isHour z.2.1 g M h ⟨by omega, by omega⟩) gX10_book_X10_isHour rfl (by decide +kernel) rfl (by decide) [] rfl (Nat.le_of_ble_eq_true rfl) dX10_book_16 (fun v3 M4 hp2 => ?_)
    rcases hp2 with ⟨rfl, eM4, h5⟩ | ⟨rfl, eM4, h6⟩
    · skip
      subst M4
      show V z g 4 M [(0, rf g 78), (1, iv h), (2, iv n)] [iv 1] 19
      refine v_if_ne (tgt := 24) ok (by decide) dX10_book_19 (by decide) (fun c7 => ?_) (fun c7 => absurd c7 (by decide))
      refine v_iload_n ok 2 dX10_book_24 rfl rfl ?_
      refine v_i2l ok ⟨by omega, by omega⟩ dX10_book_25 ?_
      refine v_lconst (n := 0) ok rfl dX10_book_26 ?_
      refine v_ldc2 (n := 9999) ok mk_X10_book_229 rfl dX10_book_27 ?_
      refine v_callS (na := 3) ok (ct_X10_in z.2.1 g M n 0 9999 ⟨by omega, by omega⟩ (by decide) (by decide)) gX10_book_X10_in rfl (by decide +kernel) rfl (by decide) [] rfl (Nat.le_of_ble_eq_true rfl) dX10_book_30 (fun v9 M10 hp8 => ?_)
      rcases hp8 with ⟨rfl, eM10, h11⟩ | ⟨rfl, eM10, h12⟩
      · skip
        subst M10
        show V z g 4 M [(0, rf g 78), (1, iv h), (2, iv n)] [iv 1] 33
        refine v_if_ne (tgt := 39) ok (by decide) dX10_book_33 (by decide) (fun c13 => ?_) (fun c13 => absurd c13 (by decide))
        refine v_aload_n ok 0 dX10_book_39 rfl rfl ?_
        refine v_get (T := TX10) (N := 22) (f0 := (M 78)) (v := rf g 79) ok mi_X10_book_10 (kd_lt (show kd 78 = 10 from rfl) (by decide)) rfl rfl (cellF_10 _ (by decide)) 0 (by decide) mk_X10_book_11 rfl rfl dX10_book_40 ?_
        refine v_bipush (n := 73) ok rfl dX10_book_43 ?_
        refine v_iald (n := 90) (f0 := (M 79)) ok (by decide) rfl (by omega) rfl dX10_book_45 ?_
        refine v_bipush (n := 8) ok rfl dX10_book_46 ?_
        refine v_icmp_ne (tgt := 54) ok ⟨by omega, by omega⟩ (by decide) dX10_book_48 (by decide) (fun c14 => ?_) (fun c14 => ?_)
        · skip
          refine v_bipush (n := 74) ok rfl dX10_book_54 ?_
          refine v_iconst (n := 2) ok dX10_book_56 ?_
          refine v_aload_n ok 0 dX10_book_57 rfl rfl ?_
          refine v_get (T := TX10) (N := 22) (f0 := (M 78)) (v := rf g 79) ok mi_X10_book_10 (kd_lt (show kd 78 = 10 from rfl) (by decide)) rfl rfl (cellF_10 _ (by decide)) 0 (by decide) mk_X10_book_11 rfl rfl dX10_book_58 ?_
          refine v_bipush (n := 73) ok rfl dX10_book_61 ?_
          refine v_iald (n := 90) (f0 := (M 79)) ok (by decide) rfl (by omega) rfl dX10_book_63 ?_
          refine v_imul ok dX10_book_64 ?_
          refine v_iadd ok dX10_book_65 ?_
          refine v_istore_n ok [(3, iv (74 + (2 * (M 79 73)))), (0, rf g 78), (1, iv h), (2, iv n)] dX10_book_66 rfl (by decide) rfl ?_
          refine v_aload_n ok 1 dX10_book_67 rfl rfl ?_
          refine v_get (T := TX10) (N := 22) (f0 := (M 78)) (v := rf g 79) ok mi_X10_book_10 (kd_lt (show kd 78 = 10 from rfl) (by decide)) rfl rfl (cellF_10 _ (by decide)) 0 (by decide) mk_X10_book_11 rfl rfl dX10_book_68 ?_
          refine v_iload_n ok 0 dX10_book_71 rfl rfl ?_
          refine v_iload_n ok 2 dX10_book_72 rfl rfl ?_
          refine v_iast (n := 90) (f0 := (M 79)) ok (by decide) rfl (by omega) rfl dX10_book_73 ?_
          refine v_aload_n ok 1 dX10_book_74 rfl rfl ?_
          refine v_get (T := TX10) (N := 22) (f0 := (M 78)) (v := rf g 79) ok mi_X10_book_10 (kd_lt (show kd 78 = 10 from rfl) (by decide)) rfl rfl (cellF_10 _ (by decide)) 0 (by decide) mk_X10_book_11 rfl rfl dX10_book_75 ?_
          refine v_iload_n ok 0 dX10_book_78 rfl rfl ?_
          refine v_iconst (n := 1) ok dX10_book_79 ?_
          refine v_iadd ok dX10_book_80 ?_
          refine v_iload_n ok 3 dX10_book_81 rfl rfl ?_
          refine v_iast (n := 90) (f0 := up (M 79) (74 + (2 * (M 79 73))) h) ok (by decide) rfl (by omega) rfl dX10_book_82 ?_
          rw [up1_up1]
          refine v_aload_n ok 1 dX10_book_83 rfl rfl ?_
          refine v_get (T := TX10) (N := 22) (f0 := (M 78)) (v := rf g 79) ok mi_X10_book_10 (kd_lt (show kd 78 = 10 from rfl) (by decide)) rfl rfl (cellF_10 _ (by decide)) 0 (by decide) mk_X10_book_11 rfl rfl dX10_book_84 ?_
          refine v_bipush (n := 73) ok rfl dX10_book_87 ?_
          refine v_dup2 ok rfl rfl dX10_book_89 ?_
          refine v_iald (n := 90) (f0 := up (up (M 79) (74 + (2 * (M 79 73))) h) ((74 + (2 * (M 79 73))) + 1) n) ok (by decide) rfl (by omega) rfl dX10_book_90 ?_
          rw [show ((up (up (M 79) (74 + (2 * (M 79 73))) h) ((74 + (2 * (M 79 73))) + 1) n 73) : Int) = (M 79 73) from (by rw [up_ne (by omega), up_ne (by omega)])]
          refine v_iconst (n := 1) ok dX10_book_91 ?_
          refine v_iadd ok dX10_book_92 ?_
          refine v_iast (n := 90) (f0 := up (up (M 79) (74 + (2 * (M 79 73))) h) ((74 + (2 * (M 79 73))) + 1) n) ok (by decide) rfl (by omega) rfl dX10_book_93 ?_
          rw [up1_up1]
          refine v_cong (n := 90) (adW (M 79) 73 74 h n) (Or.inl (by decide)) rfl (fun j j0 j1 => rfl) ?_
          refine v_aload_n ok 1 dX10_book_94 rfl rfl ?_
          refine v_get (T := TX10) (N := 22) (f0 := (M 78)) (v := rf g 79) ok mi_X10_book_10 (kd_lt (show kd 78 = 10 from rfl) (by decide)) rfl rfl (cellF_10 _ (by decide)) 0 (by decide) mk_X10_book_11 rfl rfl dX10_book_95 ?_
          refine v_bipush (n := 73) ok rfl dX10_book_98 ?_
          refine v_iald (n := 90) (f0 := (adW (M 79) 73 74 h n)) ok (by decide) rfl (by omega) rfl dX10_book_100 ?_
          exact v_iret ok rt dX10_book_101 (Or.inr (Or.inr (Or.inr (Or.inr (⟨(congrArg (fun q : Int => some (iv q)) (show ((adW (M 79) 73 74 h n) 73) = (M 79 73 + 1) from by (unfold adW; rw [up_same]))), rfl, (by omega), (by omega), (by omega)⟩)))))
        · skip
          refine v_bipush (n := -4) ok rfl dX10_book_51 ?_
          exact v_iret ok rt dX10_book_53 (Or.inr (Or.inr (Or.inr (Or.inl (⟨rfl, rfl, (by omega), (by omega), (by omega)⟩)))))
      · skip
        subst M10
        show V z g 4 M [(0, rf g 78), (1, iv h), (2, iv n)] [iv 0] 33
        refine v_if_ne (tgt := 39) ok (by decide) dX10_book_33 (by decide) (fun c15 => absurd c15 (by decide)) (fun c15 => ?_)
        refine v_bipush (n := -2) ok rfl dX10_book_36 ?_
        exact v_iret ok rt dX10_book_38 (Or.inr (Or.inr (Or.inl (⟨rfl, rfl, (by omega), (by omega)⟩))))
    · skip
      subst M4
      show V z g 4 M [(0, rf g 78), (1, iv h), (2, iv n)] [iv 0] 19
      refine v_if_ne (tgt := 24) ok (by decide) dX10_book_19 (by decide) (fun c16 => absurd c16 (by decide)) (fun c16 => ?_)
      refine v_iconst (n := -1) ok dX10_book_22 ?_
      exact v_iret ok rt dX10_book_23 (Or.inr (Or.inl (⟨rfl, rfl, (by omega), (by omega)⟩)))
  · skip
    refine v_aload_n ok 0 dX10_book_5 rfl rfl ?_
    refine v_get (T := TX10) (N := 22) (f0 := (M 78)) (v := rf g 79) ok mi_X10_book_10 (kd_lt (show kd 78 = 10 from rfl) (by decide)) rfl rfl (cellF_10 _ (by decide)) 0 (by decide) mk_X10_book_11 rfl rfl dX10_book_6 ?_
    refine v_bipush (n := 73) ok rfl dX10_book_9 ?_
    refine v_iconst (n := 0) ok dX10_book_11 ?_
    refine v_iast (n := 90) (f0 := (M 79)) ok (by decide) rfl (by omega) rfl dX10_book_12 ?_
    refine v_iconst (n := 0) ok dX10_book_13 ?_
    exact v_iret ok rt dX10_book_14 (Or.inl (⟨rfl, rfl, (by omega)⟩))

theorem mk_X10_event_212 : Cond.constantLong RX10 212 (3) ∈ wsX10_event := by decide +kernel
theorem mk_X10_event_67 : Cond.constantLong RX10 67 (7) ∈ wsX10_event := by decide +kernel
theorem mk_X10_event_11 : Cond.fieldLink RX10 11 "StormRunoffModel" "w" "[I" ∈ wsX10_event := by decide +kernel
theorem mi_X10_event_10 : ∀ w ∈ wsX100, w ∈ wsX10_event := by decide +kernel
set_option maxRecDepth 100000 in
set_option maxHeartbeats 400000 in
theorem ct_X10_event (l : Launch) (g : Gl) (M : Mem) (w n : Int) (hwi : i32 w) (hn : i32 n) (hm : 0 ≤ M 79 20 ∧ M 79 20 ≤ 3) (hrw : 0 ≤ M 79 56 ∧ M 79 56 ≤ 8) : Ct l g yX10_event wsX10_event 2 46 [rf g 78, iv w, iv n] M (fun rv M' => (rv = some (iv 0) ∧ M' = (up1 M 79 (up (M 79) 56 0)) ∧ (w = -1)) ∨ (rv = some (iv (-1)) ∧ M' = M ∧ (w ≠ -1) ∧ (¬ (0 ≤ w ∧ w ≤ 3) ∨ (0 ≤ w ∧ w ≤ 1 ∧ ¬ (0 ≤ n ∧ n ≤ 7)) ∨ (w = 2 ∧ ¬ (0 ≤ n ∧ n < M 79 20)))) ∨ (rv = some (iv (-2)) ∧ M' = M ∧ (w = 3) ∧ (¬ (0 ≤ n ∧ n ≤ 7))) ∨ (rv = some (iv (-4)) ∧ M' = M ∧ ((0 ≤ w ∧ w ≤ 1 ∧ 0 ≤ n ∧ n ≤ 7) ∨ (w = 2 ∧ 0 ≤ n ∧ n < M 79 20) ∨ (w = 3 ∧ 0 ≤ n ∧ n ≤ 7)) ∧ (M 79 56 = 8)) ∨ (rv = some (iv (M 79 56 + 1)) ∧ M' = (up1 M 79 (adW (M 79) 56 57 w n)) ∧ ((0 ≤ w ∧ w ≤ 1 ∧ 0 ≤ n ∧ n ≤ 7) ∨ (w = 2 ∧ 0 ≤ n ∧ n < M 79 20) ∨ (w = 3 ∧ 0 ≤ n ∧ n ≤ 7)) ∧ (M 79 56 < 8))) := by
  refine Ct.of (cc := cX10_event) (nL := 4) (ret := (some .int)) (by decide) rfl (Nat.le_of_ble_eq_true rfl) (fun z hz ok rt => ?_)
  have ok : Ok z g cX10_event 4 RX10 wsX10_event 2 46 := ok
  show V z g 4 M [(0, rf g 78), (1, iv w), (2, iv n)] [] 0
  refine v_iload_n ok 1 dX10_event_0 rfl rfl ?_
  refine v_iconst (n := -1) ok dX10_event_1 ?_
  refine v_icmp_ne (tgt := 15) ok ⟨by omega, by omega⟩ (by decide) dX10_event_2 (by decide) (fun c1 => ?_) (fun c1 => ?_)
  · skip
    refine v_iload_n ok 1 dX10_event_15 rfl rfl ?_
    refine v_i2l ok ⟨by omega, by omega⟩ dX10_event_16 ?_
    refine v_lconst (n := 0) ok rfl dX10_event_17 ?_
    refine v_ldc2 (n := 3) ok mk_X10_event_212 rfl dX10_event_18 ?_
    refine v_callS (na := 3) ok (ct_X10_in z.2.1 g M w 0 3 ⟨by omega, by omega⟩ (by decide) (by decide)) gX10_event_X10_in rfl (by decide +kernel) rfl (by decide) [] rfl (Nat.le_of_ble_eq_true rfl) dX10_event_21 (fun v3 M4 hp2 => ?_)
    rcases hp2 with ⟨rfl, eM4, h5⟩ | ⟨rfl, eM4, h6⟩
    · skip
      subst M4
      show V z g 4 M [(0, rf g 78), (1, iv w), (2, iv n)] [iv 1] 24
      refine v_if_eq (tgt := 52) ok (by decide) dX10_event_24 (by decide) (fun c7 => absurd c7 (by decide)) (fun c7 => ?_)
      refine v_iload_n ok 1 dX10_event_27 rfl rfl ?_
      refine v_iconst (n := 2) ok dX10_event_28 ?_
      refine v_icmp_ge (tgt := 39) ok ⟨by omega, by omega⟩ (by decide) dX10_event_29 (by decide) (fun c8 => ?_) (fun c8 => ?_)
      · skip
        refine v_iload_n ok 1 dX10_event_39 rfl rfl ?_
        refine v_iconst (n := 2) ok dX10_event_40 ?_
        refine v_icmp_ne (tgt := 54) ok ⟨by omega, by omega⟩ (by decide) dX10_event_41 (by decide) (fun c9 => ?_) (fun c9 => ?_)
        · skip
          refine v_iload_n ok 2 dX10_event_54 rfl rfl ?_
          refine v_i2l ok ⟨by omega, by omega⟩ dX10_event_55 ?_
          refine v_lconst (n := 0) ok rfl dX10_event_56 ?_
          refine v_ldc2 (n := 7) ok mk_X10_event_67 rfl dX10_event_57 ?_
          refine v_callS (na := 3) ok (ct_X10_in z.2.1 g M n 0 7 ⟨by omega, by omega⟩ (by decide) (by decide)) gX10_event_X10_in rfl (by decide +kernel) rfl (by decide) [] rfl (Nat.le_of_ble_eq_true rfl) dX10_event_60 (fun v11 M12 hp10 => ?_)
          rcases hp10 with ⟨rfl, eM12, h13⟩ | ⟨rfl, eM12, h14⟩
          · skip
            subst M12
            show V z g 4 M [(0, rf g 78), (1, iv w), (2, iv n)] [iv 1] 63
            refine v_if_ne (tgt := 69) ok (by decide) dX10_event_63 (by decide) (fun c15 => ?_) (fun c15 => absurd c15 (by decide))
            refine v_aload_n ok 0 dX10_event_69 rfl rfl ?_
            refine v_get (T := TX10) (N := 22) (f0 := (M 78)) (v := rf g 79) ok mi_X10_event_10 (kd_lt (show kd 78 = 10 from rfl) (by decide)) rfl rfl (cellF_10 _ (by decide)) 0 (by decide) mk_X10_event_11 rfl rfl dX10_event_70 ?_
            refine v_bipush (n := 56) ok rfl dX10_event_73 ?_
            refine v_iald (n := 90) (f0 := (M 79)) ok (by decide) rfl (by omega) rfl dX10_event_75 ?_
            refine v_bipush (n := 8) ok rfl dX10_event_76 ?_
            refine v_icmp_ne (tgt := 84) ok ⟨by omega, by omega⟩ (by decide) dX10_event_78 (by decide) (fun c16 => ?_) (fun c16 => ?_)
            · skip
              refine v_bipush (n := 57) ok rfl dX10_event_84 ?_
              refine v_iconst (n := 2) ok dX10_event_86 ?_
              refine v_aload_n ok 0 dX10_event_87 rfl rfl ?_
              refine v_get (T := TX10) (N := 22) (f0 := (M 78)) (v := rf g 79) ok mi_X10_event_10 (kd_lt (show kd 78 = 10 from rfl) (by decide)) rfl rfl (cellF_10 _ (by decide)) 0 (by decide) mk_X10_event_11 rfl rfl dX10_event_88 ?_
              refine v_bipush (n := 56) ok rfl dX10_event_91 ?_
              refine v_iald (n := 90) (f0 := (M 79)) ok (by decide) rfl (by omega) rfl dX10_event_93 ?_
              refine v_imul ok dX10_event_94 ?_
              refine v_iadd ok dX10_event_95 ?_
              refine v_istore_n ok [(3, iv (57 + (2 * (M 79 56)))), (0, rf g 78), (1, iv w), (2, iv n)] dX10_event_96 rfl (by decide) rfl ?_
              refine v_aload_n ok 1 dX10_event_97 rfl rfl ?_
              refine v_get (T := TX10) (N := 22) (f0 := (M 78)) (v := rf g 79) ok mi_X10_event_10 (kd_lt (show kd 78 = 10 from rfl) (by decide)) rfl rfl (cellF_10 _ (by decide)) 0 (by decide) mk_X10_event_11 rfl rfl dX10_event_98 ?_
              refine v_iload_n ok 0 dX10_event_101 rfl rfl ?_
              refine v_iload_n ok 2 dX10_event_102 rfl rfl ?_
              refine v_iast (n := 90) (f0 := (M 79)) ok (by decide) rfl (by omega) rfl dX10_event_103 ?_
              refine v_aload_n ok 1 dX10_event_104 rfl rfl ?_
              refine v_get (T := TX10) (N := 22) (f0 := (M 78)) (v := rf g 79) ok mi_X10_event_10 (kd_lt (show kd 78 = 10 from rfl) (by decide)) rfl rfl (cellF_10 _ (by decide)) 0 (by decide) mk_X10_event_11 rfl rfl dX10_event_105 ?_
              refine v_iload_n ok 0 dX10_event_108 rfl rfl ?_
              refine v_iconst (n := 1) ok dX10_event_109 ?_
              refine v_iadd ok dX10_event_110 ?_
              refine v_iload_n ok 3 dX10_event_111 rfl rfl ?_
              refine v_iast (n := 90) (f0 := up (M 79) (57 + (2 * (M 79 56))) w) ok (by decide) rfl (by omega) rfl dX10_event_112 ?_
              rw [up1_up1]
              refine v_aload_n ok 1 dX10_event_113 rfl rfl ?_
              refine v_get (T := TX10) (N := 22) (f0 := (M 78)) (v := rf g 79) ok mi_X10_event_10 (kd_lt (show kd 78 = 10 from rfl) (by decide)) rfl rfl (cellF_10 _ (by decide)) 0 (by decide) mk_X10_event_11 rfl rfl dX10_event_114 ?_
              refine v_bipush (n := 56) ok rfl dX10_event_117 ?_
              refine v_dup2 ok rfl rfl dX10_event_119 ?_
              refine v_iald (n := 90) (f0 := up (up (M 79) (57 + (2 * (M 79 56))) w) ((57 + (2 * (M 79 56))) + 1) n) ok (by decide) rfl (by omega) rfl dX10_event_120 ?_
              rw [show ((up (up (M 79) (57 + (2 * (M 79 56))) w) ((57 + (2 * (M 79 56))) + 1) n 56) : Int) = (M 79 56) from (by rw [up_ne (by omega), up_ne (by omega)])]
              refine v_iconst (n := 1) ok dX10_event_121 ?_
              refine v_iadd ok dX10_event_122 ?_
              refine v_iast (n := 90) (f0 := up (up (M 79) (57 + (2 * (M 79 56))) w) ((57 + (2 * (M 79 56))) + 1) n) ok (by decide) rfl (by omega) rfl dX10_event_123 ?_
              rw [up1_up1]
              refine v_cong (n := 90) (adW (M 79) 56 57 w n) (Or.inl (by decide)) rfl (fun j j0 j1 => rfl) ?_
              refine v_aload_n ok 1 dX10_event_124 rfl rfl ?_
              refine v_get (T := TX10) (N := 22) (f0 := (M 78)) (v := rf g 79) ok mi_X10_event_10 (kd_lt (show kd 78 = 10 from rfl) (by decide)) rfl rfl (cellF_10 _ (by decide)) 0 (by decide) mk_X10_event_11 rfl rfl dX10_event_125 ?_
              refine v_bipush (n := 56) ok rfl dX10_event_128 ?_
              refine v_iald (n := 90) (f0 := (adW (M 79) 56 57 w n)) ok (by decide) rfl (by omega) rfl dX10_event_130 ?_
              exact v_iret ok rt dX10_event_131 (Or.inr (Or.inr (Or.inr (Or.inr (⟨(congrArg (fun q : Int => some (iv q)) (show ((adW (M 79) 56 57 w n) 56) = (M 79 56 + 1) from by (unfold adW; rw [up_same]))), rfl, (by omega), (by omega)⟩)))))
            · skip
              refine v_bipush (n := -4) ok rfl dX10_event_81 ?_
              exact v_iret ok rt dX10_event_83 (Or.inr (Or.inr (Or.inr (Or.inl (⟨rfl, rfl, (by omega), (by omega)⟩)))))
          · skip
            subst M12
            show V z g 4 M [(0, rf g 78), (1, iv w), (2, iv n)] [iv 0] 63
            refine v_if_ne (tgt := 69) ok (by decide) dX10_event_63 (by decide) (fun c17 => absurd c17 (by decide)) (fun c17 => ?_)
            refine v_bipush (n := -2) ok rfl dX10_event_66 ?_
            exact v_iret ok rt dX10_event_68 (Or.inr (Or.inr (Or.inl (⟨rfl, rfl, (by omega), (by omega)⟩))))
        · skip
          refine v_aload_n ok 0 dX10_event_44 rfl rfl ?_
          refine v_iload_n ok 2 dX10_event_45 rfl rfl ?_
          refine v_callV (na := 1) (i := 78) (C := RX10) (T := TX10) (N := 22) (f0 := (M 78)) ok (ct_X10_isBasin z.2.1 g M n ⟨by omega, by omega⟩ (by first | omega | assumption)) gX10_event_X10_isBasin (kd_lt (show kd 78 = 10 from rfl) (by decide)) rfl rfl (cellF_10 _ (by decide)) rfl (by decide +kernel) rfl (by decide) [] rfl (Nat.le_of_ble_eq_true rfl) dX10_event_46 (fun v19 M20 hp18 => ?_)
          rcases hp18 with ⟨rfl, eM20, h21⟩ | ⟨rfl, eM20, h22⟩
          · skip
            subst M20
            have h21 : 0 ≤ n ∧ n < (M 79) 20 := h21
            show V z g 4 M [(0, rf g 78), (1, iv w), (2, iv n)] [iv 1] 49
            refine v_if_ne (tgt := 54) ok (by decide) dX10_event_49 (by decide) (fun c23 => ?_) (fun c23 => absurd c23 (by decide))
            refine v_iload_n ok 2 dX10_event_54 rfl rfl ?_
            refine v_i2l ok ⟨by omega, by omega⟩ dX10_event_55 ?_
            refine v_lconst (n := 0) ok rfl dX10_event_56 ?_
            refine v_ldc2 (n := 7) ok mk_X10_event_67 rfl dX10_event_57 ?_
            refine v_callS (na := 3) ok (ct_X10_in z.2.1 g M n 0 7 ⟨by omega, by omega⟩ (by decide) (by decide)) gX10_event_X10_in rfl (by decide +kernel) rfl (by decide) [] rfl (Nat.le_of_ble_eq_true rfl) dX10_event_60 (fun v25 M26 hp24 => ?_)
            rcases hp24 with ⟨rfl, eM26, h27⟩ | ⟨rfl, eM26, h28⟩
            · skip
              subst M26
              show V z g 4 M [(0, rf g 78), (1, iv w), (2, iv n)] [iv 1] 63
              refine v_if_ne (tgt := 69) ok (by decide) dX10_event_63 (by decide) (fun c29 => ?_) (fun c29 => absurd c29 (by decide))
              refine v_aload_n ok 0 dX10_event_69 rfl rfl ?_
              refine v_get (T := TX10) (N := 22) (f0 := (M 78)) (v := rf g 79) ok mi_X10_event_10 (kd_lt (show kd 78 = 10 from rfl) (by decide)) rfl rfl (cellF_10 _ (by decide)) 0 (by decide) mk_X10_event_11 rfl rfl dX10_event_70 ?_
              refine v_bipush (n := 56) ok rfl dX10_event_73 ?_
              refine v_iald (n := 90) (f0 := (M 79)) ok (by decide) rfl (by omega) rfl dX10_event_75 ?_
              refine v_bipush (n := 8) ok rfl dX10_event_76 ?_
              refine v_icmp_ne (tgt := 84) ok ⟨by omega, by omega⟩ (by decide) dX10_event_78 (by decide) (fun c30 => ?_) (fun c30 => ?_)
              · skip
                refine v_bipush (n := 57) ok rfl dX10_event_84 ?_
                refine v_iconst (n := 2) ok dX10_event_86 ?_
                refine v_aload_n ok 0 dX10_event_87 rfl rfl ?_
                refine v_get (T := TX10) (N := 22) (f0 := (M 78)) (v := rf g 79) ok mi_X10_event_10 (kd_lt (show kd 78 = 10 from rfl) (by decide)) rfl rfl (cellF_10 _ (by decide)) 0 (by decide) mk_X10_event_11 rfl rfl dX10_event_88 ?_
                refine v_bipush (n := 56) ok rfl dX10_event_91 ?_
                refine v_iald (n := 90) (f0 := (M 79)) ok (by decide) rfl (by omega) rfl dX10_event_93 ?_
                refine v_imul ok dX10_event_94 ?_
                refine v_iadd ok dX10_event_95 ?_
                refine v_istore_n ok [(3, iv (57 + (2 * (M 79 56)))), (0, rf g 78), (1, iv w), (2, iv n)] dX10_event_96 rfl (by decide) rfl ?_
                refine v_aload_n ok 1 dX10_event_97 rfl rfl ?_
                refine v_get (T := TX10) (N := 22) (f0 := (M 78)) (v := rf g 79) ok mi_X10_event_10 (kd_lt (show kd 78 = 10 from rfl) (by decide)) rfl rfl (cellF_10 _ (by decide)) 0 (by decide) mk_X10_event_11 rfl rfl dX10_event_98 ?_
                refine v_iload_n ok 0 dX10_event_101 rfl rfl ?_
                refine v_iload_n ok 2 dX10_event_102 rfl rfl ?_
                refine v_iast (n := 90) (f0 := (M 79)) ok (by decide) rfl (by omega) rfl dX10_event_103 ?_
                refine v_aload_n ok 1 dX10_event_104 rfl rfl ?_
                refine v_get (T := TX10) (N := 22) (f0 := (M 78)) (v := rf g 79) ok mi_X10_event_10 (kd_lt (show kd 78 = 10 from rfl) (by decide)) rfl rfl (cellF_10 _ (by decide)) 0 (by decide) mk_X10_event_11 rfl rfl dX10_event_105 ?_
                refine v_iload_n ok 0 dX10_event_108 rfl rfl ?_
                refine v_iconst (n := 1) ok dX10_event_109 ?_
                refine v_iadd ok dX10_event_110 ?_
                refine v_iload_n ok 3 dX10_event_111 rfl rfl ?_
                refine v_iast (n := 90) (f0 := up (M 79) (57 + (2 * (M 79 56))) w) ok (by decide) rfl (by omega) rfl dX10_event_112 ?_
                rw [up1_up1]
                refine v_aload_n ok 1 dX10_event_113 rfl rfl ?_
                refine v_get (T := TX10) (N := 22) (f0 := (M 78)) (v := rf g 79) ok mi_X10_event_10 (kd_lt (show kd 78 = 10 from rfl) (by decide)) rfl rfl (cellF_10 _ (by decide)) 0 (by decide) mk_X10_event_11 rfl rfl dX10_event_114 ?_
                refine v_bipush (n := 56) ok rfl dX10_event_117 ?_
                refine v_dup2 ok rfl rfl dX10_event_119 ?_
                refine v_iald (n := 90) (f0 := up (up (M 79) (57 + (2 * (M 79 56))) w) ((57 + (2 * (M 79 56))) + 1) n) ok (by decide) rfl (by omega) rfl dX10_event_120 ?_
                rw [show ((up (up (M 79) (57 + (2 * (M 79 56))) w) ((57 + (2 * (M 79 56))) + 1) n 56) : Int) = (M 79 56) from (by rw [up_ne (by omega), up_ne (by omega)])]
                refine v_iconst (n := 1) ok dX10_event_121 ?_
                refine v_iadd ok dX10_event_122 ?_
                refine v_iast (n := 90) (f0 := up (up (M 79) (57 + (2 * (M 79 56))) w) ((57 + (2 * (M 79 56))) + 1) n) ok (by decide) rfl (by omega) rfl dX10_event_123 ?_
                rw [up1_up1]
                refine v_cong (n := 90) (adW (M 79) 56 57 w n) (Or.inl (by decide)) rfl (fun j j0 j1 => rfl) ?_
                refine v_aload_n ok 1 dX10_event_124 rfl rfl ?_
                refine v_get (T := TX10) (N := 22) (f0 := (M 78)) (v := rf g 79) ok mi_X10_event_10 (kd_lt (show kd 78 = 10 from rfl) (by decide)) rfl rfl (cellF_10 _ (by decide)) 0 (by decide) mk_X10_event_11 rfl rfl dX10_event_125 ?_
                refine v_bipush (n := 56) ok rfl dX10_event_128 ?_
                refine v_iald (n := 90) (f0 := (adW (M 79) 56 57 w n)) ok (by decide) rfl (by omega) rfl dX10_event_130 ?_
                exact v_iret ok rt dX10_event_131 (Or.inr (Or.inr (Or.inr (Or.inr (⟨(congrArg (fun q : Int => some (iv q)) (show ((adW (M 79) 56 57 w n) 56) = (M 79 56 + 1) from by (unfold adW; rw [up_same]))), rfl, (by omega), (by omega)⟩)))))
              · skip
                refine v_bipush (n := -4) ok rfl dX10_event_81 ?_
                exact v_iret ok rt dX10_event_83 (Or.inr (Or.inr (Or.inr (Or.inl (⟨rfl, rfl, (by omega), (by omega)⟩)))))
            · skip
              subst M26
              show V z g 4 M [(0, rf g 78), (1, iv w), (2, iv n)] [iv 0] 63
              refine v_if_ne (tgt := 69) ok (by decide) dX10_event_63 (by decide) (fun c31 => absurd c31 (by decide)) (fun c31 => ?_)
              refine v_bipush (n := -2) ok rfl dX10_event_66 ?_
              exact v_iret ok rt dX10_event_68 (Or.inr (Or.inr (Or.inl (⟨rfl, rfl, (by omega), (by omega)⟩))))
          · skip
            subst M20
            have h22 : ¬ (0 ≤ n ∧ n < (M 79) 20) := h22
            show V z g 4 M [(0, rf g 78), (1, iv w), (2, iv n)] [iv 0] 49
            refine v_if_ne (tgt := 54) ok (by decide) dX10_event_49 (by decide) (fun c32 => absurd c32 (by decide)) (fun c32 => ?_)
            refine v_iconst (n := -1) ok dX10_event_52 ?_
            exact v_iret ok rt dX10_event_53 (Or.inr (Or.inl (⟨rfl, rfl, (by omega), (by omega)⟩)))
      · skip
        refine v_iload_n ok 2 dX10_event_32 rfl rfl ?_
        refine v_callS (na := 1) ok (ct_X10_isRain z.2.1 g M n ⟨by omega, by omega⟩) gX10_event_X10_isRain rfl (by decide +kernel) rfl (by decide) [] rfl (Nat.le_of_ble_eq_true rfl) dX10_event_33 (fun v34 M35 hp33 => ?_)
        rcases hp33 with ⟨rfl, eM35, h36⟩ | ⟨rfl, eM35, h37⟩
        · skip
          subst M35
          show V z g 4 M [(0, rf g 78), (1, iv w), (2, iv n)] [iv 1] 36
          refine v_if_eq (tgt := 52) ok (by decide) dX10_event_36 (by decide) (fun c38 => absurd c38 (by decide)) (fun c38 => ?_)
          refine v_iload_n ok 1 dX10_event_39 rfl rfl ?_
          refine v_iconst (n := 2) ok dX10_event_40 ?_
          refine v_icmp_ne (tgt := 54) ok ⟨by omega, by omega⟩ (by decide) dX10_event_41 (by decide) (fun c39 => ?_) (fun c39 => ?_)
          · skip
            refine v_iload_n ok 2 dX10_event_54 rfl rfl ?_
            refine v_i2l ok ⟨by omega, by omega⟩ dX10_event_55 ?_
            refine v_lconst (n := 0) ok rfl dX10_event_56 ?_
            refine v_ldc2 (n := 7) ok mk_X10_event_67 rfl dX10_event_57 ?_
            refine v_callS (na := 3) ok (ct_X10_in z.2.1 g M n 0 7 ⟨by omega, by omega⟩ (by decide) (by decide)) gX10_event_X10_in rfl (by decide +kernel) rfl (by decide) [] rfl (Nat.le_of_ble_eq_true rfl) dX10_event_60 (fun v41 M42 hp40 => ?_)
            rcases hp40 with ⟨rfl, eM42, h43⟩ | ⟨rfl, eM42, h44⟩
            · skip
              subst M42
              show V z g 4 M [(0, rf g 78), (1, iv w), (2, iv n)] [iv 1] 63
              refine v_if_ne (tgt := 69) ok (by decide) dX10_event_63 (by decide) (fun c45 => ?_) (fun c45 => absurd c45 (by decide))
              refine v_aload_n ok 0 dX10_event_69 rfl rfl ?_
              refine v_get (T := TX10) (N := 22) (f0 := (M 78)) (v := rf g 79) ok mi_X10_event_10 (kd_lt (show kd 78 = 10 from rfl) (by decide)) rfl rfl (cellF_10 _ (by decide)) 0 (by decide) mk_X10_event_11 rfl rfl dX10_event_70 ?_
              refine v_bipush (n := 56) ok rfl dX10_event_73 ?_
              refine v_iald (n := 90) (f0 := (M 79)) ok (by decide) rfl (by omega) rfl dX10_event_75 ?_
              refine v_bipush (n := 8) ok rfl dX10_event_76 ?_
              refine v_icmp_ne (tgt := 84) ok ⟨by omega, by omega⟩ (by decide) dX10_event_78 (by decide) (fun c46 => ?_) (fun c46 => ?_)
              · skip
                refine v_bipush (n := 57) ok rfl dX10_event_84 ?_
                refine v_iconst (n := 2) ok dX10_event_86 ?_
                refine v_aload_n ok 0 dX10_event_87 rfl rfl ?_
                refine v_get (T := TX10) (N := 22) (f0 := (M 78)) (v := rf g 79) ok mi_X10_event_10 (kd_lt (show kd 78 = 10 from rfl) (by decide)) rfl rfl (cellF_10 _ (by decide)) 0 (by decide) mk_X10_event_11 rfl rfl dX10_event_88 ?_
                refine v_bipush (n := 56) ok rfl dX10_event_91 ?_
                refine v_iald (n := 90) (f0 := (M 79)) ok (by decide) rfl (by omega) rfl dX10_event_93 ?_
                refine v_imul ok dX10_event_94 ?_
                refine v_iadd ok dX10_event_95 ?_
                refine v_istore_n ok [(3, iv (57 + (2 * (M 79 56)))), (0, rf g 78), (1, iv w), (2, iv n)] dX10_event_96 rfl (by decide) rfl ?_
                refine v_aload_n ok 1 dX10_event_97 rfl rfl ?_
                refine v_get (T := TX10) (N := 22) (f0 := (M 78)) (v := rf g 79) ok mi_X10_event_10 (kd_lt (show kd 78 = 10 from rfl) (by decide)) rfl rfl (cellF_10 _ (by decide)) 0 (by decide) mk_X10_event_11 rfl rfl dX10_event_98 ?_
                refine v_iload_n ok 0 dX10_event_101 rfl rfl ?_
                refine v_iload_n ok 2 dX10_event_102 rfl rfl ?_
                refine v_iast (n := 90) (f0 := (M 79)) ok (by decide) rfl (by omega) rfl dX10_event_103 ?_
                refine v_aload_n ok 1 dX10_event_104 rfl rfl ?_
                refine v_get (T := TX10) (N := 22) (f0 := (M 78)) (v := rf g 79) ok mi_X10_event_10 (kd_lt (show kd 78 = 10 from rfl) (by decide)) rfl rfl (cellF_10 _ (by decide)) 0 (by decide) mk_X10_event_11 rfl rfl dX10_event_105 ?_
                refine v_iload_n ok 0 dX10_event_108 rfl rfl ?_
                refine v_iconst (n := 1) ok dX10_event_109 ?_
                refine v_iadd ok dX10_event_110 ?_
                refine v_iload_n ok 3 dX10_event_111 rfl rfl ?_
                refine v_iast (n := 90) (f0 := up (M 79) (57 + (2 * (M 79 56))) w) ok (by decide) rfl (by omega) rfl dX10_event_112 ?_
                rw [up1_up1]
                refine v_aload_n ok 1 dX10_event_113 rfl rfl ?_
                refine v_get (T := TX10) (N := 22) (f0 := (M 78)) (v := rf g 79) ok mi_X10_event_10 (kd_lt (show kd 78 = 10 from rfl) (by decide)) rfl rfl (cellF_10 _ (by decide)) 0 (by decide) mk_X10_event_11 rfl rfl dX10_event_114 ?_
                refine v_bipush (n := 56) ok rfl dX10_event_117 ?_
                refine v_dup2 ok rfl rfl dX10_event_119 ?_
                refine v_iald (n := 90) (f0 := up (up (M 79) (57 + (2 * (M 79 56))) w) ((57 + (2 * (M 79 56))) + 1) n) ok (by decide) rfl (by omega) rfl dX10_event_120 ?_
                rw [show ((up (up (M 79) (57 + (2 * (M 79 56))) w) ((57 + (2 * (M 79 56))) + 1) n 56) : Int) = (M 79 56) from (by rw [up_ne (by omega), up_ne (by omega)])]
                refine v_iconst (n := 1) ok dX10_event_121 ?_
                refine v_iadd ok dX10_event_122 ?_
                refine v_iast (n := 90) (f0 := up (up (M 79) (57 + (2 * (M 79 56))) w) ((57 + (2 * (M 79 56))) + 1) n) ok (by decide) rfl (by omega) rfl dX10_event_123 ?_
                rw [up1_up1]
                refine v_cong (n := 90) (adW (M 79) 56 57 w n) (Or.inl (by decide)) rfl (fun j j0 j1 => rfl) ?_
                refine v_aload_n ok 1 dX10_event_124 rfl rfl ?_
                refine v_get (T := TX10) (N := 22) (f0 := (M 78)) (v := rf g 79) ok mi_X10_event_10 (kd_lt (show kd 78 = 10 from rfl) (by decide)) rfl rfl (cellF_10 _ (by decide)) 0 (by decide) mk_X10_event_11 rfl rfl dX10_event_125 ?_
                refine v_bipush (n := 56) ok rfl dX10_event_128 ?_
                refine v_iald (n := 90) (f0 := (adW (M 79) 56 57 w n)) ok (by decide) rfl (by omega) rfl dX10_event_130 ?_
                exact v_iret ok rt dX10_event_131 (Or.inr (Or.inr (Or.inr (Or.inr (⟨(congrArg (fun q : Int => some (iv q)) (show ((adW (M 79) 56 57 w n) 56) = (M 79 56 + 1) from by (unfold adW; rw [up_same]))), rfl, (by omega), (by omega)⟩)))))
              · skip
                refine v_bipush (n := -4) ok rfl dX10_event_81 ?_
                exact v_iret ok rt dX10_event_83 (Or.inr (Or.inr (Or.inr (Or.inl (⟨rfl, rfl, (by omega), (by omega)⟩)))))
            · skip
              subst M42
              show V z g 4 M [(0, rf g 78), (1, iv w), (2, iv n)] [iv 0] 63
              refine v_if_ne (tgt := 69) ok (by decide) dX10_event_63 (by decide) (fun c47 => absurd c47 (by decide)) (fun c47 => ?_)
              refine v_bipush (n := -2) ok rfl dX10_event_66 ?_
              exact v_iret ok rt dX10_event_68 (Or.inr (Or.inr (Or.inl (⟨rfl, rfl, (by omega), (by omega)⟩))))
          · skip
            refine v_aload_n ok 0 dX10_event_44 rfl rfl ?_
            refine v_iload_n ok 2 dX10_event_45 rfl rfl ?_
            refine v_callV (na := 1) (i := 78) (C := RX10) (T := TX10) (N := 22) (f0 := (M 78)) ok (ct_X10_isBasin z.2.1 g M n ⟨by omega, by omega⟩ (by first | omega | assumption)) gX10_event_X10_isBasin (kd_lt (show kd 78 = 10 from rfl) (by decide)) rfl rfl (cellF_10 _ (by decide)) rfl (by decide +kernel) rfl (by decide) [] rfl (Nat.le_of_ble_eq_true rfl) dX10_event_46 (fun v49 M50 hp48 => ?_)
            rcases hp48 with ⟨rfl, eM50, h51⟩ | ⟨rfl, eM50, h52⟩
            · skip
              subst M50
              have h51 : 0 ≤ n ∧ n < (M 79) 20 := h51
              show V z g 4 M [(0, rf g 78), (1, iv w), (2, iv n)] [iv 1] 49
              refine v_if_ne (tgt := 54) ok (by decide) dX10_event_49 (by decide) (fun c53 => ?_) (fun c53 => absurd c53 (by decide))
              refine v_iload_n ok 2 dX10_event_54 rfl rfl ?_
              refine v_i2l ok ⟨by omega, by omega⟩ dX10_event_55 ?_
              refine v_lconst (n := 0) ok rfl dX10_event_56 ?_
              refine v_ldc2 (n := 7) ok mk_X10_event_67 rfl dX10_event_57 ?_
              refine v_callS (na := 3) ok (ct_X10_in z.2.1 g M n 0 7 ⟨by omega, by omega⟩ (by decide) (by decide)) gX10_event_X10_in rfl (by decide +kernel) rfl (by decide) [] rfl (Nat.le_of_ble_eq_true rfl) dX10_event_60 (fun v55 M56 hp54 => ?_)
              rcases hp54 with ⟨rfl, eM56, h57⟩ | ⟨rfl, eM56, h58⟩
              · skip
                subst M56
                show V z g 4 M [(0, rf g 78), (1, iv w), (2, iv n)] [iv 1] 63
                refine v_if_ne (tgt := 69) ok (by decide) dX10_event_63 (by decide) (fun c59 => ?_) (fun c59 => absurd c59 (by decide))
                refine v_aload_n ok 0 dX10_event_69 rfl rfl ?_
                refine v_get (T := TX10) (N := 22) (f0 := (M 78)) (v := rf g 79) ok mi_X10_event_10 (kd_lt (show kd 78 = 10 from rfl) (by decide)) rfl rfl (cellF_10 _ (by decide)) 0 (by decide) mk_X10_event_11 rfl rfl dX10_event_70 ?_
                refine v_bipush (n := 56) ok rfl dX10_event_73 ?_
                refine v_iald (n := 90) (f0 := (M 79)) ok (by decide) rfl (by omega) rfl dX10_event_75 ?_
                refine v_bipush (n := 8) ok rfl dX10_event_76 ?_
                refine v_icmp_ne (tgt := 84) ok ⟨by omega, by omega⟩ (by decide) dX10_event_78 (by decide) (fun c60 => ?_) (fun c60 => ?_)
                · skip
                  refine v_bipush (n := 57) ok rfl dX10_event_84 ?_
                  refine v_iconst (n := 2) ok dX10_event_86 ?_
                  refine v_aload_n ok 0 dX10_event_87 rfl rfl ?_
                  refine v_get (T := TX10) (N := 22) (f0 := (M 78)) (v := rf g 79) ok mi_X10_event_10 (kd_lt (show kd 78 = 10 from rfl) (by decide)) rfl rfl (cellF_10 _ (by decide)) 0 (by decide) mk_X10_event_11 rfl rfl dX10_event_88 ?_
                  refine v_bipush (n := 56) ok rfl dX10_event_91 ?_
                  refine v_iald (n := 90) (f0 := (M 79)) ok (by decide) rfl (by omega) rfl dX10_event_93 ?_
                  refine v_imul ok dX10_event_94 ?_
                  refine v_iadd ok dX10_event_95 ?_
                  refine v_istore_n ok [(3, iv (57 + (2 * (M 79 56)))), (0, rf g 78), (1, iv w), (2, iv n)] dX10_event_96 rfl (by decide) rfl ?_
                  refine v_aload_n ok 1 dX10_event_97 rfl rfl ?_
                  refine v_get (T := TX10) (N := 22) (f0 := (M 78)) (v := rf g 79) ok mi_X10_event_10 (kd_lt (show kd 78 = 10 from rfl) (by decide)) rfl rfl (cellF_10 _ (by decide)) 0 (by decide) mk_X10_event_11 rfl rfl dX10_event_98 ?_
                  refine v_iload_n ok 0 dX10_event_101 rfl rfl ?_
                  refine v_iload_n ok 2 dX10_event_102 rfl rfl ?_
                  refine v_iast (n := 90) (f0 := (M 79)) ok (by decide) rfl (by omega) rfl dX10_event_103 ?_
                  refine v_aload_n ok 1 dX10_event_104 rfl rfl ?_
                  refine v_get (T := TX10) (N := 22) (f0 := (M 78)) (v := rf g 79) ok mi_X10_event_10 (kd_lt (show kd 78 = 10 from rfl) (by decide)) rfl rfl (cellF_10 _ (by decide)) 0 (by decide) mk_X10_event_11 rfl rfl dX10_event_105 ?_
                  refine v_iload_n ok 0 dX10_event_108 rfl rfl ?_
                  refine v_iconst (n := 1) ok dX10_event_109 ?_
                  refine v_iadd ok dX10_event_110 ?_
                  refine v_iload_n ok 3 dX10_event_111 rfl rfl ?_
                  refine v_iast (n := 90) (f0 := up (M 79) (57 + (2 * (M 79 56))) w) ok (by decide) rfl (by omega) rfl dX10_event_112 ?_
                  rw [up1_up1]
                  refine v_aload_n ok 1 dX10_event_113 rfl rfl ?_
                  refine v_get (T := TX10) (N := 22) (f0 := (M 78)) (v := rf g 79) ok mi_X10_event_10 (kd_lt (show kd 78 = 10 from rfl) (by decide)) rfl rfl (cellF_10 _ (by decide)) 0 (by decide) mk_X10_event_11 rfl rfl dX10_event_114 ?_
                  refine v_bipush (n := 56) ok rfl dX10_event_117 ?_
                  refine v_dup2 ok rfl rfl dX10_event_119 ?_
                  refine v_iald (n := 90) (f0 := up (up (M 79) (57 + (2 * (M 79 56))) w) ((57 + (2 * (M 79 56))) + 1) n) ok (by decide) rfl (by omega) rfl dX10_event_120 ?_
                  rw [show ((up (up (M 79) (57 + (2 * (M 79 56))) w) ((57 + (2 * (M 79 56))) + 1) n 56) : Int) = (M 79 56) from (by rw [up_ne (by omega), up_ne (by omega)])]
                  refine v_iconst (n := 1) ok dX10_event_121 ?_
                  refine v_iadd ok dX10_event_122 ?_
                  refine v_iast (n := 90) (f0 := up (up (M 79) (57 + (2 * (M 79 56))) w) ((57 + (2 * (M 79 56))) + 1) n) ok (by decide) rfl (by omega) rfl dX10_event_123 ?_
                  rw [up1_up1]
                  refine v_cong (n := 90) (adW (M 79) 56 57 w n) (Or.inl (by decide)) rfl (fun j j0 j1 => rfl) ?_
                  refine v_aload_n ok 1 dX10_event_124 rfl rfl ?_
                  refine v_get (T := TX10) (N := 22) (f0 := (M 78)) (v := rf g 79) ok mi_X10_event_10 (kd_lt (show kd 78 = 10 from rfl) (by decide)) rfl rfl (cellF_10 _ (by decide)) 0 (by decide) mk_X10_event_11 rfl rfl dX10_event_125 ?_
                  refine v_bipush (n := 56) ok rfl dX10_event_128 ?_
                  refine v_iald (n := 90) (f0 := (adW (M 79) 56 57 w n)) ok (by decide) rfl (by omega) rfl dX10_event_130 ?_
                  exact v_iret ok rt dX10_event_131 (Or.inr (Or.inr (Or.inr (Or.inr (⟨(congrArg (fun q : Int => some (iv q)) (show ((adW (M 79) 56 57 w n) 56) = (M 79 56 + 1) from by (unfold adW; rw [up_same]))), rfl, (by omega), (by omega)⟩)))))
                · skip
                  refine v_bipush (n := -4) ok rfl dX10_event_81 ?_
                  exact v_iret ok rt dX10_event_83 (Or.inr (Or.inr (Or.inr (Or.inl (⟨rfl, rfl, (by omega), (by omega)⟩)))))
              · skip
                subst M56
                show V z g 4 M [(0, rf g 78), (1, iv w), (2, iv n)] [iv 0] 63
                refine v_if_ne (tgt := 69) ok (by decide) dX10_event_63 (by decide) (fun c61 => absurd c61 (by decide)) (fun c61 => ?_)
                refine v_bipush (n := -2) ok rfl dX10_event_66 ?_
                exact v_iret ok rt dX10_event_68 (Or.inr (Or.inr (Or.inl (⟨rfl, rfl, (by omega), (by omega)⟩))))
            · skip
              subst M50
              have h52 : ¬ (0 ≤ n ∧ n < (M 79) 20) := h52
              show V z g 4 M [(0, rf g 78), (1, iv w), (2, iv n)] [iv 0] 49
              refine v_if_ne (tgt := 54) ok (by decide) dX10_event_49 (by decide) (fun c62 => absurd c62 (by decide)) (fun c62 => ?_)
              refine v_iconst (n := -1) ok dX10_event_52 ?_
              exact v_iret ok rt dX10_event_53 (Or.inr (Or.inl (⟨rfl, rfl, (by omega), (by omega)⟩)))
        · skip
          subst M35
          show V z g 4 M [(0, rf g 78), (1, iv w), (2, iv n)] [iv 0] 36
          refine v_if_eq (tgt := 52) ok (by decide) dX10_event_36 (by decide) (fun c63 => ?_) (fun c63 => absurd c63 (by decide))
          refine v_iconst (n := -1) ok dX10_event_52 ?_
          exact v_iret ok rt dX10_event_53 (Or.inr (Or.inl (⟨rfl, rfl, (by omega), (by omega)⟩)))
    · skip
      subst M4
      show V z g 4 M [(0, rf g 78), (1, iv w), (2, iv n)] [iv 0] 24
      refine v_if_eq (tgt := 52) ok (by decide) dX10_event_24 (by decide) (fun c64 => ?_) (fun c64 => absurd c64 (by decide))
      refine v_iconst (n := -1) ok dX10_event_52 ?_
      exact v_iret ok rt dX10_event_53 (Or.inr (Or.inl (⟨rfl, rfl, (by omega), (by omega)⟩)))
  · skip
    refine v_aload_n ok 0 dX10_event_5 rfl rfl ?_
    refine v_get (T := TX10) (N := 22) (f0 := (M 78)) (v := rf g 79) ok mi_X10_event_10 (kd_lt (show kd 78 = 10 from rfl) (by decide)) rfl rfl (cellF_10 _ (by decide)) 0 (by decide) mk_X10_event_11 rfl rfl dX10_event_6 ?_
    refine v_bipush (n := 56) ok rfl dX10_event_9 ?_
    refine v_iconst (n := 0) ok dX10_event_11 ?_
    refine v_iast (n := 90) (f0 := (M 79)) ok (by decide) rfl (by omega) rfl dX10_event_12 ?_
    refine v_iconst (n := 0) ok dX10_event_13 ?_
    exact v_iret ok rt dX10_event_14 (Or.inl (⟨rfl, rfl, (by omega)⟩))

theorem mk_X10_fits_11 : Cond.fieldLink RX10 11 "StormRunoffModel" "w" "[I" ∈ wsX10_fits := by decide +kernel
theorem mi_X10_fits_10 : ∀ w ∈ wsX100, w ∈ wsX10_fits := by decide +kernel
set_option maxRecDepth 100000 in
set_option maxHeartbeats 400000 in
theorem ct_X10_fits (l : Launch) (g : Gl) (M : Mem) (h w : Int) (hh : i32 h) (hwi : i32 w) (hw : WOk (M 79)) (hrs : 0 ≤ M 79 45 ∧ M 79 45 ≤ 5) (hr1 : bdf (rwH (M 79) 46) (M 79 45) 0 29) (hr2 : bdf (rwN (M 79) 46) (M 79 45) 0 9999) : Ct l g yX10_fits wsX10_fits 5 117 [rf g 78, iv h, iv w] M (fun rv M' => (rv = some (iv (-1)) ∧ M' = M ∧ (¬ (0 ≤ h ∧ h ≤ 7) ∨ ¬ (0 ≤ w ∧ w ≤ 1))) ∨ (∃ (F O C J : Int → Int), rv = some (iv (ftN (fun v => fot (rwH (M 79) 46) (rwN (M 79) 46) (jnW (up (M 79) h v)) (M 79 45).toNat 0) 21)) ∧ M' = (up1 (up1 (up1 (up1 M 84 F) 85 O) 78 C) 86 J) ∧ (0 ≤ h ∧ h ≤ 7) ∧ (w = 0) ∧ (∀ j : Int, j ≠ 13 → C j = M 78 j)) ∨ (∃ (F O C J : Int → Int), rv = some (iv (ftL (fun v => fot (rwH (M 79) 46) (rwN (M 79) 46) (jnW (up (M 79) h v)) (M 79 45).toNat 0) 21)) ∧ M' = (up1 (up1 (up1 (up1 M 84 F) 85 O) 78 C) 86 J) ∧ (0 ≤ h ∧ h ≤ 7) ∧ (w = 1) ∧ (∀ j : Int, j ≠ 13 → C j = M 78 j))) := by
  refine Ct.of (cc := cX10_fits) (nL := 8) (ret := (some .int)) (by decide) rfl (Nat.le_of_ble_eq_true rfl) (fun z hz ok rt => ?_)
  have ok : Ok z g cX10_fits 8 RX10 wsX10_fits 5 117 := ok
  show V z g 8 M [(0, rf g 78), (1, iv h), (2, iv w)] [] 0
  refine v_iload_n ok 1 dX10_fits_0 rfl rfl ?_
  refine v_callS (na := 1) ok (ct_X10_isRain z.2.1 g M h ⟨by omega, by omega⟩) gX10_fits_X10_isRain rfl (by decide +kernel) rfl (by decide) [] rfl (Nat.le_of_ble_eq_true rfl) dX10_fits_1 (fun v2 M3 hp1 => ?_)
  rcases hp1 with ⟨rfl, eM3, h4⟩ | ⟨rfl, eM3, h5⟩
  · skip
    subst M3
    show V z g 8 M [(0, rf g 78), (1, iv h), (2, iv w)] [iv 1] 4
    refine v_if_eq (tgt := 17) ok (by decide) dX10_fits_4 (by decide) (fun c6 => absurd c6 (by decide)) (fun c6 => ?_)
    refine v_iload_n ok 2 dX10_fits_7 rfl rfl ?_
    refine v_i2l ok ⟨by omega, by omega⟩ dX10_fits_8 ?_
    refine v_lconst (n := 0) ok rfl dX10_fits_9 ?_
    refine v_lconst (n := 1) ok rfl dX10_fits_10 ?_
    refine v_callS (na := 3) ok (ct_X10_in z.2.1 g M w 0 1 ⟨by omega, by omega⟩ (by decide) (by decide)) gX10_fits_X10_in rfl (by decide +kernel) rfl (by decide) [] rfl (Nat.le_of_ble_eq_true rfl) dX10_fits_11 (fun v8 M9 hp7 => ?_)
    rcases hp7 with ⟨rfl, eM9, h10⟩ | ⟨rfl, eM9, h11⟩
    · skip
      subst M9
      show V z g 8 M [(0, rf g 78), (1, iv h), (2, iv w)] [iv 1] 14
      refine v_if_ne (tgt := 19) ok (by decide) dX10_fits_14 (by decide) (fun c12 => ?_) (fun c12 => absurd c12 (by decide))
      refine v_aload_n ok 0 dX10_fits_19 rfl rfl ?_
      refine v_get (T := TX10) (N := 22) (f0 := (M 78)) (v := rf g 79) ok mi_X10_fits_10 (kd_lt (show kd 78 = 10 from rfl) (by decide)) rfl rfl (cellF_10 _ (by decide)) 0 (by decide) mk_X10_fits_11 rfl rfl dX10_fits_20 ?_
      refine v_iload_n ok 1 dX10_fits_23 rfl rfl ?_
      refine v_iald (n := 90) (f0 := (M 79)) ok (by decide) rfl (by omega) rfl dX10_fits_24 ?_
      refine v_istore_n ok [(3, iv (M 79 h)), (0, rf g 78), (1, iv h), (2, iv w)] dX10_fits_25 rfl (by decide) rfl ?_
      refine v_iconst (n := 0) ok dX10_fits_26 ?_
      refine v_istore ok [(4, iv 0), (3, iv (M 79 h)), (0, rf g 78), (1, iv h), (2, iv w)] dX10_fits_27 (by decide) rfl ?_
      refine v_bipush (n := -5) ok rfl dX10_fits_29 ?_
      refine v_istore ok [(5, iv (-5)), (4, iv 0), (3, iv (M 79 h)), (0, rf g 78), (1, iv h), (2, iv w)] dX10_fits_31 (by decide) rfl ?_
      refine v_bipush (n := 20) ok rfl dX10_fits_33 ?_
      refine v_istore ok [(6, iv 20), (5, iv (-5)), (4, iv 0), (3, iv (M 79 h)), (0, rf g 78), (1, iv h), (2, iv w)] dX10_fits_35 (by decide) rfl ?_
      have lp37 : ∀ (fu : Nat) (n b v : Int) (F O C J G : Int → Int), (-1 ≤ v ∧ v ≤ 20) → (n = ftN (fun v => fot (rwH (M 79) 46) (rwN (M 79) 46) (jnW (up (M 79) h v)) (M 79 45).toNat 0) (20 - v).toNat) → (b = ftL (fun v => fot (rwH (M 79) 46) (rwN (M 79) 46) (jnW (up (M 79) h v)) (M 79 45).toNat 0) (20 - v).toNat) → (∀ j : Int, j ≠ 13 → C j = M 78 j) → (∀ x : Int, up G h x = up (M 79) h x) → (v + 1).toNat < fu → V z g 8 (up1 (up1 (up1 (up1 (up1 M 84 F) 85 O) 78 C) 86 J) 79 G) [(0, rf g 78), (1, iv h), (2, iv w), (3, iv (M 79 h)), (4, iv n), (5, iv b), (6, iv v)] [] 37 := by
        intro fu
        induction fu with
        | zero => intro n b v F O C J G _ _ _ _ _ hm; exact absurd hm (Nat.not_lt_zero _)
        | succ fu ih37 =>
          intro n b v F O C J G i37_0 i37_1 i37_2 i37_3 i37_4 hm37
          refine v_iload ok 6 dX10_fits_37 rfl ?_
          refine v_if_lt (tgt := 110) ok ⟨by omega, by omega⟩ dX10_fits_39 (by decide) (fun c13 => ?_) (fun c13 => ?_)
          · skip
            have e21 : (20 - v).toNat = 21 := by omega
            rw [e21] at i37_1 i37_2
            rw [show (n : Int) = (ftN (fun v => fot (rwH (M 79) 46) (rwN (M 79) 46) (jnW (up (M 79) h v)) (M 79 45).toNat 0) 21) from i37_1]
            rw [show (b : Int) = (ftL (fun v => fot (rwH (M 79) 46) (rwN (M 79) 46) (jnW (up (M 79) h v)) (M 79 45).toNat 0) 21) from i37_2]
            refine v_aload_n ok 0 dX10_fits_110 rfl rfl ?_
            refine v_get (T := TX10) (N := 22) (f0 := C) (v := rf g 79) ok mi_X10_fits_10 (kd_lt (show kd 78 = 10 from rfl) (by decide)) rfl rfl (cellF_10 _ (by decide)) 0 (by decide) mk_X10_fits_11 rfl rfl dX10_fits_111 ?_
            refine v_iload_n ok 1 dX10_fits_114 rfl rfl ?_
            refine v_iload_n ok 3 dX10_fits_115 rfl rfl ?_
            refine v_iast (n := 90) (f0 := G) ok (by decide) rfl (by omega) rfl dX10_fits_116 ?_
            rw [up1_up1]
            refine v_cong (n := 90) (M 79) (Or.inl (by decide)) rfl (fun j j0 j1 => by rw [i37_4, up_self]) ?_
            rw [show ((up1 (up1 (up1 (up1 (up1 M 84 F) 85 O) 78 C) 86 J) 79 (M 79)) : Mem) = (up1 (up1 (up1 (up1 M 84 F) 85 O) 78 C) 86 J) from (by funext j; by_cases hj0 : j = 78 <;> by_cases hj1 : j = 79 <;> by_cases hj2 : j = 84 <;> by_cases hj3 : j = 85 <;> by_cases hj4 : j = 86 <;> simp_all [up1])]
            refine v_iload_n ok 2 dX10_fits_117 rfl rfl ?_
            refine v_if_ne (tgt := 126) ok ⟨by omega, by omega⟩ dX10_fits_118 (by decide) (fun c14 => ?_) (fun c14 => ?_)
            · skip
              refine v_iload ok 5 dX10_fits_126 rfl ?_
              exact v_iret ok rt dX10_fits_128 (Or.inr (Or.inr (⟨F, O, C, J, rfl, rfl, (by omega), (by omega), i37_3⟩)))
            · skip
              refine v_iload ok 4 dX10_fits_121 rfl ?_
              refine v_goto (tgt := 128) ok dX10_fits_123 (by decide) ?_
              exact v_iret ok rt dX10_fits_128 (Or.inr (Or.inl (⟨F, O, C, J, rfl, rfl, (by omega), (by omega), i37_3⟩)))
          · skip
            refine v_aload_n ok 0 dX10_fits_42 rfl rfl ?_
            refine v_get (T := TX10) (N := 22) (f0 := C) (v := rf g 79) ok mi_X10_fits_10 (kd_lt (show kd 78 = 10 from rfl) (by decide)) rfl rfl (cellF_10 _ (by decide)) 0 (by decide) mk_X10_fits_11 rfl rfl dX10_fits_43 ?_
            refine v_iload_n ok 1 dX10_fits_46 rfl rfl ?_
            refine v_iload ok 6 dX10_fits_47 rfl ?_
            refine v_iast (n := 90) (f0 := G) ok (by decide) rfl (by omega) rfl dX10_fits_49 ?_
            rw [up1_up1]
            rw [show ((up1 (up1 (up1 (up1 (up1 M 84 F) 85 O) 78 C) 86 J) 79 (up G h v)) : Mem) = (up1 (up1 (up1 (up1 (up1 M 84 F) 85 O) 78 C) 86 J) 79 (up (M 79) h v)) from (by rw [i37_4])]
            have hwu := WOk_up hw (h := h) (v := v) (by omega) (by omega) (by omega) (by omega)
            have h45 : up (M 79) h v 45 = M 79 45 := up_ne (by omega)
            refine v_aload_n ok 0 dX10_fits_50 rfl rfl ?_
            refine v_bipush (n := 46) ok rfl dX10_fits_51 ?_
            refine v_aload_n ok 0 dX10_fits_53 rfl rfl ?_
            refine v_get (T := TX10) (N := 22) (f0 := C) (v := rf g 79) ok mi_X10_fits_10 (kd_lt (show kd 78 = 10 from rfl) (by decide)) rfl rfl (cellF_10 _ (by decide)) 0 (by decide) mk_X10_fits_11 rfl rfl dX10_fits_54 ?_
            refine v_bipush (n := 45) ok rfl dX10_fits_57 ?_
            refine v_iald (n := 90) (f0 := (up (M 79) h v)) ok (by decide) rfl (by omega) rfl dX10_fits_59 ?_
            rw [show (((up (M 79) h v) 45) : Int) = (M 79 45) from h45]
            refine v_callV (na := 2) (i := 78) (C := RX10) (T := TX10) (N := 22) (f0 := C) ok (ct_X10_otherwise z.2.1 g (up1 (up1 (up1 (up1 (up1 M 84 F) 85 O) 78 C) 86 J) 79 (up (M 79) h v)) 46 (M 79 45) hwu (by omega) (fun k k0 k1 => by rw [show rwH (up (M 79) h v) 46 k = rwH (M 79) 46 k from up_ne (by omega)]; exact hr1 k k0 k1) (fun k k0 k1 => by rw [show rwN (up (M 79) h v) 46 k = rwN (M 79) 46 k from up_ne (by omega)]; exact hr2 k k0 k1)) gX10_fits_X10_otherwise (kd_lt (show kd 78 = 10 from rfl) (by decide)) rfl rfl (cellF_10 _ (by decide)) rfl (by decide +kernel) rfl (by decide) [] rfl (Nat.le_of_ble_eq_true rfl) dX10_fits_60 (fun v16 M17 hp15 => ?_)
            obtain ⟨F18, O19, C20, rfl, rfl, h21⟩ := hp15
            have h21 : ∀ j : Int, j ≠ 13 → C20 j = C j := h21
            show V z g 8 (up1 (up1 (up1 (up1 (up1 (up1 (up1 (up1 (up1 M 84 F) 85 O) 78 C) 86 J) 79 (up (M 79) h v)) 84 F18) 85 O19) 78 C20) 86 (jnW ((up (M 79) h v)))) [(0, rf g 78), (1, iv h), (2, iv w), (3, iv (M 79 h)), (4, iv n), (5, iv b), (6, iv v)] [iv (fot (rwH ((up (M 79) h v)) 46) (rwN ((up (M 79) h v)) 46) (jnW ((up (M 79) h v))) (M 79 45).toNat 0)] 63
            rw [show ((up1 (up1 (up1 (up1 (up1 (up1 (up1 (up1 (up1 M 84 F) 85 O) 78 C) 86 J) 79 (up (M 79) h v)) 84 F18) 85 O19) 78 C20) 86 (jnW ((up (M 79) h v)))) : Mem) = (up1 (up1 (up1 (up1 (up1 M 84 F18) 85 O19) 78 C20) 86 (jnW ((up (M 79) h v)))) 79 (up (M 79) h v)) from (by
                  funext j
                  by_cases hj0 : j = 84
                  · subst hj0; simp [up1, up1_self]
                  by_cases hj1 : j = 85
                  · subst hj1; simp [up1, up1_self]
                  by_cases hj2 : j = 78
                  · subst hj2; simp [up1, up1_self]
                  by_cases hj3 : j = 86
                  · subst hj3; simp [up1, up1_self]
                  by_cases hj4 : j = 79
                  · subst hj4; simp [up1, up1_self]
                  simp [up1, hj0, hj1, hj2, hj3, hj4])]
            have hC9 : ∀ j : Int, j ≠ 13 → C20 j = M 78 j := fun j hj => (h21 j hj).trans (i37_3 j hj)
            rw [show ((fot (rwH ((up (M 79) h v)) 46) (rwN ((up (M 79) h v)) 46) (jnW ((up (M 79) h v))) (M 79 45).toNat 0) : Int) = ((fun v => fot (rwH (M 79) 46) (rwN (M 79) 46) (jnW (up (M 79) h v)) (M 79 45).toNat 0) v) from (fot_cg _ _ (by decide) (fun x x0 x1 => ⟨up_ne (by omega), up_ne (by omega)⟩))]
            have hfr := fot_rng (F := rwH (M 79) 46) (S := rwN (M 79) 46) (J := jnW (up (M 79) h v)) (M 79 45).toNat 0 (by omega)
            have hfr2 : (fun v => fot (rwH (M 79) 46) (rwN (M 79) 46) (jnW (up (M 79) h v)) (M 79 45).toNat 0) v = -5 ∨ 0 ≤ (fun v => fot (rwH (M 79) 46) (rwN (M 79) 46) (jnW (up (M 79) h v)) (M 79 45).toNat 0) v ∧ (fun v => fot (rwH (M 79) 46) (rwN (M 79) 46) (jnW (up (M 79) h v)) (M 79 45).toNat 0) v < 8 := by
              show fot (rwH (M 79) 46) (rwN (M 79) 46) (jnW (up (M 79) h v)) (M 79 45).toNat 0 = -5 ∨ 0 ≤ fot (rwH (M 79) 46) (rwN (M 79) 46) (jnW (up (M 79) h v)) (M 79 45).toNat 0 ∧ fot (rwH (M 79) 46) (rwN (M 79) 46) (jnW (up (M 79) h v)) (M 79 45).toNat 0 < 8
              omega
            refine v_bipush (n := -5) ok rfl dX10_fits_63 ?_
            refine v_icmp_ne (tgt := 72) ok ⟨by omega, by omega⟩ (by decide) dX10_fits_65 (by decide) (fun c22 => ?_) (fun c22 => ?_)
            · skip
              have hf5 : ¬ (fun v => fot (rwH (M 79) 46) (rwN (M 79) 46) (jnW (up (M 79) h v)) (M 79 45).toNat 0) v = -5 := by omega
              refine v_iconst (n := 0) ok dX10_fits_72 ?_
              refine v_istore ok [(7, iv 0), (0, rf g 78), (1, iv h), (2, iv w), (3, iv (M 79 h)), (4, iv n), (5, iv b), (6, iv v)] dX10_fits_73 (by decide) rfl ?_
              refine v_iload ok 5 dX10_fits_75 rfl ?_
              refine v_iload ok 0 dX10_fits_77 rfl ?_
              refine v_if_eq (tgt := 86) ok (by decide) dX10_fits_79 (by decide) (fun c23 => ?_) (fun c23 => absurd c23 (by decide))
              refine v_iconst (n := 0) ok dX10_fits_86 ?_
              refine v_iadd ok dX10_fits_87 ?_
              refine v_istore ok [(4, iv (n + 0)), (7, iv 0), (0, rf g 78), (1, iv h), (2, iv w), (3, iv (M 79 h)), (5, iv b), (6, iv v)] dX10_fits_88 (by decide) rfl ?_
              refine v_iload ok 1 dX10_fits_90 rfl ?_
              refine v_if_eq (tgt := 100) ok (by decide) dX10_fits_92 (by decide) (fun c24 => ?_) (fun c24 => absurd c24 (by decide))
              refine v_iload ok 6 dX10_fits_100 rfl ?_
              refine v_istore ok [(5, iv b), (4, iv (n + 0)), (7, iv 0), (0, rf g 78), (1, iv h), (2, iv w), (3, iv (M 79 h)), (6, iv v)] dX10_fits_102 (by decide) rfl ?_
              refine v_iinc ok 7 [(6, iv (v + (-1))), (5, iv b), (4, iv (n + 0)), (7, iv 0), (0, rf g 78), (1, iv h), (2, iv w), (3, iv (M 79 h))] dX10_fits_104 rfl (by decide) rfl ?_
              refine v_goto (tgt := 37) ok dX10_fits_107 (by decide) ?_
              refine v_lv (ls' := [(0, rf g 78), (1, iv h), (2, iv w), (3, iv (M 79 h)), (4, iv (n + 0)), (5, iv b), (6, iv (v + (-1)))]) ok [4, 5, 6, 7, 2, 1, 0] rfl ?_
              exact ih37 (n + 0) b (v + (-1)) F18 O19 C20 (jnW ((up (M 79) h v))) (up (M 79) h v) (by omega) (by rw [show v + (-1) = v - 1 from rfl, ftN_s i37_0.2, i37_1]; first | rw [if_pos hf5] | (rw [if_neg hf5])) (by rw [show v + (-1) = v - 1 from rfl, ftL_s i37_0.2]; first | rw [if_pos hf5] | (rw [if_neg hf5]; exact i37_2)) hC9 (fun x => up_up _ _ _ _) (by omega)
            · skip
              have hf5 : (fun v => fot (rwH (M 79) 46) (rwN (M 79) 46) (jnW (up (M 79) h v)) (M 79 45).toNat 0) v = -5 := by omega
              refine v_iconst (n := 1) ok dX10_fits_68 ?_
              refine v_goto (tgt := 73) ok dX10_fits_69 (by decide) ?_
              refine v_istore ok [(7, iv 1), (0, rf g 78), (1, iv h), (2, iv w), (3, iv (M 79 h)), (4, iv n), (5, iv b), (6, iv v)] dX10_fits_73 (by decide) rfl ?_
              refine v_iload ok 5 dX10_fits_75 rfl ?_
              refine v_iload ok 0 dX10_fits_77 rfl ?_
              refine v_if_eq (tgt := 86) ok (by decide) dX10_fits_79 (by decide) (fun c25 => absurd c25 (by decide)) (fun c25 => ?_)
              refine v_iconst (n := 1) ok dX10_fits_82 ?_
              refine v_goto (tgt := 87) ok dX10_fits_83 (by decide) ?_
              refine v_iadd ok dX10_fits_87 ?_
              refine v_istore ok [(4, iv (n + 1)), (7, iv 1), (0, rf g 78), (1, iv h), (2, iv w), (3, iv (M 79 h)), (5, iv b), (6, iv v)] dX10_fits_88 (by decide) rfl ?_
              refine v_iload ok 1 dX10_fits_90 rfl ?_
              refine v_if_eq (tgt := 100) ok (by decide) dX10_fits_92 (by decide) (fun c26 => absurd c26 (by decide)) (fun c26 => ?_)
              refine v_iload ok 7 dX10_fits_95 rfl ?_
              refine v_goto (tgt := 102) ok dX10_fits_97 (by decide) ?_
              refine v_istore ok [(5, iv v), (4, iv (n + 1)), (7, iv 1), (0, rf g 78), (1, iv h), (2, iv w), (3, iv (M 79 h)), (6, iv v)] dX10_fits_102 (by decide) rfl ?_
              refine v_iinc ok 7 [(6, iv (v + (-1))), (5, iv v), (4, iv (n + 1)), (7, iv 1), (0, rf g 78), (1, iv h), (2, iv w), (3, iv (M 79 h))] dX10_fits_104 rfl (by decide) rfl ?_
              refine v_goto (tgt := 37) ok dX10_fits_107 (by decide) ?_
              refine v_lv (ls' := [(0, rf g 78), (1, iv h), (2, iv w), (3, iv (M 79 h)), (4, iv (n + 1)), (5, iv v), (6, iv (v + (-1)))]) ok [4, 5, 6, 7, 2, 1, 0] rfl ?_
              exact ih37 (n + 1) v (v + (-1)) F18 O19 C20 (jnW ((up (M 79) h v))) (up (M 79) h v) (by omega) (by rw [show v + (-1) = v - 1 from rfl, ftN_s i37_0.2, i37_1]; first | rw [if_pos hf5] | (rw [if_neg hf5])) (by rw [show v + (-1) = v - 1 from rfl, ftL_s i37_0.2]; first | rw [if_pos hf5] | (rw [if_neg hf5]; exact i37_2)) hC9 (fun x => up_up _ _ _ _) (by omega)
      rw [show (M : Mem) = (up1 (up1 (up1 (up1 (up1 M 84 (M 84)) 85 (M 85)) 78 (M 78)) 86 (M 86)) 79 (M 79)) from (by funext j; by_cases hj0 : j = 78 <;> by_cases hj1 : j = 79 <;> by_cases hj2 : j = 84 <;> by_cases hj3 : j = 85 <;> by_cases hj4 : j = 86 <;> simp_all [up1])]
      refine v_lv (ls' := [(0, rf g 78), (1, iv h), (2, iv w), (3, iv (M 79 h)), (4, iv 0), (5, iv (-5)), (6, iv 20)]) ok [4, 5, 6, 3, 2, 1, 0] rfl ?_
      exact lp37 _ 0 (-5) 20 (M 84) (M 85) (M 78) (M 86) (M 79) (by omega) rfl rfl (fun _ _ => rfl) (fun _ => rfl) (Nat.lt_succ_self _)
    · skip
      subst M9
      show V z g 8 M [(0, rf g 78), (1, iv h), (2, iv w)] [iv 0] 14
      refine v_if_ne (tgt := 19) ok (by decide) dX10_fits_14 (by decide) (fun c27 => absurd c27 (by decide)) (fun c27 => ?_)
      refine v_iconst (n := -1) ok dX10_fits_17 ?_
      exact v_iret ok rt dX10_fits_18 (Or.inl (⟨rfl, rfl, (by omega)⟩))
  · skip
    subst M3
    show V z g 8 M [(0, rf g 78), (1, iv h), (2, iv w)] [iv 0] 4
    refine v_if_eq (tgt := 17) ok (by decide) dX10_fits_4 (by decide) (fun c28 => ?_) (fun c28 => absurd c28 (by decide))
    refine v_iconst (n := -1) ok dX10_fits_17 ?_
    exact v_iret ok rt dX10_fits_18 (Or.inl (⟨rfl, rfl, (by omega)⟩))

theorem mk_X10_odds_229 : Cond.constantLong RX10 229 (9999) ∈ wsX10_odds := by decide +kernel
theorem mk_X10_odds_11 : Cond.fieldLink RX10 11 "StormRunoffModel" "w" "[I" ∈ wsX10_odds := by decide +kernel
theorem mi_X10_odds_10 : ∀ w ∈ wsX100, w ∈ wsX10_odds := by decide +kernel
theorem mk_X10_odds_236 : Cond.constantLong RX10 236 (21) ∈ wsX10_odds := by decide +kernel
theorem mk_X10_odds_234 : Cond.constantLong RX10 234 (-9223372036854775808) ∈ wsX10_odds := by decide +kernel
set_option maxRecDepth 100000 in
set_option maxHeartbeats 400000 in
theorem ct_X10_odds (l : Launch) (g : Gl) (M : Mem) (h lim p : Int) (hh : i32 h) (hlim : i32 lim) (hp : i32 p) (hw : WOk (M 79)) : Ct l g yX10_odds wsX10_odds 5 114 [rf g 78, iv h, iv lim, iv p] M (fun rv M' => (rv = some (jv (-9223372036854775808)) ∧ M' = M ∧ (¬ (0 ≤ h ∧ h ≤ 7) ∨ ¬ (0 ≤ lim ∧ lim ≤ 9999) ∨ ¬ (0 ≤ p ∧ p ≤ 1))) ∨ (∃ (F O C J : Int → Int), rv = some (jv ((if p = 0 then oda (fun v => pkW (up (M 79) h v)) lim 21 else 21) / gcdI 21 (oda (fun v => pkW (up (M 79) h v)) lim 21))) ∧ M' = (up1 (up1 (up1 (up1 M 84 F) 85 O) 78 C) 86 J) ∧ (0 ≤ h ∧ h ≤ 7) ∧ (0 ≤ lim ∧ lim ≤ 9999) ∧ (0 ≤ p ∧ p ≤ 1) ∧ (∀ j : Int, j ≠ 13 → C j = M 78 j))) := by
  refine Ct.of (cc := cX10_odds) (nL := 7) (ret := (some .long)) (by decide) rfl (Nat.le_of_ble_eq_true rfl) (fun z hz ok rt => ?_)
  have ok : Ok z g cX10_odds 7 RX10 wsX10_odds 5 114 := ok
  show V z g 7 M [(0, rf g 78), (1, iv h), (2, iv lim), (3, iv p)] [] 0
  refine v_iload_n ok 1 dX10_odds_0 rfl rfl ?_
  refine v_callS (na := 1) ok (ct_X10_isRain z.2.1 g M h ⟨by omega, by omega⟩) gX10_odds_X10_isRain rfl (by decide +kernel) rfl (by decide) [] rfl (Nat.le_of_ble_eq_true rfl) dX10_odds_1 (fun v2 M3 hp1 => ?_)
  rcases hp1 with ⟨rfl, eM3, h4⟩ | ⟨rfl, eM3, h5⟩
  · skip
    subst M3
    show V z g 7 M [(0, rf g 78), (1, iv h), (2, iv lim), (3, iv p)] [iv 1] 4
    refine v_if_eq (tgt := 29) ok (by decide) dX10_odds_4 (by decide) (fun c6 => absurd c6 (by decide)) (fun c6 => ?_)
    refine v_iload_n ok 2 dX10_odds_7 rfl rfl ?_
    refine v_i2l ok ⟨by omega, by omega⟩ dX10_odds_8 ?_
    refine v_lconst (n := 0) ok rfl dX10_odds_9 ?_
    refine v_ldc2 (n := 9999) ok mk_X10_odds_229 rfl dX10_odds_10 ?_
    refine v_callS (na := 3) ok (ct_X10_in z.2.1 g M lim 0 9999 ⟨by omega, by omega⟩ (by decide) (by decide)) gX10_odds_X10_in rfl (by decide +kernel) rfl (by decide) [] rfl (Nat.le_of_ble_eq_true rfl) dX10_odds_13 (fun v8 M9 hp7 => ?_)
    rcases hp7 with ⟨rfl, eM9, h10⟩ | ⟨rfl, eM9, h11⟩
    · skip
      subst M9
      show V z g 7 M [(0, rf g 78), (1, iv h), (2, iv lim), (3, iv p)] [iv 1] 16
      refine v_if_eq (tgt := 29) ok (by decide) dX10_odds_16 (by decide) (fun c12 => absurd c12 (by decide)) (fun c12 => ?_)
      refine v_iload_n ok 3 dX10_odds_19 rfl rfl ?_
      refine v_i2l ok ⟨by omega, by omega⟩ dX10_odds_20 ?_
      refine v_lconst (n := 0) ok rfl dX10_odds_21 ?_
      refine v_lconst (n := 1) ok rfl dX10_odds_22 ?_
      refine v_callS (na := 3) ok (ct_X10_in z.2.1 g M p 0 1 ⟨by omega, by omega⟩ (by decide) (by decide)) gX10_odds_X10_in rfl (by decide +kernel) rfl (by decide) [] rfl (Nat.le_of_ble_eq_true rfl) dX10_odds_23 (fun v14 M15 hp13 => ?_)
      rcases hp13 with ⟨rfl, eM15, h16⟩ | ⟨rfl, eM15, h17⟩
      · skip
        subst M15
        show V z g 7 M [(0, rf g 78), (1, iv h), (2, iv lim), (3, iv p)] [iv 1] 26
        refine v_if_ne (tgt := 33) ok (by decide) dX10_odds_26 (by decide) (fun c18 => ?_) (fun c18 => absurd c18 (by decide))
        refine v_aload_n ok 0 dX10_odds_33 rfl rfl ?_
        refine v_get (T := TX10) (N := 22) (f0 := (M 78)) (v := rf g 79) ok mi_X10_odds_10 (kd_lt (show kd 78 = 10 from rfl) (by decide)) rfl rfl (cellF_10 _ (by decide)) 0 (by decide) mk_X10_odds_11 rfl rfl dX10_odds_34 ?_
        refine v_iload_n ok 1 dX10_odds_37 rfl rfl ?_
        refine v_iald (n := 90) (f0 := (M 79)) ok (by decide) rfl (by omega) rfl dX10_odds_38 ?_
        refine v_istore ok [(4, iv (M 79 h)), (0, rf g 78), (1, iv h), (2, iv lim), (3, iv p)] dX10_odds_39 (by decide) rfl ?_
        refine v_iconst (n := 0) ok dX10_odds_41 ?_
        refine v_istore ok [(5, iv 0), (4, iv (M 79 h)), (0, rf g 78), (1, iv h), (2, iv lim), (3, iv p)] dX10_odds_42 (by decide) rfl ?_
        refine v_iconst (n := 0) ok dX10_odds_44 ?_
        refine v_istore ok [(6, iv 0), (5, iv 0), (4, iv (M 79 h)), (0, rf g 78), (1, iv h), (2, iv lim), (3, iv p)] dX10_odds_45 (by decide) rfl ?_
        have lp47 : ∀ (fu : Nat) (v n : Int) (F O C J G : Int → Int), (0 ≤ v ∧ v ≤ 21) → (n = oda (fun v => pkW (up (M 79) h v)) lim v.toNat) → (∀ j : Int, j ≠ 13 → C j = M 78 j) → (∀ x : Int, up G h x = up (M 79) h x) → (21 - v).toNat < fu → V z g 7 (up1 (up1 (up1 (up1 (up1 M 84 F) 85 O) 78 C) 86 J) 79 G) [(0, rf g 78), (1, iv h), (2, iv lim), (3, iv p), (4, iv (M 79 h)), (5, iv n), (6, iv v)] [] 47 := by
          intro fu
          induction fu with
          | zero => intro v n F O C J G _ _ _ _ hm; exact absurd hm (Nat.not_lt_zero _)
          | succ fu ih47 =>
            intro v n F O C J G i47_0 i47_1 i47_2 i47_3 hm47
            have hor := oda_rng (fun v => pkW (up (M 79) h v)) lim v.toNat
            refine v_iload ok 6 dX10_odds_47 rfl ?_
            refine v_bipush (n := 20) ok rfl dX10_odds_49 ?_
            refine v_icmp_gt (tgt := 86) ok ⟨by omega, by omega⟩ (by decide) dX10_odds_51 (by decide) (fun c19 => ?_) (fun c19 => ?_)
            · skip
              have e21 : v.toNat = 21 := by omega
              rw [e21] at i47_1
              rw [show (n : Int) = (oda (fun v => pkW (up (M 79) h v)) lim 21) from i47_1]
              have hor2 := oda_rng (fun v => pkW (up (M 79) h v)) lim 21
              refine v_aload_n ok 0 dX10_odds_86 rfl rfl ?_
              refine v_get (T := TX10) (N := 22) (f0 := C) (v := rf g 79) ok mi_X10_odds_10 (kd_lt (show kd 78 = 10 from rfl) (by decide)) rfl rfl (cellF_10 _ (by decide)) 0 (by decide) mk_X10_odds_11 rfl rfl dX10_odds_87 ?_
              refine v_iload_n ok 1 dX10_odds_90 rfl rfl ?_
              refine v_iload ok 4 dX10_odds_91 rfl ?_
              refine v_iast (n := 90) (f0 := G) ok (by decide) rfl (by omega) rfl dX10_odds_93 ?_
              rw [up1_up1]
              refine v_cong (n := 90) (M 79) (Or.inl (by decide)) rfl (fun j j0 j1 => by rw [i47_3, up_self]) ?_
              rw [show ((up1 (up1 (up1 (up1 (up1 M 84 F) 85 O) 78 C) 86 J) 79 (M 79)) : Mem) = (up1 (up1 (up1 (up1 M 84 F) 85 O) 78 C) 86 J) from (by funext j; by_cases hj0 : j = 78 <;> by_cases hj1 : j = 79 <;> by_cases hj2 : j = 84 <;> by_cases hj3 : j = 85 <;> by_cases hj4 : j = 86 <;> simp_all [up1])]
              refine v_iload ok 5 dX10_odds_94 rfl ?_
              refine v_i2l ok ⟨by omega, by omega⟩ dX10_odds_96 ?_
              refine v_ldc2 (n := 21) ok mk_X10_odds_236 rfl dX10_odds_97 ?_
              refine v_iload_n ok 3 dX10_odds_100 rfl rfl ?_
              refine v_callS (na := 3) ok (ct_X10_lowest z.2.1 g (up1 (up1 (up1 (up1 M 84 F) 85 O) 78 C) 86 J) (oda (fun v => pkW (up (M 79) h v)) lim 21) 21 p (by first | omega | assumption) (by first | omega | assumption) (by first | omega | assumption)) gX10_odds_X10_lowest rfl (by decide +kernel) rfl (by decide) [] rfl (Nat.le_of_ble_eq_true rfl) dX10_odds_101 (fun v21 M22 hp20 => ?_)
              obtain ⟨rfl, rfl⟩ := hp20
              show V z g 7 (up1 (up1 (up1 (up1 M 84 F) 85 O) 78 C) 86 J) [(0, rf g 78), (1, iv h), (2, iv lim), (3, iv p), (4, iv (M 79 h)), (5, iv (oda (fun v => pkW (up (M 79) h v)) lim 21)), (6, iv v)] [jv ((if p = 0 then (oda (fun v => pkW (up (M 79) h v)) lim 21) else 21) / gcdI 21 (oda (fun v => pkW (up (M 79) h v)) lim 21))] 104
              exact v_lret ok rt dX10_odds_104 (Or.inr (⟨F, O, C, J, (congrArg (fun q : Int => some (jv q)) (show ((if p = 0 then (oda (fun v => pkW (up (M 79) h v)) lim 21) else 21) / gcdI 21 (oda (fun v => pkW (up (M 79) h v)) lim 21)) = ((if p = 0 then oda (fun v => pkW (up (M 79) h v)) lim 21 else 21) / gcdI 21 (oda (fun v => pkW (up (M 79) h v)) lim 21)) from by rfl)), rfl, (by omega), (by omega), (by omega), i47_2⟩))
            · skip
              refine v_aload_n ok 0 dX10_odds_54 rfl rfl ?_
              refine v_get (T := TX10) (N := 22) (f0 := C) (v := rf g 79) ok mi_X10_odds_10 (kd_lt (show kd 78 = 10 from rfl) (by decide)) rfl rfl (cellF_10 _ (by decide)) 0 (by decide) mk_X10_odds_11 rfl rfl dX10_odds_55 ?_
              refine v_iload_n ok 1 dX10_odds_58 rfl rfl ?_
              refine v_iload ok 6 dX10_odds_59 rfl ?_
              refine v_iast (n := 90) (f0 := G) ok (by decide) rfl (by omega) rfl dX10_odds_61 ?_
              rw [up1_up1]
              rw [show ((up1 (up1 (up1 (up1 (up1 M 84 F) 85 O) 78 C) 86 J) 79 (up G h v)) : Mem) = (up1 (up1 (up1 (up1 (up1 M 84 F) 85 O) 78 C) 86 J) 79 (up (M 79) h v)) from (by rw [i47_3])]
              have hwu := WOk_up hw (h := h) (v := v) (by omega) (by omega) (by omega) (by omega)
              have hpk := pkW_rng hwu
              refine v_iload ok 5 dX10_odds_62 rfl ?_
              refine v_aload_n ok 0 dX10_odds_64 rfl rfl ?_
              refine v_callV (na := 0) (i := 78) (C := RX10) (T := TX10) (N := 22) (f0 := C) ok (ct_X10_peak z.2.1 g (up1 (up1 (up1 (up1 (up1 M 84 F) 85 O) 78 C) 86 J) 79 (up (M 79) h v))  hwu) gX10_odds_X10_peak (kd_lt (show kd 78 = 10 from rfl) (by decide)) rfl rfl (cellF_10 _ (by decide)) rfl (by decide +kernel) rfl (by decide) [iv n] rfl (Nat.le_of_ble_eq_true rfl) dX10_odds_65 (fun v24 M25 hp23 => ?_)
              obtain ⟨F26, O27, C28, rfl, rfl, h29⟩ := hp23
              have h29 : ∀ j : Int, j ≠ 13 → C28 j = C j := h29
              show V z g 7 (up1 (up1 (up1 (up1 (up1 (up1 (up1 (up1 (up1 M 84 F) 85 O) 78 C) 86 J) 79 (up (M 79) h v)) 84 F26) 85 O27) 78 C28) 86 (jnW ((up (M 79) h v)))) [(0, rf g 78), (1, iv h), (2, iv lim), (3, iv p), (4, iv (M 79 h)), (5, iv n), (6, iv v)] [iv (pkW ((up (M 79) h v))), iv n] 68
              rw [show ((up1 (up1 (up1 (up1 (up1 (up1 (up1 (up1 (up1 M 84 F) 85 O) 78 C) 86 J) 79 (up (M 79) h v)) 84 F26) 85 O27) 78 C28) 86 (jnW ((up (M 79) h v)))) : Mem) = (up1 (up1 (up1 (up1 (up1 M 84 F26) 85 O27) 78 C28) 86 (jnW ((up (M 79) h v)))) 79 (up (M 79) h v)) from (by
                    funext j
                    by_cases hj0 : j = 84
                    · subst hj0; simp [up1, up1_self]
                    by_cases hj1 : j = 85
                    · subst hj1; simp [up1, up1_self]
                    by_cases hj2 : j = 78
                    · subst hj2; simp [up1, up1_self]
                    by_cases hj3 : j = 86
                    · subst hj3; simp [up1, up1_self]
                    by_cases hj4 : j = 79
                    · subst hj4; simp [up1, up1_self]
                    simp [up1, hj0, hj1, hj2, hj3, hj4])]
              have hC9 : ∀ j : Int, j ≠ 13 → C28 j = M 78 j := fun j hj => (h29 j hj).trans (i47_2 j hj)
              refine v_iload_n ok 2 dX10_odds_68 rfl rfl ?_
              refine v_icmp_le (tgt := 76) ok ⟨by omega, by omega⟩ ⟨by omega, by omega⟩ dX10_odds_69 (by decide) (fun c30 => ?_) (fun c30 => ?_)
              · skip
                refine v_iconst (n := 0) ok dX10_odds_76 ?_
                refine v_iadd ok dX10_odds_77 ?_
                refine v_istore ok [(5, iv (n + 0)), (0, rf g 78), (1, iv h), (2, iv lim), (3, iv p), (4, iv (M 79 h)), (6, iv v)] dX10_odds_78 (by decide) rfl ?_
                refine v_iinc ok 6 [(6, iv (v + 1)), (5, iv (n + 0)), (0, rf g 78), (1, iv h), (2, iv lim), (3, iv p), (4, iv (M 79 h))] dX10_odds_80 rfl (by decide) rfl ?_
                refine v_goto (tgt := 47) ok dX10_odds_83 (by decide) ?_
                refine v_lv (ls' := [(0, rf g 78), (1, iv h), (2, iv lim), (3, iv p), (4, iv (M 79 h)), (5, iv (n + 0)), (6, iv (v + 1))]) ok [2, 3, 4, 5, 6, 1, 0] rfl ?_
                exact ih47 (v + 1) (n + 0) F26 O27 C28 (jnW ((up (M 79) h v))) (up (M 79) h v) (by omega) (by rw [oda_s i47_0.1, i47_1]; show _ = _ + (if lim < pkW (up (M 79) h v) then 1 else 0); first | rw [if_pos (by omega)] | rw [if_neg (by omega)]) hC9 (fun x => up_up _ _ _ _) (by omega)
              · skip
                refine v_iconst (n := 1) ok dX10_odds_72 ?_
                refine v_goto (tgt := 77) ok dX10_odds_73 (by decide) ?_
                refine v_iadd ok dX10_odds_77 ?_
                refine v_istore ok [(5, iv (n + 1)), (0, rf g 78), (1, iv h), (2, iv lim), (3, iv p), (4, iv (M 79 h)), (6, iv v)] dX10_odds_78 (by decide) rfl ?_
                refine v_iinc ok 6 [(6, iv (v + 1)), (5, iv (n + 1)), (0, rf g 78), (1, iv h), (2, iv lim), (3, iv p), (4, iv (M 79 h))] dX10_odds_80 rfl (by decide) rfl ?_
                refine v_goto (tgt := 47) ok dX10_odds_83 (by decide) ?_
                refine v_lv (ls' := [(0, rf g 78), (1, iv h), (2, iv lim), (3, iv p), (4, iv (M 79 h)), (5, iv (n + 1)), (6, iv (v + 1))]) ok [2, 3, 4, 5, 6, 1, 0] rfl ?_
                exact ih47 (v + 1) (n + 1) F26 O27 C28 (jnW ((up (M 79) h v))) (up (M 79) h v) (by omega) (by rw [oda_s i47_0.1, i47_1]; show _ = _ + (if lim < pkW (up (M 79) h v) then 1 else 0); first | rw [if_pos (by omega)] | rw [if_neg (by omega)]) hC9 (fun x => up_up _ _ _ _) (by omega)
        rw [show (M : Mem) = (up1 (up1 (up1 (up1 (up1 M 84 (M 84)) 85 (M 85)) 78 (M 78)) 86 (M 86)) 79 (M 79)) from (by funext j; by_cases hj0 : j = 78 <;> by_cases hj1 : j = 79 <;> by_cases hj2 : j = 84 <;> by_cases hj3 : j = 85 <;> by_cases hj4 : j = 86 <;> simp_all [up1])]
        refine v_lv (ls' := [(0, rf g 78), (1, iv h), (2, iv lim), (3, iv p), (4, iv (M 79 h)), (5, iv 0), (6, iv 0)]) ok [3, 4, 5, 6, 2, 1, 0] rfl ?_
        exact lp47 _ 0 0 (M 84) (M 85) (M 78) (M 86) (M 79) (by omega) rfl (fun _ _ => rfl) (fun _ => rfl) (Nat.lt_succ_self _)
      · skip
        subst M15
        show V z g 7 M [(0, rf g 78), (1, iv h), (2, iv lim), (3, iv p)] [iv 0] 26
        refine v_if_ne (tgt := 33) ok (by decide) dX10_odds_26 (by decide) (fun c31 => absurd c31 (by decide)) (fun c31 => ?_)
        refine v_ldc2 (n := -9223372036854775808) ok mk_X10_odds_234 rfl dX10_odds_29 ?_
        exact v_lret ok rt dX10_odds_32 (Or.inl (⟨rfl, rfl, (by omega)⟩))
    · skip
      subst M9
      show V z g 7 M [(0, rf g 78), (1, iv h), (2, iv lim), (3, iv p)] [iv 0] 16
      refine v_if_eq (tgt := 29) ok (by decide) dX10_odds_16 (by decide) (fun c32 => ?_) (fun c32 => absurd c32 (by decide))
      refine v_ldc2 (n := -9223372036854775808) ok mk_X10_odds_234 rfl dX10_odds_29 ?_
      exact v_lret ok rt dX10_odds_32 (Or.inl (⟨rfl, rfl, (by omega)⟩))
  · skip
    subst M3
    show V z g 7 M [(0, rf g 78), (1, iv h), (2, iv lim), (3, iv p)] [iv 0] 4
    refine v_if_eq (tgt := 29) ok (by decide) dX10_odds_4 (by decide) (fun c33 => ?_) (fun c33 => absurd c33 (by decide))
    refine v_ldc2 (n := -9223372036854775808) ok mk_X10_odds_234 rfl dX10_odds_29 ?_
    exact v_lret ok rt dX10_odds_32 (Or.inl (⟨rfl, rfl, (by omega)⟩))

theorem mk_X10_mean_234 : Cond.constantLong RX10 234 (-9223372036854775808) ∈ wsX10_mean := by decide +kernel
theorem mk_X10_mean_33 : Cond.fieldLink RX10 33 "StormRunoffModel" "joined" "[I" ∈ wsX10_mean := by decide +kernel
theorem mi_X10_mean_10 : ∀ w ∈ wsX100, w ∈ wsX10_mean := by decide +kernel
set_option maxRecDepth 100000 in
set_option maxHeartbeats 400000 in
theorem ct_X10_mean (l : Launch) (g : Gl) (M : Mem) (p : Int) (hp : i32 p) (hw : WOk (M 79)) : Ct l g yX10_mean wsX10_mean 4 94 [rf g 78, iv p] M (fun rv M' => (∃ (F O C : Int → Int), rv = some (jv (-9223372036854775808)) ∧ M' = (up1 (up1 (up1 (up1 M 84 F) 85 O) 78 C) 86 (jnW (M 79))) ∧ ((cntp (jnW (M 79)) 30) = 0 ∨ ¬ (0 ≤ p ∧ p ≤ 1)) ∧ (∀ j : Int, j ≠ 13 → C j = M 78 j)) ∨ (∃ (F O C : Int → Int), rv = some (jv ((if p = 0 then (msr 0 (jnW (M 79)) 30) else (cntp (jnW (M 79)) 30)) / gcdI (cntp (jnW (M 79)) 30) (msr 0 (jnW (M 79)) 30))) ∧ M' = (up1 (up1 (up1 (up1 M 84 F) 85 O) 78 C) 86 (jnW (M 79))) ∧ (0 < (cntp (jnW (M 79)) 30)) ∧ (0 ≤ p ∧ p ≤ 1) ∧ (∀ j : Int, j ≠ 13 → C j = M 78 j))) := by
  refine Ct.of (cc := cX10_mean) (nL := 4) (ret := (some .long)) (by decide) rfl (Nat.le_of_ble_eq_true rfl) (fun z hz ok rt => ?_)
  have ok : Ok z g cX10_mean 4 RX10 wsX10_mean 4 94 := ok
  show V z g 4 M [(0, rf g 78), (1, iv p)] [] 0
  have hJ9 := jnW_rng hw
  refine v_aload_n ok 0 dX10_mean_0 rfl rfl ?_
  refine v_callV (na := 0) (i := 78) (C := RX10) (T := TX10) (N := 22) (f0 := (M 78)) ok (ct_X10_joins z.2.1 g M  (by first | omega | assumption)) gX10_mean_X10_joins (kd_lt (show kd 78 = 10 from rfl) (by decide)) rfl rfl (cellF_10 _ (by decide)) rfl (by decide +kernel) rfl (by decide) [] rfl (Nat.le_of_ble_eq_true rfl) dX10_mean_1 (fun v2 M3 hp1 => ?_)
  obtain ⟨F4, O5, C6, rfl, rfl, h7⟩ := hp1
  have h7 : ∀ j : Int, j ≠ 13 → C6 j = (M 78) j := h7
  show V z g 4 (up1 (up1 (up1 (up1 M 84 F4) 85 O5) 78 C6) 86 (jnW ((M 79)))) [(0, rf g 78), (1, iv p)] [] 4
  have hC9 := h7
  refine v_iconst (n := 0) ok dX10_mean_4 ?_
  refine v_istore_n ok [(2, iv 0), (0, rf g 78), (1, iv p)] dX10_mean_5 rfl (by decide) rfl ?_
  refine v_iconst (n := 0) ok dX10_mean_6 ?_
  refine v_istore_n ok [(3, iv 0), (2, iv 0), (0, rf g 78), (1, iv p)] dX10_mean_7 rfl (by decide) rfl ?_
  have lp8 : ∀ (fu : Nat) (i n : Int) (F O C : Int → Int), (0 ≤ i ∧ i ≤ 30) → (n = cntp (jnW (M 79)) i.toNat) → (∀ j : Int, j ≠ 13 → C j = M 78 j) → (30 - i).toNat < fu → V z g 4 (up1 (up1 (up1 (up1 M 84 F) 85 O) 78 C) 86 (jnW (M 79))) [(0, rf g 78), (1, iv p), (2, iv n), (3, iv i)] [] 8 := by
    intro fu
    induction fu with
    | zero => intro i n F O C _ _ _ hm; exact absurd hm (Nat.not_lt_zero _)
    | succ fu ih8 =>
      intro i n F O C i8_0 i8_1 i8_2 hm8
      have hcr := cntp_rng (jnW (M 79)) i.toNat
      refine v_iload_n ok 3 dX10_mean_8 rfl rfl ?_
      refine v_bipush (n := 30) ok rfl dX10_mean_9 ?_
      refine v_icmp_ge (tgt := 37) ok ⟨by omega, by omega⟩ (by decide) dX10_mean_11 (by decide) (fun c8 => ?_) (fun c8 => ?_)
      · skip
        have e30 : i.toNat = 30 := by omega
        rw [e30] at i8_1
        rw [show (n : Int) = (cntp (jnW (M 79)) 30) from i8_1]
        have hsum := sumf_rng hJ9 30 (by decide)
        have hcr2 := cntp_rng (jnW (M 79)) 30
        have hv1 : 0 ≤ (msr 0 (jnW (M 79)) 30) ∧ (msr 0 (jnW (M 79)) 30) ≤ 3888000 := hsum
        refine v_iload_n ok 2 dX10_mean_37 rfl rfl ?_
        refine v_if_eq (tgt := 51) ok ⟨by omega, by omega⟩ dX10_mean_38 (by decide) (fun c9 => ?_) (fun c9 => ?_)
        · skip
          refine v_ldc2 (n := -9223372036854775808) ok mk_X10_mean_234 rfl dX10_mean_51 ?_
          refine v_goto (tgt := 75) ok dX10_mean_54 (by decide) ?_
          exact v_lret ok rt dX10_mean_75 (Or.inl (⟨F, O, C, rfl, rfl, (by omega), i8_2⟩))
        · skip
          refine v_iload_n ok 1 dX10_mean_41 rfl rfl ?_
          refine v_i2l ok ⟨by omega, by omega⟩ dX10_mean_42 ?_
          refine v_lconst (n := 0) ok rfl dX10_mean_43 ?_
          refine v_lconst (n := 1) ok rfl dX10_mean_44 ?_
          refine v_callS (na := 3) ok (ct_X10_in z.2.1 g (up1 (up1 (up1 (up1 M 84 F) 85 O) 78 C) 86 (jnW (M 79))) p 0 1 ⟨by omega, by omega⟩ (by decide) (by decide)) gX10_mean_X10_in rfl (by decide +kernel) rfl (by decide) [] rfl (Nat.le_of_ble_eq_true rfl) dX10_mean_45 (fun v11 M12 hp10 => ?_)
          rcases hp10 with ⟨rfl, rfl, h13⟩ | ⟨rfl, rfl, h14⟩
          · skip
            show V z g 4 (up1 (up1 (up1 (up1 M 84 F) 85 O) 78 C) 86 (jnW (M 79))) [(0, rf g 78), (1, iv p), (2, iv (cntp (jnW (M 79)) 30)), (3, iv i)] [iv 1] 48
            refine v_if_ne (tgt := 57) ok (by decide) dX10_mean_48 (by decide) (fun c15 => ?_) (fun c15 => absurd c15 (by decide))
            refine v_aload_n ok 0 dX10_mean_57 rfl rfl ?_
            refine v_get (T := TX10) (N := 22) (f0 := C) (v := rf g 86) ok mi_X10_mean_10 (kd_lt (show kd 78 = 10 from rfl) (by decide)) rfl rfl (cellF_10 _ (by decide)) 12 (by decide) mk_X10_mean_33 rfl rfl dX10_mean_58 ?_
            refine v_iconst (n := 0) ok dX10_mean_61 ?_
            refine v_bipush (n := 30) ok rfl dX10_mean_62 ?_
            refine v_iconst (n := 0) ok dX10_mean_64 ?_
            refine v_callS (na := 4) ok (ct_X10_most z.2.1 g (up1 (up1 (up1 (up1 M 84 F) 85 O) 78 C) 86 (jnW (M 79))) 86 30 0 30 0 129600 (by decide) rfl (by decide) (by first | decide | omega) (by rw [shf_0]; exact hJ9) (by decide)) gX10_mean_X10_most rfl (by decide +kernel) rfl (by decide) [] rfl (Nat.le_of_ble_eq_true rfl) dX10_mean_65 (fun v17 M18 hp16 => ?_)
            obtain ⟨rfl, rfl⟩ := hp16
            show V z g 4 (up1 (up1 (up1 (up1 M 84 F) 85 O) 78 C) 86 (jnW (M 79))) [(0, rf g 78), (1, iv p), (2, iv (cntp (jnW (M 79)) 30)), (3, iv i)] [iv (msr 0 (shf ((jnW (M 79))) 0) (30 : Int).toNat)] 68
            rw [show ((msr 0 (shf ((jnW (M 79))) 0) (30 : Int).toNat) : Int) = (msr 0 (jnW (M 79)) 30) from (by rw [shf_0]; rfl)]
            refine v_i2l ok ⟨by omega, by omega⟩ dX10_mean_68 ?_
            refine v_iload_n ok 2 dX10_mean_69 rfl rfl ?_
            refine v_i2l ok ⟨by omega, by omega⟩ dX10_mean_70 ?_
            refine v_iload_n ok 1 dX10_mean_71 rfl rfl ?_
            refine v_callS (na := 3) ok (ct_X10_lowest z.2.1 g (up1 (up1 (up1 (up1 M 84 F) 85 O) 78 C) 86 (jnW (M 79))) (msr 0 (jnW (M 79)) 30) (cntp (jnW (M 79)) 30) p (by first | omega | assumption) (by first | omega | assumption) (by first | omega | assumption)) gX10_mean_X10_lowest rfl (by decide +kernel) rfl (by decide) [] rfl (Nat.le_of_ble_eq_true rfl) dX10_mean_72 (fun v20 M21 hp19 => ?_)
            obtain ⟨rfl, rfl⟩ := hp19
            show V z g 4 (up1 (up1 (up1 (up1 M 84 F) 85 O) 78 C) 86 (jnW (M 79))) [(0, rf g 78), (1, iv p), (2, iv (cntp (jnW (M 79)) 30)), (3, iv i)] [jv ((if p = 0 then (msr 0 (jnW (M 79)) 30) else (cntp (jnW (M 79)) 30)) / gcdI (cntp (jnW (M 79)) 30) (msr 0 (jnW (M 79)) 30))] 75
            exact v_lret ok rt dX10_mean_75 (Or.inr (⟨F, O, C, rfl, rfl, (by omega), (by omega), i8_2⟩))
          · skip
            show V z g 4 (up1 (up1 (up1 (up1 M 84 F) 85 O) 78 C) 86 (jnW (M 79))) [(0, rf g 78), (1, iv p), (2, iv (cntp (jnW (M 79)) 30)), (3, iv i)] [iv 0] 48
            refine v_if_ne (tgt := 57) ok (by decide) dX10_mean_48 (by decide) (fun c22 => absurd c22 (by decide)) (fun c22 => ?_)
            refine v_ldc2 (n := -9223372036854775808) ok mk_X10_mean_234 rfl dX10_mean_51 ?_
            refine v_goto (tgt := 75) ok dX10_mean_54 (by decide) ?_
            exact v_lret ok rt dX10_mean_75 (Or.inl (⟨F, O, C, rfl, rfl, (by omega), i8_2⟩))
      · skip
        refine v_iload_n ok 2 dX10_mean_14 rfl rfl ?_
        refine v_aload_n ok 0 dX10_mean_15 rfl rfl ?_
        refine v_get (T := TX10) (N := 22) (f0 := C) (v := rf g 86) ok mi_X10_mean_10 (kd_lt (show kd 78 = 10 from rfl) (by decide)) rfl rfl (cellF_10 _ (by decide)) 12 (by decide) mk_X10_mean_33 rfl rfl dX10_mean_16 ?_
        refine v_iload_n ok 3 dX10_mean_19 rfl rfl ?_
        refine v_iald (n := 30) (f0 := (jnW (M 79))) ok (by decide) rfl (by omega) rfl dX10_mean_20 ?_
        have b23 := hJ9 i (by omega) (by omega)
        refine v_if_le (tgt := 28) ok ⟨by omega, by omega⟩ dX10_mean_21 (by decide) (fun c24 => ?_) (fun c24 => ?_)
        · skip
          refine v_iconst (n := 0) ok dX10_mean_28 ?_
          refine v_iadd ok dX10_mean_29 ?_
          refine v_istore_n ok [(2, iv (n + 0)), (0, rf g 78), (1, iv p), (3, iv i)] dX10_mean_30 rfl (by decide) rfl ?_
          refine v_iinc ok 3 [(3, iv (i + 1)), (2, iv (n + 0)), (0, rf g 78), (1, iv p)] dX10_mean_31 rfl (by decide) rfl ?_
          refine v_goto (tgt := 8) ok dX10_mean_34 (by decide) ?_
          refine v_lv (ls' := [(0, rf g 78), (1, iv p), (2, iv (n + 0)), (3, iv (i + 1))]) ok [2, 3, 1, 0] rfl ?_
          exact ih8 (i + 1) (n + 0) F O C (by omega) (by rw [cntp_s i8_0.1, i8_1]; first | rw [if_pos (by omega)] | rw [if_neg (by omega)]) i8_2 (by omega)
        · skip
          refine v_iconst (n := 1) ok dX10_mean_24 ?_
          refine v_goto (tgt := 29) ok dX10_mean_25 (by decide) ?_
          refine v_iadd ok dX10_mean_29 ?_
          refine v_istore_n ok [(2, iv (n + 1)), (0, rf g 78), (1, iv p), (3, iv i)] dX10_mean_30 rfl (by decide) rfl ?_
          refine v_iinc ok 3 [(3, iv (i + 1)), (2, iv (n + 1)), (0, rf g 78), (1, iv p)] dX10_mean_31 rfl (by decide) rfl ?_
          refine v_goto (tgt := 8) ok dX10_mean_34 (by decide) ?_
          refine v_lv (ls' := [(0, rf g 78), (1, iv p), (2, iv (n + 1)), (3, iv (i + 1))]) ok [2, 3, 1, 0] rfl ?_
          exact ih8 (i + 1) (n + 1) F O C (by omega) (by rw [cntp_s i8_0.1, i8_1]; first | rw [if_pos (by omega)] | rw [if_neg (by omega)]) i8_2 (by omega)
  refine v_lv (ls' := [(0, rf g 78), (1, iv p), (2, iv 0), (3, iv 0)]) ok [2, 3, 1, 0] rfl ?_
  exact lp8 _ 0 0 F4 O5 C6 (by omega) rfl hC9 (Nat.lt_succ_self _)
