theorem mk_X10_exchange_159 : Cond.methodLink RX10 159 Lib.Math.min.name ∈ wsX10_exchange := by decide +kernel
theorem mmins_X10_exchange : Cond.static Lib.Math.min.name ∈ wsX10_exchange := by decide +kernel
theorem mmi_X10_exchange : Cond.initialized "java/lang/Math" ∈ wsX10_exchange := by decide +kernel
theorem mminc_X10_exchange : Cond.code Lib.Math.min.name Lib.Math.min.code 2 (some .int) ∈ wsX10_exchange := by decide +kernel
set_option maxRecDepth 100000 in
set_option maxHeartbeats 1000000 in
theorem ct_X10_exchange (l : Launch) (g : Gl) (M : Mem) (w : Int) (hwi : i32 w) (hw : WOk (M 79)) : Ct l g yX10_exchange wsX10_exchange 5 114 [rf g 78, iv w] M (fun rv M' => (rv = some (iv (-1)) ∧ M' = M ∧ (¬ (0 ≤ w ∧ w ≤ 1))) ∨ (∃ (F O C J : Int → Int), rv = some (iv (exO (fun s t => pkW (swp (M 79) s t)) (pkW (M 79)) 8).2) ∧ M' = (up1 (up1 (up1 (up1 M 84 F) 85 O) 78 C) 86 J) ∧ (w = 0) ∧ (∀ j : Int, j ≠ 13 → C j = M 78 j)) ∨ (∃ (F O C J : Int → Int), rv = some (iv (exO (fun s t => pkW (swp (M 79) s t)) (pkW (M 79)) 8).1) ∧ M' = (up1 (up1 (up1 (up1 M 84 F) 85 O) 78 C) 86 J) ∧ (w = 1) ∧ (∀ j : Int, j ≠ 13 → C j = M 78 j))) := by
  refine Ct.of (cc := cX10_exchange) (nL := 7) (ret := (some .int)) (by decide) rfl (Nat.le_of_ble_eq_true rfl) (fun z hz ok rt => ?_)
  have ok : Ok z g cX10_exchange 7 RX10 wsX10_exchange 5 114 := ok
  show V z g 7 M [(0, rf g 78), (1, iv w)] [] 0
  refine v_iload_n ok 1 dX10_exchange_0 rfl rfl ?_
  refine v_i2l ok ⟨by omega, by omega⟩ dX10_exchange_1 ?_
  refine v_lconst (n := 0) ok rfl dX10_exchange_2 ?_
  refine v_lconst (n := 1) ok rfl dX10_exchange_3 ?_
  refine v_callS (na := 3) ok (ct_X10_in z.2.1 g M w 0 1 ⟨by omega, by omega⟩ (by decide) (by decide)) gX10_exchange_X10_in rfl (by decide +kernel) rfl (by decide) [] rfl (Nat.le_of_ble_eq_true rfl) dX10_exchange_4 (fun v2 M3 hp1 => ?_)
  rcases hp1 with ⟨rfl, eM3, h4⟩ | ⟨rfl, eM3, h5⟩
  · skip
    subst M3
    show V z g 7 M [(0, rf g 78), (1, iv w)] [iv 1] 7
    refine v_if_ne (tgt := 12) ok (by decide) dX10_exchange_7 (by decide) (fun c6 => ?_) (fun c6 => absurd c6 (by decide))
    refine v_bipush (n := -5) ok rfl dX10_exchange_12 ?_
    refine v_istore_n ok [(2, iv (-5)), (0, rf g 78), (1, iv w)] dX10_exchange_14 rfl (by decide) rfl ?_
    refine v_aload_n ok 1 dX10_exchange_15 rfl rfl ?_
    refine v_callV (na := 0) (i := 78) (C := RX10) (T := TX10) (N := 22) (f0 := (M 78)) ok (ct_X10_peak z.2.1 g M  hw) gX10_exchange_X10_peak (kd_lt (show kd 78 = 10 from rfl) (by decide)) rfl rfl (cellF_10 _ (by decide)) rfl (by decide +kernel) rfl (by decide) [] rfl (Nat.le_of_ble_eq_true rfl) dX10_exchange_16 (fun v8 M9 hp7 => ?_)
    obtain ⟨F10, O11, C12, rfl, rfl, h13⟩ := hp7
    have h13 : ∀ j : Int, j ≠ 13 → C12 j = (M 78) j := h13
    show V z g 7 (up1 (up1 (up1 (up1 M 84 F10) 85 O11) 78 C12) 86 (jnW ((M 79)))) [(2, iv (-5)), (0, rf g 78), (1, iv w)] [iv (pkW ((M 79)))] 19
    have hC9 := h13
    refine v_istore_n ok [(3, iv (pkW ((M 79)))), (2, iv (-5)), (0, rf g 78), (1, iv w)] dX10_exchange_19 rfl (by decide) rfl ?_
    refine v_iconst (n := 0) ok dX10_exchange_20 ?_
    refine v_istore ok [(4, iv 0), (3, iv (pkW ((M 79)))), (2, iv (-5)), (0, rf g 78), (1, iv w)] dX10_exchange_21 (by decide) rfl ?_
    have lp23 : ∀ (fu : Nat) (s p r : Int) (F O C J : Int → Int), (0 ≤ s ∧ s ≤ 8) → ((p, r) = exO (fun s t => pkW (swp (M 79) s t)) (pkW (M 79)) s.toNat) → (0 ≤ p ∧ p ≤ 129600) → (∀ j : Int, j ≠ 13 → C j = M 78 j) → (8 - s).toNat < fu → V z g 7 (up1 (up1 (up1 (up1 M 84 F) 85 O) 78 C) 86 J) [(0, rf g 78), (1, iv w), (2, iv r), (3, iv p), (4, iv s)] [] 23 := by
      intro fu
      induction fu with
      | zero => intro s p r F O C J _ _ _ _ hm; exact absurd hm (Nat.not_lt_zero _)
      | succ fu ih23 =>
        intro s p r F O C J i23_0 i23_1 i23_2 i23_3 hm23
        refine v_iload ok 4 dX10_exchange_23 rfl ?_
        refine v_bipush (n := 8) ok rfl dX10_exchange_25 ?_
        refine v_icmp_ge (tgt := 103) ok ⟨by omega, by omega⟩ (by decide) dX10_exchange_27 (by decide) (fun c14 => ?_) (fun c14 => ?_)
        · skip
          rw [show s.toNat = 8 by omega] at i23_1
          rw [show (r : Int) = (exO (fun s t => pkW (swp (M 79) s t)) (pkW (M 79)) 8).2 from (by rw [← i23_1])]
          rw [show (p : Int) = (exO (fun s t => pkW (swp (M 79) s t)) (pkW (M 79)) 8).1 from (by rw [← i23_1])]
          refine v_iload_n ok 1 dX10_exchange_103 rfl rfl ?_
          refine v_if_ne (tgt := 111) ok ⟨by omega, by omega⟩ dX10_exchange_104 (by decide) (fun c15 => ?_) (fun c15 => ?_)
          · skip
            refine v_iload_n ok 3 dX10_exchange_111 rfl rfl ?_
            exact v_iret ok rt dX10_exchange_112 (Or.inr (Or.inr (⟨F, O, C, J, rfl, rfl, (by omega), i23_3⟩)))
          · skip
            refine v_iload_n ok 2 dX10_exchange_107 rfl rfl ?_
            refine v_goto (tgt := 112) ok dX10_exchange_108 (by decide) ?_
            exact v_iret ok rt dX10_exchange_112 (Or.inr (Or.inl (⟨F, O, C, J, rfl, rfl, (by omega), i23_3⟩)))
        · skip
          refine v_iload ok 4 dX10_exchange_30 rfl ?_
          refine v_iconst (n := 1) ok dX10_exchange_32 ?_
          refine v_iadd ok dX10_exchange_33 ?_
          refine v_istore ok [(5, iv (s + 1)), (0, rf g 78), (1, iv w), (2, iv r), (3, iv p), (4, iv s)] dX10_exchange_34 (by decide) rfl ?_
          have lp36 : ∀ (fu : Nat) (t p r x : Int) (F O C J : Int → Int), (s + 1 ≤ t ∧ t ≤ 8) → ((p, r) = exI (fun s t => pkW (swp (M 79) s t)) s (exO (fun s t => pkW (swp (M 79) s t)) (pkW (M 79)) s.toNat) (t - s - 1).toNat) → (0 ≤ p ∧ p ≤ 129600) → (∀ j : Int, j ≠ 13 → C j = M 78 j) → (8 - t).toNat < fu → V z g 7 (up1 (up1 (up1 (up1 M 84 F) 85 O) 78 C) 86 J) [(0, rf g 78), (1, iv w), (2, iv r), (3, iv p), (4, iv s), (5, iv t)] [] 36 := by
            intro fu
            induction fu with
            | zero => intro t p r x F O C J _ _ _ _ hm; exact absurd hm (Nat.not_lt_zero _)
            | succ fu ih36 =>
              intro t p r x F O C J i36_0 i36_1 i36_2 i36_3 hm36
              refine v_iload ok 5 dX10_exchange_36 rfl ?_
              refine v_bipush (n := 8) ok rfl dX10_exchange_38 ?_
              refine v_icmp_ge (tgt := 97) ok ⟨by omega, by omega⟩ (by decide) dX10_exchange_40 (by decide) (fun c16 => ?_) (fun c16 => ?_)
              · skip
                refine v_iinc ok 4 [(4, iv (s + 1)), (0, rf g 78), (1, iv w), (2, iv r), (3, iv p), (5, iv t)] dX10_exchange_97 rfl (by decide) rfl ?_
                refine v_goto (tgt := 23) ok dX10_exchange_100 (by decide) ?_
                refine v_lv (ls' := [(0, rf g 78), (1, iv w), (2, iv r), (3, iv p), (4, iv (s + 1))]) ok [1, 2, 3, 4, 0] rfl ?_
                exact ih23 (s + 1) p r F O C J (by omega) (by rw [exO_s i23_0.1 (by omega)]; rw [show t = 8 by omega] at i36_1; exact i36_1) i36_2 i36_3 (by omega)
              · skip
                refine v_aload_n ok 0 dX10_exchange_43 rfl rfl ?_
                refine v_iload ok 4 dX10_exchange_44 rfl ?_
                refine v_iload ok 5 dX10_exchange_46 rfl ?_
                refine v_callV (na := 2) (i := 78) (C := RX10) (T := TX10) (N := 22) (f0 := C) ok (ct_X10_changes z.2.1 g (up1 (up1 (up1 (up1 M 84 F) 85 O) 78 C) 86 J) s t (by first | omega | assumption) (by first | omega | assumption)) gX10_exchange_X10_changes (kd_lt (show kd 78 = 10 from rfl) (by decide)) rfl rfl (cellF_10 _ (by decide)) rfl (by decide +kernel) rfl (by decide) [] rfl (Nat.le_of_ble_eq_true rfl) dX10_exchange_48 (fun v18 M19 hp17 => ?_)
                obtain ⟨rfl, rfl⟩ := hp17
                show V z g 7 (up1 (up1 (up1 (up1 (up1 M 84 F) 85 O) 78 C) 86 J) 79 (swp ((M 79)) s t)) [(0, rf g 78), (1, iv w), (2, iv r), (3, iv p), (4, iv s), (5, iv t)] [] 51
                refine v_aload_n ok 0 dX10_exchange_51 rfl rfl ?_
                refine v_callV (na := 0) (i := 78) (C := RX10) (T := TX10) (N := 22) (f0 := C) ok (ct_X10_peak z.2.1 g (up1 (up1 (up1 (up1 (up1 M 84 F) 85 O) 78 C) 86 J) 79 (swp ((M 79)) s t))  (WOk_swp hw (by omega) (by omega) (by omega) (by omega))) gX10_exchange_X10_peak (kd_lt (show kd 78 = 10 from rfl) (by decide)) rfl rfl (cellF_10 _ (by decide)) rfl (by decide +kernel) rfl (by decide) [] rfl (Nat.le_of_ble_eq_true rfl) dX10_exchange_52 (fun v21 M22 hp20 => ?_)
                obtain ⟨F23, O24, C25, rfl, rfl, h26⟩ := hp20
                have h26 : ∀ j : Int, j ≠ 13 → C25 j = C j := h26
                show V z g 7 (up1 (up1 (up1 (up1 (up1 (up1 (up1 (up1 (up1 M 84 F) 85 O) 78 C) 86 J) 79 (swp ((M 79)) s t)) 84 F23) 85 O24) 78 C25) 86 (jnW ((swp ((M 79)) s t)))) [(0, rf g 78), (1, iv w), (2, iv r), (3, iv p), (4, iv s), (5, iv t)] [iv (pkW ((swp ((M 79)) s t)))] 55
                rw [show ((up1 (up1 (up1 (up1 (up1 (up1 (up1 (up1 (up1 M 84 F) 85 O) 78 C) 86 J) 79 (swp ((M 79)) s t)) 84 F23) 85 O24) 78 C25) 86 (jnW ((swp ((M 79)) s t)))) : Mem) = (up1 (up1 (up1 (up1 (up1 M 84 F23) 85 O24) 78 C25) 86 (jnW ((swp ((M 79)) s t)))) 79 (swp ((M 79)) s t)) from (by
                      funext j
                      by_cases hj0 : j = 84
                      · subst hj0; simp [up1, up1_self]
                      by_cases hj1 : j = 85
                      · subst hj1; simp [up1, up1_self]
                      by_cases hj2 : j = 78
                      · subst hj2; simp [up1, up1_self]
                      by_cases hj3 : j = 86
                      · subst hj3; simp [up1, up1_self]
                      by_cases hj4 : j = 79
                      · subst hj4; simp [up1, up1_self]
                      simp [up1, hj0, hj1, hj2, hj3, hj4])]
                have hC9 : ∀ j : Int, j ≠ 13 → C25 j = M 78 j := fun j hj => (h26 j hj).trans (i36_3 j hj)
                refine v_istore ok [(6, iv (pkW ((swp ((M 79)) s t)))), (0, rf g 78), (1, iv w), (2, iv r), (3, iv p), (4, iv s), (5, iv t)] dX10_exchange_55 (by decide) rfl ?_
                refine v_aload_n ok 1 dX10_exchange_57 rfl rfl ?_
                refine v_iload ok 5 dX10_exchange_58 rfl ?_
                refine v_iload ok 6 dX10_exchange_60 rfl ?_
                refine v_callV (na := 2) (i := 78) (C := RX10) (T := TX10) (N := 22) (f0 := C25) ok (ct_X10_changes z.2.1 g (up1 (up1 (up1 (up1 (up1 M 84 F23) 85 O24) 78 C25) 86 (jnW ((swp ((M 79)) s t)))) 79 (swp ((M 79)) s t)) s t (by first | omega | assumption) (by first | omega | assumption)) gX10_exchange_X10_changes (kd_lt (show kd 78 = 10 from rfl) (by decide)) rfl rfl (cellF_10 _ (by decide)) rfl (by decide +kernel) rfl (by decide) [] rfl (Nat.le_of_ble_eq_true rfl) dX10_exchange_62 (fun v28 M29 hp27 => ?_)
                obtain ⟨rfl, rfl⟩ := hp27
                show V z g 7 (up1 (up1 (up1 (up1 (up1 (up1 M 84 F23) 85 O24) 78 C25) 86 (jnW ((swp ((M 79)) s t)))) 79 (swp ((M 79)) s t)) 79 (swp ((swp ((M 79)) s t)) s t)) [(6, iv (pkW ((swp ((M 79)) s t)))), (0, rf g 78), (1, iv w), (2, iv r), (3, iv p), (4, iv s), (5, iv t)] [] 65
                rw [show ((up1 (up1 (up1 (up1 (up1 (up1 M 84 F23) 85 O24) 78 C25) 86 (jnW ((swp ((M 79)) s t)))) 79 (swp ((M 79)) s t)) 79 (swp ((swp ((M 79)) s t)) s t)) : Mem) = (up1 (up1 (up1 (up1 (up1 M 84 F23) 85 O24) 78 C25) 86 (jnW ((swp ((M 79)) s t)))) 79 (swp ((swp ((M 79)) s t)) s t)) from (by
                      funext j
                      by_cases hj0 : j = 84
                      · subst hj0; simp [up1, up1_self]
                      by_cases hj1 : j = 85
                      · subst hj1; simp [up1, up1_self]
                      by_cases hj2 : j = 78
                      · subst hj2; simp [up1, up1_self]
                      by_cases hj3 : j = 86
                      · subst hj3; simp [up1, up1_self]
                      by_cases hj4 : j = 79
                      · subst hj4; simp [up1, up1_self]
                      simp [up1, hj0, hj1, hj2, hj3, hj4])]
                rw [show ((up1 (up1 (up1 (up1 (up1 M 84 F23) 85 O24) 78 C25) 86 (jnW ((swp ((M 79)) s t)))) 79 (swp ((swp ((M 79)) s t)) s t)) : Mem) = (up1 (up1 (up1 (up1 (up1 M 84 F23) 85 O24) 78 C25) 86 (jnW ((swp ((M 79)) s t)))) 79 (swp (swp (M 79) s t) s t)) from (by funext j; by_cases hj0 : j = 78 <;> by_cases hj1 : j = 79 <;> by_cases hj2 : j = 84 <;> by_cases hj3 : j = 85 <;> by_cases hj4 : j = 86 <;> simp_all [up1])]
                rw [show ((up1 (up1 (up1 (up1 (up1 M 84 F23) 85 O24) 78 C25) 86 (jnW ((swp ((M 79)) s t)))) 79 (swp (swp (M 79) s t) s t)) : Mem) = (up1 (up1 (up1 (up1 M 84 F23) 85 O24) 78 C25) 86 (jnW ((swp ((M 79)) s t)))) from (by rw [swp_swp (show s ≠ t by omega)]; funext j; by_cases hj1 : j = 79 <;> by_cases hj0 : j = 78 <;> by_cases hj2 : j = 84 <;> by_cases hj3 : j = 85 <;> by_cases hj4 : j = 86 <;> simp_all [up1])]
                have hpk := pkW_rng (WOk_swp hw (s := s) (t := t) (by omega) (by omega) (by omega) (by omega))
                refine v_iload ok 0 dX10_exchange_65 rfl ?_
                refine v_iload_n ok 4 dX10_exchange_67 rfl rfl ?_
                refine v_icmp_ge (tgt := 82) ok ⟨by omega, by omega⟩ ⟨by omega, by omega⟩ dX10_exchange_68 (by decide) (fun c30 => ?_) (fun c30 => ?_)
                · skip
                  refine v_iload_n ok 3 dX10_exchange_82 rfl rfl ?_
                  refine v_istore_n ok [(2, iv r), (6, iv (pkW ((swp ((M 79)) s t)))), (0, rf g 78), (1, iv w), (3, iv p), (4, iv s), (5, iv t)] dX10_exchange_83 rfl (by decide) rfl ?_
                  refine v_iload_n ok 4 dX10_exchange_84 rfl rfl ?_
                  refine v_iload ok 1 dX10_exchange_85 rfl ?_
                  refine v_mmin ok ⟨by omega, by omega⟩ ⟨by omega, by omega⟩ mk_X10_exchange_159 mmins_X10_exchange mmi_X10_exchange mminc_X10_exchange ⟨by decide, Nat.le_of_ble_eq_true rfl⟩ dX10_exchange_87 ?_
                  have hb1 : (min p (pkW (swp (M 79) s t)), r) = exI (fun s t => pkW (swp (M 79) s t)) s (exO (fun s t => pkW (swp (M 79) s t)) (pkW (M 79)) s.toNat) (t + 1 - s - 1).toNat := by
                    rw [exI_s i36_0.1, ← i36_1]
                    unfold stp
                    rw [if_neg (by show ¬ pkW (swp (M 79) s t) < p; omega), Int.min_eq_left (by omega)]
                  refine v_istore_n ok [(3, iv (min p (pkW ((swp ((M 79)) s t))))), (2, iv r), (6, iv (pkW ((swp ((M 79)) s t)))), (0, rf g 78), (1, iv w), (4, iv s), (5, iv t)] dX10_exchange_90 rfl (by decide) rfl ?_
                  refine v_iinc ok 6 [(5, iv (t + 1)), (3, iv (min p (pkW ((swp ((M 79)) s t))))), (2, iv r), (6, iv (pkW ((swp ((M 79)) s t)))), (0, rf g 78), (1, iv w), (4, iv s)] dX10_exchange_91 rfl (by decide) rfl ?_
                  refine v_goto (tgt := 36) ok dX10_exchange_94 (by decide) ?_
                  refine v_lv (ls' := [(0, rf g 78), (1, iv w), (2, iv r), (3, iv (min p (pkW ((swp ((M 79)) s t))))), (4, iv s), (5, iv (t + 1))]) ok [4, 5, 2, 1, 6, 0] rfl ?_
                  exact ih36 (t + 1) (min p (pkW ((swp ((M 79)) s t)))) r 0 F23 O24 C25 (jnW ((swp ((M 79)) s t))) (by omega) hb1 (by omega) hC9 (by omega)
                · skip
                  refine v_bipush (n := 10) ok rfl dX10_exchange_71 ?_
                  refine v_iload ok 5 dX10_exchange_73 rfl ?_
                  refine v_imul ok dX10_exchange_75 ?_
                  refine v_iload ok 6 dX10_exchange_76 rfl ?_
                  refine v_iadd ok dX10_exchange_78 ?_
                  refine v_goto (tgt := 83) ok dX10_exchange_79 (by decide) ?_
                  refine v_istore_n ok [(2, iv ((10 * s) + t)), (6, iv (pkW ((swp ((M 79)) s t)))), (0, rf g 78), (1, iv w), (3, iv p), (4, iv s), (5, iv t)] dX10_exchange_83 rfl (by decide) rfl ?_
                  refine v_iload_n ok 4 dX10_exchange_84 rfl rfl ?_
                  refine v_iload ok 1 dX10_exchange_85 rfl ?_
                  refine v_mmin ok ⟨by omega, by omega⟩ ⟨by omega, by omega⟩ mk_X10_exchange_159 mmins_X10_exchange mmi_X10_exchange mminc_X10_exchange ⟨by decide, Nat.le_of_ble_eq_true rfl⟩ dX10_exchange_87 ?_
                  have hb1 : (min p (pkW (swp (M 79) s t)), ((10 * s) + t)) = exI (fun s t => pkW (swp (M 79) s t)) s (exO (fun s t => pkW (swp (M 79) s t)) (pkW (M 79)) s.toNat) (t + 1 - s - 1).toNat := by
                    rw [exI_s i36_0.1, ← i36_1]
                    unfold stp
                    rw [if_pos (by show pkW (swp (M 79) s t) < p; omega), Int.min_eq_right (by omega)]
                  refine v_istore_n ok [(3, iv (min p (pkW ((swp ((M 79)) s t))))), (2, iv ((10 * s) + t)), (6, iv (pkW ((swp ((M 79)) s t)))), (0, rf g 78), (1, iv w), (4, iv s), (5, iv t)] dX10_exchange_90 rfl (by decide) rfl ?_
                  refine v_iinc ok 6 [(5, iv (t + 1)), (3, iv (min p (pkW ((swp ((M 79)) s t))))), (2, iv ((10 * s) + t)), (6, iv (pkW ((swp ((M 79)) s t)))), (0, rf g 78), (1, iv w), (4, iv s)] dX10_exchange_91 rfl (by decide) rfl ?_
                  refine v_goto (tgt := 36) ok dX10_exchange_94 (by decide) ?_
                  refine v_lv (ls' := [(0, rf g 78), (1, iv w), (2, iv ((10 * s) + t)), (3, iv (min p (pkW ((swp ((M 79)) s t))))), (4, iv s), (5, iv (t + 1))]) ok [4, 5, 2, 1, 6, 0] rfl ?_
                  exact ih36 (t + 1) (min p (pkW ((swp ((M 79)) s t)))) ((10 * s) + t) 0 F23 O24 C25 (jnW ((swp ((M 79)) s t))) (by omega) hb1 (by omega) hC9 (by omega)
          refine v_lv (ls' := [(0, rf g 78), (1, iv w), (2, iv r), (3, iv p), (4, iv s), (5, iv (s + 1))]) ok [1, 2, 3, 4, 5, 0] rfl ?_
          exact lp36 _ (s + 1) p r 0 F O C J (by omega) (by rw [show (s + 1 - s - 1).toNat = 0 by omega]; exact i23_1) i23_2 i23_3 (Nat.lt_succ_self _)
    refine v_lv (ls' := [(0, rf g 78), (1, iv w), (2, iv (-5)), (3, iv (pkW ((M 79)))), (4, iv 0)]) ok [3, 4, 2, 1, 0] rfl ?_
    exact lp23 _ 0 (pkW ((M 79))) (-5) F10 O11 C12 (jnW ((M 79))) (by omega) rfl (pkW_rng hw) hC9 (Nat.lt_succ_self _)
  · skip
    subst M3
    show V z g 7 M [(0, rf g 78), (1, iv w)] [iv 0] 7
    refine v_if_ne (tgt := 12) ok (by decide) dX10_exchange_7 (by decide) (fun c31 => absurd c31 (by decide)) (fun c31 => ?_)
    refine v_iconst (n := -1) ok dX10_exchange_10 ?_
    exact v_iret ok rt dX10_exchange_11 (Or.inl (⟨rfl, rfl, (by omega)⟩))
