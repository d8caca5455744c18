theorem mk_X10_fits_11 : Cond.fieldLink RX10 11 "StormRunoffModel" "w" "[I" ∈ wsX10_fits := by decide +kernel
theorem mi_X10_fits_10 : ∀ w ∈ wsX100, w ∈ wsX10_fits := by decide +kernel
set_option maxRecDepth 100000 in
set_option maxHeartbeats 400000 in
theorem ct_X10_fits (l : Launch) (g : Gl) (M : Mem) (h w : Int) (hh : i32 h) (hwi : i32 w) (hw : WOk (M 79)) (hrs : 0 ≤ M 79 45 ∧ M 79 45 ≤ 5) (hr1 : bdf (rwH (M 79) 46) (M 79 45) 0 29) (hr2 : bdf (rwN (M 79) 46) (M 79 45) 0 9999) : Ct l g yX10_fits wsX10_fits 5 117 [rf g 78, iv h, iv w] M (fun rv M' => (rv = some (iv (-1)) ∧ M' = M ∧ (¬ (0 ≤ h ∧ h ≤ 7) ∨ ¬ (0 ≤ w ∧ w ≤ 1))) ∨ (∃ (F O C J : Int → Int), rv = some (iv (ftN (fun v => fot (rwH (M 79) 46) (rwN (M 79) 46) (jnW (up (M 79) h v)) (M 79 45).toNat 0) 21)) ∧ M' = (up1 (up1 (up1 (up1 M 84 F) 85 O) 78 C) 86 J) ∧ (0 ≤ h ∧ h ≤ 7) ∧ (w = 0) ∧ (∀ j : Int, j ≠ 13 → C j = M 78 j)) ∨ (∃ (F O C J : Int → Int), rv = some (iv (ftL (fun v => fot (rwH (M 79) 46) (rwN (M 79) 46) (jnW (up (M 79) h v)) (M 79 45).toNat 0) 21)) ∧ M' = (up1 (up1 (up1 (up1 M 84 F) 85 O) 78 C) 86 J) ∧ (0 ≤ h ∧ h ≤ 7) ∧ (w = 1) ∧ (∀ j : Int, j ≠ 13 → C j = M 78 j))) := by
  refine Ct.of (cc := cX10_fits) (nL := 8) (ret := (some .int)) (by decide) rfl (Nat.le_of_ble_eq_true rfl) (fun z hz ok rt => ?_)
  have ok : Ok z g cX10_fits 8 RX10 wsX10_fits 5 117 := ok
  show V z g 8 M [(0, rf g 78), (1, iv h), (2, iv w)] [] 0
  refine v_iload_n ok 1 dX10_fits_0 rfl rfl ?_
  refine v_callS (na := 1) ok (ct_X10_isRain z.2.1 g M h ⟨by omega, by omega⟩) gX10_fits_X10_isRain rfl (by decide +kernel) rfl (by decide) [] rfl (Nat.le_of_ble_eq_true rfl) dX10_fits_1 (fun v2 M3 hp1 => ?_)
  rcases hp1 with ⟨rfl, eM3, h4⟩ | ⟨rfl, eM3, h5⟩
  · skip
    subst M3
    show V z g 8 M [(0, rf g 78), (1, iv h), (2, iv w)] [iv 1] 4
    refine v_if_eq (tgt := 17) ok (by decide) dX10_fits_4 (by decide) (fun c6 => absurd c6 (by decide)) (fun c6 => ?_)
    refine v_iload_n ok 2 dX10_fits_7 rfl rfl ?_
    refine v_i2l ok ⟨by omega, by omega⟩ dX10_fits_8 ?_
    refine v_lconst (n := 0) ok rfl dX10_fits_9 ?_
    refine v_lconst (n := 1) ok rfl dX10_fits_10 ?_
    refine v_callS (na := 3) ok (ct_X10_in z.2.1 g M w 0 1 ⟨by omega, by omega⟩ (by decide) (by decide)) gX10_fits_X10_in rfl (by decide +kernel) rfl (by decide) [] rfl (Nat.le_of_ble_eq_true rfl) dX10_fits_11 (fun v8 M9 hp7 => ?_)
    rcases hp7 with ⟨rfl, eM9, h10⟩ | ⟨rfl, eM9, h11⟩
    · skip
      subst M9
      show V z g 8 M [(0, rf g 78), (1, iv h), (2, iv w)] [iv 1] 14
      refine v_if_ne (tgt := 19) ok (by decide) dX10_fits_14 (by decide) (fun c12 => ?_) (fun c12 => absurd c12 (by decide))
      refine v_aload_n ok 0 dX10_fits_19 rfl rfl ?_
      refine v_get (T := TX10) (N := 22) (f0 := (M 78)) (v := rf g 79) ok mi_X10_fits_10 (kd_lt (show kd 78 = 10 from rfl) (by decide)) rfl rfl (cellF_10 _ (by decide)) 0 (by decide) mk_X10_fits_11 rfl rfl dX10_fits_20 ?_
      refine v_iload_n ok 1 dX10_fits_23 rfl rfl ?_
      refine v_iald (n := 90) (f0 := (M 79)) ok (by decide) rfl (by omega) rfl dX10_fits_24 ?_
      refine v_istore_n ok [(3, iv (M 79 h)), (0, rf g 78), (1, iv h), (2, iv w)] dX10_fits_25 rfl (by decide) rfl ?_
      refine v_iconst (n := 0) ok dX10_fits_26 ?_
      refine v_istore ok [(4, iv 0), (3, iv (M 79 h)), (0, rf g 78), (1, iv h), (2, iv w)] dX10_fits_27 (by decide) rfl ?_
      refine v_bipush (n := -5) ok rfl dX10_fits_29 ?_
      refine v_istore ok [(5, iv (-5)), (4, iv 0), (3, iv (M 79 h)), (0, rf g 78), (1, iv h), (2, iv w)] dX10_fits_31 (by decide) rfl ?_
      refine v_bipush (n := 20) ok rfl dX10_fits_33 ?_
      refine v_istore ok [(6, iv 20), (5, iv (-5)), (4, iv 0), (3, iv (M 79 h)), (0, rf g 78), (1, iv h), (2, iv w)] dX10_fits_35 (by decide) rfl ?_
      have lp37 : ∀ (fu : Nat) (n b v : Int) (F O C J G : Int → Int), (-1 ≤ v ∧ v ≤ 20) → (n = ftN (fun v => fot (rwH (M 79) 46) (rwN (M 79) 46) (jnW (up (M 79) h v)) (M 79 45).toNat 0) (20 - v).toNat) → (b = ftL (fun v => fot (rwH (M 79) 46) (rwN (M 79) 46) (jnW (up (M 79) h v)) (M 79 45).toNat 0) (20 - v).toNat) → (∀ j : Int, j ≠ 13 → C j = M 78 j) → (∀ x : Int, up G h x = up (M 79) h x) → (v + 1).toNat < fu → V z g 8 (up1 (up1 (up1 (up1 (up1 M 84 F) 85 O) 78 C) 86 J) 79 G) [(0, rf g 78), (1, iv h), (2, iv w), (3, iv (M 79 h)), (4, iv n), (5, iv b), (6, iv v)] [] 37 := by
        intro fu
        induction fu with
        | zero => intro n b v F O C J G _ _ _ _ _ hm; exact absurd hm (Nat.not_lt_zero _)
        | succ fu ih37 =>
          intro n b v F O C J G i37_0 i37_1 i37_2 i37_3 i37_4 hm37
          refine v_iload ok 6 dX10_fits_37 rfl ?_
          refine v_if_lt (tgt := 110) ok ⟨by omega, by omega⟩ dX10_fits_39 (by decide) (fun c13 => ?_) (fun c13 => ?_)
          · skip
            have e21 : (20 - v).toNat = 21 := by omega
            rw [e21] at i37_1 i37_2
            rw [show (n : Int) = (ftN (fun v => fot (rwH (M 79) 46) (rwN (M 79) 46) (jnW (up (M 79) h v)) (M 79 45).toNat 0) 21) from i37_1]
            rw [show (b : Int) = (ftL (fun v => fot (rwH (M 79) 46) (rwN (M 79) 46) (jnW (up (M 79) h v)) (M 79 45).toNat 0) 21) from i37_2]
            refine v_aload_n ok 0 dX10_fits_110 rfl rfl ?_
            refine v_get (T := TX10) (N := 22) (f0 := C) (v := rf g 79) ok mi_X10_fits_10 (kd_lt (show kd 78 = 10 from rfl) (by decide)) rfl rfl (cellF_10 _ (by decide)) 0 (by decide) mk_X10_fits_11 rfl rfl dX10_fits_111 ?_
            refine v_iload_n ok 1 dX10_fits_114 rfl rfl ?_
            refine v_iload_n ok 3 dX10_fits_115 rfl rfl ?_
            refine v_iast (n := 90) (f0 := G) ok (by decide) rfl (by omega) rfl dX10_fits_116 ?_
            rw [up1_up1]
            refine v_cong (n := 90) (M 79) (Or.inl (by decide)) rfl (fun j j0 j1 => by rw [i37_4, up_self]) ?_
            rw [show ((up1 (up1 (up1 (up1 (up1 M 84 F) 85 O) 78 C) 86 J) 79 (M 79)) : Mem) = (up1 (up1 (up1 (up1 M 84 F) 85 O) 78 C) 86 J) from (by funext j; by_cases hj0 : j = 78 <;> by_cases hj1 : j = 79 <;> by_cases hj2 : j = 84 <;> by_cases hj3 : j = 85 <;> by_cases hj4 : j = 86 <;> simp_all [up1])]
            refine v_iload_n ok 2 dX10_fits_117 rfl rfl ?_
            refine v_if_ne (tgt := 126) ok ⟨by omega, by omega⟩ dX10_fits_118 (by decide) (fun c14 => ?_) (fun c14 => ?_)
            · skip
              refine v_iload ok 5 dX10_fits_126 rfl ?_
              exact v_iret ok rt dX10_fits_128 (Or.inr (Or.inr (⟨F, O, C, J, rfl, rfl, (by omega), (by omega), i37_3⟩)))
            · skip
              refine v_iload ok 4 dX10_fits_121 rfl ?_
              refine v_goto (tgt := 128) ok dX10_fits_123 (by decide) ?_
              exact v_iret ok rt dX10_fits_128 (Or.inr (Or.inl (⟨F, O, C, J, rfl, rfl, (by omega), (by omega), i37_3⟩)))
          · skip
            refine v_aload_n ok 0 dX10_fits_42 rfl rfl ?_
            refine v_get (T := TX10) (N := 22) (f0 := C) (v := rf g 79) ok mi_X10_fits_10 (kd_lt (show kd 78 = 10 from rfl) (by decide)) rfl rfl (cellF_10 _ (by decide)) 0 (by decide) mk_X10_fits_11 rfl rfl dX10_fits_43 ?_
            refine v_iload_n ok 1 dX10_fits_46 rfl rfl ?_
            refine v_iload ok 6 dX10_fits_47 rfl ?_
            refine v_iast (n := 90) (f0 := G) ok (by decide) rfl (by omega) rfl dX10_fits_49 ?_
            rw [up1_up1]
            rw [show ((up1 (up1 (up1 (up1 (up1 M 84 F) 85 O) 78 C) 86 J) 79 (up G h v)) : Mem) = (up1 (up1 (up1 (up1 (up1 M 84 F) 85 O) 78 C) 86 J) 79 (up (M 79) h v)) from (by rw [i37_4])]
            have hwu := WOk_up hw (h := h) (v := v) (by omega) (by omega) (by omega) (by omega)
            have h45 : up (M 79) h v 45 = M 79 45 := up_ne (by omega)
            have hHu : bdf (rwH (up (M 79) h v) 46) (M 79 45) 0 29 := fun k k0 k1 => by rw [show rwH (up (M 79) h v) 46 k = rwH (M 79) 46 k from up_ne (by omega)]; exact hr1 k k0 k1
            have hNu : bdf (rwN (up (M 79) h v) 46) (M 79 45) 0 9999 := fun k k0 k1 => by rw [show rwN (up (M 79) h v) 46 k = rwN (M 79) 46 k from up_ne (by omega)]; exact hr2 k k0 k1
            refine v_aload_n ok 0 dX10_fits_50 rfl rfl ?_
            refine v_bipush (n := 46) ok rfl dX10_fits_51 ?_
            refine v_aload_n ok 0 dX10_fits_53 rfl rfl ?_
            refine v_get (T := TX10) (N := 22) (f0 := C) (v := rf g 79) ok mi_X10_fits_10 (kd_lt (show kd 78 = 10 from rfl) (by decide)) rfl rfl (cellF_10 _ (by decide)) 0 (by decide) mk_X10_fits_11 rfl rfl dX10_fits_54 ?_
            refine v_bipush (n := 45) ok rfl dX10_fits_57 ?_
            refine v_iald (n := 90) (f0 := (up (M 79) h v)) ok (by decide) rfl (by omega) rfl dX10_fits_59 ?_
            rw [show (((up (M 79) h v) 45) : Int) = (M 79 45) from h45]
            refine v_callV (na := 2) (i := 78) (C := RX10) (T := TX10) (N := 22) (f0 := C) ok (ct_X10_otherwise z.2.1 g (up1 (up1 (up1 (up1 (up1 M 84 F) 85 O) 78 C) 86 J) 79 (up (M 79) h v)) 46 (M 79 45) hwu (by omega) hHu hNu) gX10_fits_X10_otherwise (kd_lt (show kd 78 = 10 from rfl) (by decide)) rfl rfl (cellF_10 _ (by decide)) rfl (by decide +kernel) rfl (by decide) [] rfl (Nat.le_of_ble_eq_true rfl) dX10_fits_60 (fun v16 M17 hp15 => ?_)
            obtain ⟨F18, O19, C20, rfl, rfl, h21⟩ := hp15
            have h21 : ∀ j : Int, j ≠ 13 → C20 j = C j := h21
            show V z g 8 (up1 (up1 (up1 (up1 (up1 (up1 (up1 (up1 (up1 M 84 F) 85 O) 78 C) 86 J) 79 (up (M 79) h v)) 84 F18) 85 O19) 78 C20) 86 (jnW ((up (M 79) h v)))) [(0, rf g 78), (1, iv h), (2, iv w), (3, iv (M 79 h)), (4, iv n), (5, iv b), (6, iv v)] [iv (fot (rwH ((up (M 79) h v)) 46) (rwN ((up (M 79) h v)) 46) (jnW ((up (M 79) h v))) (M 79 45).toNat 0)] 63
            rw [show ((up1 (up1 (up1 (up1 (up1 (up1 (up1 (up1 (up1 M 84 F) 85 O) 78 C) 86 J) 79 (up (M 79) h v)) 84 F18) 85 O19) 78 C20) 86 (jnW ((up (M 79) h v)))) : Mem) = (up1 (up1 (up1 (up1 (up1 M 84 F18) 85 O19) 78 C20) 86 (jnW ((up (M 79) h v)))) 79 (up (M 79) h v)) from (by
                  funext j
                  by_cases hj0 : j = 84
                  · subst hj0; simp [up1, up1_self]
                  by_cases hj1 : j = 85
                  · subst hj1; simp [up1, up1_self]
                  by_cases hj2 : j = 78
                  · subst hj2; simp [up1, up1_self]
                  by_cases hj3 : j = 86
                  · subst hj3; simp [up1, up1_self]
                  by_cases hj4 : j = 79
                  · subst hj4; simp [up1, up1_self]
                  simp [up1, hj0, hj1, hj2, hj3, hj4])]
            have hC9 : ∀ j : Int, j ≠ 13 → C20 j = M 78 j := fun j hj => (h21 j hj).trans (i37_3 j hj)
            rw [show ((fot (rwH ((up (M 79) h v)) 46) (rwN ((up (M 79) h v)) 46) (jnW ((up (M 79) h v))) (M 79 45).toNat 0) : Int) = ((fun v => fot (rwH (M 79) 46) (rwN (M 79) 46) (jnW (up (M 79) h v)) (M 79 45).toNat 0) v) from (fot_cg _ _ (by decide) (fun x x0 x1 => ⟨up_ne (by omega), up_ne (by omega)⟩))]
            have hfr := fot_rng (F := rwH (M 79) 46) (S := rwN (M 79) 46) (J := jnW (up (M 79) h v)) (M 79 45).toNat 0 (by omega)
            have hfr2 : (fun v => fot (rwH (M 79) 46) (rwN (M 79) 46) (jnW (up (M 79) h v)) (M 79 45).toNat 0) v = -5 ∨ 0 ≤ (fun v => fot (rwH (M 79) 46) (rwN (M 79) 46) (jnW (up (M 79) h v)) (M 79 45).toNat 0) v ∧ (fun v => fot (rwH (M 79) 46) (rwN (M 79) 46) (jnW (up (M 79) h v)) (M 79 45).toNat 0) v < 8 := by
              show fot (rwH (M 79) 46) (rwN (M 79) 46) (jnW (up (M 79) h v)) (M 79 45).toNat 0 = -5 ∨ 0 ≤ fot (rwH (M 79) 46) (rwN (M 79) 46) (jnW (up (M 79) h v)) (M 79 45).toNat 0 ∧ fot (rwH (M 79) 46) (rwN (M 79) 46) (jnW (up (M 79) h v)) (M 79 45).toNat 0 < 8
              omega
            refine v_bipush (n := -5) ok rfl dX10_fits_63 ?_
            refine v_icmp_ne (tgt := 72) ok ⟨by omega, by omega⟩ (by decide) dX10_fits_65 (by decide) (fun c22 => ?_) (fun c22 => ?_)
            · skip
              have hf5 : ¬ (fun v => fot (rwH (M 79) 46) (rwN (M 79) 46) (jnW (up (M 79) h v)) (M 79 45).toNat 0) v = -5 := by omega
              refine v_iconst (n := 0) ok dX10_fits_72 ?_
              refine v_istore ok [(7, iv 0), (0, rf g 78), (1, iv h), (2, iv w), (3, iv (M 79 h)), (4, iv n), (5, iv b), (6, iv v)] dX10_fits_73 (by decide) rfl ?_
              refine v_iload ok 5 dX10_fits_75 rfl ?_
              refine v_iload ok 0 dX10_fits_77 rfl ?_
              refine v_if_eq (tgt := 86) ok (by decide) dX10_fits_79 (by decide) (fun c23 => ?_) (fun c23 => absurd c23 (by decide))
              refine v_iconst (n := 0) ok dX10_fits_86 ?_
              refine v_iadd ok dX10_fits_87 ?_
              refine v_istore ok [(4, iv (n + 0)), (7, iv 0), (0, rf g 78), (1, iv h), (2, iv w), (3, iv (M 79 h)), (5, iv b), (6, iv v)] dX10_fits_88 (by decide) rfl ?_
              refine v_iload ok 1 dX10_fits_90 rfl ?_
              refine v_if_eq (tgt := 100) ok (by decide) dX10_fits_92 (by decide) (fun c24 => ?_) (fun c24 => absurd c24 (by decide))
              refine v_iload ok 6 dX10_fits_100 rfl ?_
              refine v_istore ok [(5, iv b), (4, iv (n + 0)), (7, iv 0), (0, rf g 78), (1, iv h), (2, iv w), (3, iv (M 79 h)), (6, iv v)] dX10_fits_102 (by decide) rfl ?_
              refine v_iinc ok 7 [(6, iv (v + (-1))), (5, iv b), (4, iv (n + 0)), (7, iv 0), (0, rf g 78), (1, iv h), (2, iv w), (3, iv (M 79 h))] dX10_fits_104 rfl (by decide) rfl ?_
              refine v_goto (tgt := 37) ok dX10_fits_107 (by decide) ?_
              refine v_lv (ls' := [(0, rf g 78), (1, iv h), (2, iv w), (3, iv (M 79 h)), (4, iv (n + 0)), (5, iv b), (6, iv (v + (-1)))]) ok [4, 5, 6, 7, 2, 1, 0] rfl ?_
              exact ih37 (n + 0) b (v + (-1)) F18 O19 C20 (jnW ((up (M 79) h v))) (up (M 79) h v) (by omega) (by rw [show v + (-1) = v - 1 from rfl, ftN_s i37_0.2, i37_1]; first | rw [if_pos hf5] | (rw [if_neg hf5])) (by rw [show v + (-1) = v - 1 from rfl, ftL_s i37_0.2]; first | rw [if_pos hf5] | (rw [if_neg hf5]; exact i37_2)) hC9 (fun x => up_up _ _ _ _) (by omega)
            · skip
              have hf5 : (fun v => fot (rwH (M 79) 46) (rwN (M 79) 46) (jnW (up (M 79) h v)) (M 79 45).toNat 0) v = -5 := by omega
              refine v_iconst (n := 1) ok dX10_fits_68 ?_
              refine v_goto (tgt := 73) ok dX10_fits_69 (by decide) ?_
              refine v_istore ok [(7, iv 1), (0, rf g 78), (1, iv h), (2, iv w), (3, iv (M 79 h)), (4, iv n), (5, iv b), (6, iv v)] dX10_fits_73 (by decide) rfl ?_
              refine v_iload ok 5 dX10_fits_75 rfl ?_
              refine v_iload ok 0 dX10_fits_77 rfl ?_
              refine v_if_eq (tgt := 86) ok (by decide) dX10_fits_79 (by decide) (fun c25 => absurd c25 (by decide)) (fun c25 => ?_)
              refine v_iconst (n := 1) ok dX10_fits_82 ?_
              refine v_goto (tgt := 87) ok dX10_fits_83 (by decide) ?_
              refine v_iadd ok dX10_fits_87 ?_
              refine v_istore ok [(4, iv (n + 1)), (7, iv 1), (0, rf g 78), (1, iv h), (2, iv w), (3, iv (M 79 h)), (5, iv b), (6, iv v)] dX10_fits_88 (by decide) rfl ?_
              refine v_iload ok 1 dX10_fits_90 rfl ?_
              refine v_if_eq (tgt := 100) ok (by decide) dX10_fits_92 (by decide) (fun c26 => absurd c26 (by decide)) (fun c26 => ?_)
              refine v_iload ok 7 dX10_fits_95 rfl ?_
              refine v_goto (tgt := 102) ok dX10_fits_97 (by decide) ?_
              refine v_istore ok [(5, iv v), (4, iv (n + 1)), (7, iv 1), (0, rf g 78), (1, iv h), (2, iv w), (3, iv (M 79 h)), (6, iv v)] dX10_fits_102 (by decide) rfl ?_
              refine v_iinc ok 7 [(6, iv (v + (-1))), (5, iv v), (4, iv (n + 1)), (7, iv 1), (0, rf g 78), (1, iv h), (2, iv w), (3, iv (M 79 h))] dX10_fits_104 rfl (by decide) rfl ?_
              refine v_goto (tgt := 37) ok dX10_fits_107 (by decide) ?_
              refine v_lv (ls' := [(0, rf g 78), (1, iv h), (2, iv w), (3, iv (M 79 h)), (4, iv (n + 1)), (5, iv v), (6, iv (v + (-1)))]) ok [4, 5, 6, 7, 2, 1, 0] rfl ?_
              exact ih37 (n + 1) v (v + (-1)) F18 O19 C20 (jnW ((up (M 79) h v))) (up (M 79) h v) (by omega) (by rw [show v + (-1) = v - 1 from rfl, ftN_s i37_0.2, i37_1]; first | rw [if_pos hf5] | (rw [if_neg hf5])) (by rw [show v + (-1) = v - 1 from rfl, ftL_s i37_0.2]; first | rw [if_pos hf5] | (rw [if_neg hf5]; exact i37_2)) hC9 (fun x => up_up _ _ _ _) (by omega)
      rw [show (M : Mem) = (up1 (up1 (up1 (up1 (up1 M 84 (M 84)) 85 (M 85)) 78 (M 78)) 86 (M 86)) 79 (M 79)) from (by funext j; by_cases hj0 : j = 78 <;> by_cases hj1 : j = 79 <;> by_cases hj2 : j = 84 <;> by_cases hj3 : j = 85 <;> by_cases hj4 : j = 86 <;> simp_all [up1])]
      refine v_lv (ls' := [(0, rf g 78), (1, iv h), (2, iv w), (3, iv (M 79 h)), (4, iv 0), (5, iv (-5)), (6, iv 20)]) ok [4, 5, 6, 3, 2, 1, 0] rfl ?_
      exact lp37 _ 0 (-5) 20 (M 84) (M 85) (M 78) (M 86) (M 79) (by omega) rfl rfl (fun _ _ => rfl) (fun _ => rfl) (Nat.lt_succ_self _)
    · skip
      subst M9
      show V z g 8 M [(0, rf g 78), (1, iv h), (2, iv w)] [iv 0] 14
      refine v_if_ne (tgt := 19) ok (by decide) dX10_fits_14 (by decide) (fun c27 => absurd c27 (by decide)) (fun c27 => ?_)
      refine v_iconst (n := -1) ok dX10_fits_17 ?_
      exact v_iret ok rt dX10_fits_18 (Or.inl (⟨rfl, rfl, (by omega)⟩))
  · skip
    subst M3
    show V z g 8 M [(0, rf g 78), (1, iv h), (2, iv w)] [iv 0] 4
    refine v_if_eq (tgt := 17) ok (by decide) dX10_fits_4 (by decide) (fun c28 => ?_) (fun c28 => absurd c28 (by decide))
    refine v_iconst (n := -1) ok dX10_fits_17 ?_
    exact v_iret ok rt dX10_fits_18 (Or.inl (⟨rfl, rfl, (by omega)⟩))
