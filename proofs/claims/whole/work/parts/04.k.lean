theorem mk_X10_after_191 : Cond.constantLong RX10 191 (2) ∈ wsX10_after := by decide +kernel
theorem mk_X10_after_11 : Cond.fieldLink RX10 11 "StormRunoffModel" "w" "[I" ∈ wsX10_after := by decide +kernel
theorem mi_X10_after_10 : ∀ w ∈ wsX100, w ∈ wsX10_after := by decide +kernel
theorem mk_X10_after_48 : Cond.fieldLink RX10 48 "StormRunoffModel" "aside" "[I" ∈ wsX10_after := by decide +kernel
theorem mk_X10_after_33 : Cond.fieldLink RX10 33 "StormRunoffModel" "joined" "[I" ∈ wsX10_after := by decide +kernel
set_option maxRecDepth 100000 in
set_option maxHeartbeats 400000 in
theorem ct_X10_after (l : Launch) (g : Gl) (M : Mem) (w : Int) (hwi : i32 w) (hw : WOk (M 79)) (hev : EvW (M 79)) : Ct l g yX10_after wsX10_after 4 94 [rf g 78, iv w] M (fun rv M' => (rv = some (iv (-1)) ∧ M' = M ∧ (¬ (0 ≤ w ∧ w ≤ 2))) ∨ (∃ (F O C J : Int → Int), rv = some (iv (msr 1 (jnW (hpW (M 79) (M 79 56).toNat)) 30)) ∧ M' = (up1 (up1 (up1 (up1 (up1 M 84 F) 85 O) 78 C) 86 J) 91 (M 79)) ∧ (w = 0) ∧ (∀ j : Int, j ≠ 13 → C j = M 78 j)) ∨ (∃ (F O C J : Int → Int), rv = some (iv (msr 2 (jnW (hpW (M 79) (M 79 56).toNat)) 30)) ∧ M' = (up1 (up1 (up1 (up1 (up1 M 84 F) 85 O) 78 C) 86 J) 91 (M 79)) ∧ (w = 1) ∧ (∀ j : Int, j ≠ 13 → C j = M 78 j)) ∨ (∃ (F O C J : Int → Int), rv = some (iv (msr 0 (jnW (hpW (M 79) (M 79 56).toNat)) 30)) ∧ M' = (up1 (up1 (up1 (up1 (up1 M 84 F) 85 O) 78 C) 86 J) 91 (M 79)) ∧ (w = 2) ∧ (∀ j : Int, j ≠ 13 → C j = M 78 j))) := by
  refine Ct.of (cc := cX10_after) (nL := 3) (ret := (some .int)) (by decide) rfl (Nat.le_of_ble_eq_true rfl) (fun z hz ok rt => ?_)
  have ok : Ok z g cX10_after 3 RX10 wsX10_after 4 94 := ok
  show V z g 3 M [(0, rf g 78), (1, iv w)] [] 0
  have hev0 := hev.1
  refine v_iload_n ok 1 dX10_after_0 rfl rfl ?_
  refine v_i2l ok ⟨by omega, by omega⟩ dX10_after_1 ?_
  refine v_lconst (n := 0) ok rfl dX10_after_2 ?_
  refine v_ldc2 (n := 2) ok mk_X10_after_191 rfl dX10_after_3 ?_
  refine v_callS (na := 3) ok (ct_X10_in z.2.1 g M w 0 2 ⟨by omega, by omega⟩ (by decide) (by decide)) gX10_after_X10_in rfl (by decide +kernel) rfl (by decide) [] rfl (Nat.le_of_ble_eq_true rfl) dX10_after_6 (fun v2 M3 hp1 => ?_)
  rcases hp1 with ⟨rfl, eM3, h4⟩ | ⟨rfl, eM3, h5⟩
  · skip
    subst M3
    show V z g 3 M [(0, rf g 78), (1, iv w)] [iv 1] 9
    refine v_if_ne (tgt := 14) ok (by decide) dX10_after_9 (by decide) (fun c6 => ?_) (fun c6 => absurd c6 (by decide))
    refine v_aload_n ok 0 dX10_after_14 rfl rfl ?_
    refine v_get (T := TX10) (N := 22) (f0 := (M 78)) (v := rf g 79) ok mi_X10_after_10 (kd_lt (show kd 78 = 10 from rfl) (by decide)) rfl rfl (cellF_10 _ (by decide)) 0 (by decide) mk_X10_after_11 rfl rfl dX10_after_15 ?_
    refine v_aload_n ok 0 dX10_after_18 rfl rfl ?_
    refine v_get (T := TX10) (N := 22) (f0 := (M 78)) (v := rf g 91) ok mi_X10_after_10 (kd_lt (show kd 78 = 10 from rfl) (by decide)) rfl rfl (cellF_10 _ (by decide)) 18 (by decide) mk_X10_after_48 rfl rfl dX10_after_19 ?_
    refine v_callS (na := 2) ok (ct_X10_copies_79_91 z.2.1 g M  ) gX10_after_X10_copies rfl (by decide +kernel) rfl (by decide) [] rfl (Nat.le_of_ble_eq_true rfl) dX10_after_22 (fun v8 M9 hp7 => ?_)
    obtain ⟨rfl, rfl⟩ := hp7
    show V z g 3 (up1 M 91 ((M 79))) [(0, rf g 78), (1, iv w)] [] 25
    refine v_iconst (n := 0) ok dX10_after_25 ?_
    refine v_istore_n ok [(2, iv 0), (0, rf g 78), (1, iv w)] dX10_after_26 rfl (by decide) rfl ?_
    have lp27 : ∀ (fu : Nat) (r : Int), (0 ≤ r ∧ r ≤ M 79 56) → (M 79 56 - r).toNat < fu → V z g 3 (up1 (up1 M 91 (M 79)) 79 (hpW (M 79) r.toNat)) [(0, rf g 78), (1, iv w), (2, iv r)] [] 27 := by
      intro fu
      induction fu with
      | zero => intro r _ hm; exact absurd hm (Nat.not_lt_zero _)
      | succ fu ih27 =>
        intro r i27_0 hm27
        have hpf := hpW_far hw hev r.toNat (by omega)
        refine v_iload_n ok 2 dX10_after_27 rfl rfl ?_
        refine v_aload_n ok 0 dX10_after_28 rfl rfl ?_
        refine v_get (T := TX10) (N := 22) (f0 := (M 78)) (v := rf g 79) ok mi_X10_after_10 (kd_lt (show kd 78 = 10 from rfl) (by decide)) rfl rfl (cellF_10 _ (by decide)) 0 (by decide) mk_X10_after_11 rfl rfl dX10_after_29 ?_
        refine v_bipush (n := 56) ok rfl dX10_after_32 ?_
        refine v_iald (n := 90) (f0 := (hpW (M 79) r.toNat)) ok (by decide) rfl (by omega) rfl dX10_after_34 ?_
        rw [show (((hpW (M 79) r.toNat) 56) : Int) = (M 79 56) from (hpf.2.1 56 (by decide))]
        refine v_icmp_ge (tgt := 72) ok ⟨by omega, by omega⟩ ⟨by omega, by omega⟩ dX10_after_35 (by decide) (fun c10 => ?_) (fun c10 => ?_)
        · skip
          have er : r.toNat = (M 79 56).toNat := by omega
          rw [er] at hpf
          rw [show ((up1 (up1 M 91 (M 79)) 79 (hpW (M 79) r.toNat)) : Mem) = (up1 (up1 M 91 (M 79)) 79 (hpW (M 79) (M 79 56).toNat)) from (by rw [er])]
          have hJ9 := jnW_rng hpf.1
          refine v_aload_n ok 0 dX10_after_72 rfl rfl ?_
          refine v_callV (na := 0) (i := 78) (C := RX10) (T := TX10) (N := 22) (f0 := (M 78)) ok (ct_X10_joins z.2.1 g (up1 (up1 M 91 (M 79)) 79 (hpW (M 79) (M 79 56).toNat))  hpf.1) gX10_after_X10_joins (kd_lt (show kd 78 = 10 from rfl) (by decide)) rfl rfl (cellF_10 _ (by decide)) rfl (by decide +kernel) rfl (by decide) [] rfl (Nat.le_of_ble_eq_true rfl) dX10_after_73 (fun v12 M13 hp11 => ?_)
          obtain ⟨F14, O15, C16, rfl, rfl, h17⟩ := hp11
          have h17 : ∀ j : Int, j ≠ 13 → C16 j = (M 78) j := h17
          show V z g 3 (up1 (up1 (up1 (up1 (up1 (up1 M 91 (M 79)) 79 (hpW (M 79) (M 79 56).toNat)) 84 F14) 85 O15) 78 C16) 86 (jnW ((hpW (M 79) (M 79 56).toNat)))) [(0, rf g 78), (1, iv w), (2, iv r)] [] 76
          have hC9 := h17
          refine v_aload_n ok 0 dX10_after_76 rfl rfl ?_
          refine v_get (T := TX10) (N := 22) (f0 := C16) (v := rf g 91) ok mi_X10_after_10 (kd_lt (show kd 78 = 10 from rfl) (by decide)) rfl rfl (cellF_10 _ (by decide)) 18 (by decide) mk_X10_after_48 rfl rfl dX10_after_77 ?_
          refine v_aload_n ok 0 dX10_after_80 rfl rfl ?_
          refine v_get (T := TX10) (N := 22) (f0 := C16) (v := rf g 79) ok mi_X10_after_10 (kd_lt (show kd 78 = 10 from rfl) (by decide)) rfl rfl (cellF_10 _ (by decide)) 0 (by decide) mk_X10_after_11 rfl rfl dX10_after_81 ?_
          refine v_callS (na := 2) ok (ct_X10_copies_91_79 z.2.1 g (up1 (up1 (up1 (up1 (up1 (up1 M 91 (M 79)) 79 (hpW (M 79) (M 79 56).toNat)) 84 F14) 85 O15) 78 C16) 86 (jnW ((hpW (M 79) (M 79 56).toNat))))  ) gX10_after_X10_copies rfl (by decide +kernel) rfl (by decide) [] rfl (Nat.le_of_ble_eq_true rfl) dX10_after_84 (fun v19 M20 hp18 => ?_)
          obtain ⟨rfl, rfl⟩ := hp18
          show V z g 3 (up1 (up1 (up1 (up1 (up1 (up1 (up1 M 91 (M 79)) 79 (hpW (M 79) (M 79 56).toNat)) 84 F14) 85 O15) 78 C16) 86 (jnW ((hpW (M 79) (M 79 56).toNat)))) 79 ((M 79))) [(0, rf g 78), (1, iv w), (2, iv r)] [] 87
          rw [show ((up1 (up1 (up1 (up1 (up1 (up1 (up1 M 91 (M 79)) 79 (hpW (M 79) (M 79 56).toNat)) 84 F14) 85 O15) 78 C16) 86 (jnW ((hpW (M 79) (M 79 56).toNat)))) 79 ((M 79))) : Mem) = (up1 (up1 (up1 (up1 (up1 (up1 M 91 (M 79)) 79 ((M 79))) 84 F14) 85 O15) 78 C16) 86 (jnW ((hpW (M 79) (M 79 56).toNat)))) from (by
                funext j
                by_cases hj0 : j = 91
                · subst hj0; simp [up1, up1_self]
                by_cases hj1 : j = 79
                · subst hj1; simp [up1, up1_self]
                by_cases hj2 : j = 84
                · subst hj2; simp [up1, up1_self]
                by_cases hj3 : j = 85
                · subst hj3; simp [up1, up1_self]
                by_cases hj4 : j = 78
                · subst hj4; simp [up1, up1_self]
                by_cases hj5 : j = 86
                · subst hj5; simp [up1, up1_self]
                simp [up1, hj0, hj1, hj2, hj3, hj4, hj5])]
          rw [show ((up1 (up1 (up1 (up1 (up1 (up1 M 91 (M 79)) 79 ((M 79))) 84 F14) 85 O15) 78 C16) 86 (jnW ((hpW (M 79) (M 79 56).toNat)))) : Mem) = (up1 (up1 (up1 (up1 (up1 M 84 F14) 85 O15) 78 C16) 86 (jnW ((hpW (M 79) (M 79 56).toNat)))) 91 (M 79)) from (by funext j; by_cases hj1 : j = 79 <;> by_cases hj2 : j = 84 <;> by_cases hj3 : j = 85 <;> by_cases hj4 : j = 86 <;> by_cases hj5 : j = 91 <;> by_cases hj6 : j = 78 <;> simp_all [up1])]
          refine v_aload_n ok 0 dX10_after_87 rfl rfl ?_
          refine v_get (T := TX10) (N := 22) (f0 := C16) (v := rf g 86) ok mi_X10_after_10 (kd_lt (show kd 78 = 10 from rfl) (by decide)) rfl rfl (cellF_10 _ (by decide)) 12 (by decide) mk_X10_after_33 rfl rfl dX10_after_88 ?_
          refine v_iconst (n := 0) ok dX10_after_91 ?_
          refine v_bipush (n := 30) ok rfl dX10_after_92 ?_
          refine v_iload_n ok 1 dX10_after_94 rfl rfl ?_
          refine v_if_ne (tgt := 102) ok ⟨by omega, by omega⟩ dX10_after_95 (by decide) (fun c21 => ?_) (fun c21 => ?_)
          · skip
            refine v_iload_n ok 1 dX10_after_102 rfl rfl ?_
            refine v_iconst (n := 1) ok dX10_after_103 ?_
            refine v_icmp_ne (tgt := 111) ok ⟨by omega, by omega⟩ (by decide) dX10_after_104 (by decide) (fun c22 => ?_) (fun c22 => ?_)
            · skip
              refine v_iconst (n := 0) ok dX10_after_111 ?_
              refine v_callS (na := 4) ok (ct_X10_most z.2.1 g (up1 (up1 (up1 (up1 (up1 M 84 F14) 85 O15) 78 C16) 86 (jnW ((hpW (M 79) (M 79 56).toNat)))) 91 (M 79)) 86 30 0 30 0 129600 (by decide) rfl (by decide) (by first | decide | omega) (by rw [shf_0]; exact hJ9) (by decide)) gX10_after_X10_most rfl (by decide +kernel) rfl (by decide) [] rfl (Nat.le_of_ble_eq_true rfl) dX10_after_112 (fun v24 M25 hp23 => ?_)
              obtain ⟨rfl, rfl⟩ := hp23
              show V z g 3 (up1 (up1 (up1 (up1 (up1 M 84 F14) 85 O15) 78 C16) 86 (jnW ((hpW (M 79) (M 79 56).toNat)))) 91 (M 79)) [(0, rf g 78), (1, iv w), (2, iv r)] [iv (msr 0 (shf ((jnW ((hpW (M 79) (M 79 56).toNat)))) 0) (30 : Int).toNat)] 115
              exact v_iret ok rt dX10_after_115 (Or.inr (Or.inr (Or.inr (⟨F14, O15, C16, (jnW ((hpW (M 79) (M 79 56).toNat))), (congrArg (fun q : Int => some (iv q)) (show (msr 0 (shf ((jnW ((hpW (M 79) (M 79 56).toNat)))) 0) (30 : Int).toNat) = (msr 0 (jnW (hpW (M 79) (M 79 56).toNat)) 30) from by (rw [shf_0]; rfl))), rfl, (by omega), hC9⟩))))
            · skip
              refine v_iconst (n := 2) ok dX10_after_107 ?_
              refine v_goto (tgt := 112) ok dX10_after_108 (by decide) ?_
              refine v_callS (na := 4) ok (ct_X10_most z.2.1 g (up1 (up1 (up1 (up1 (up1 M 84 F14) 85 O15) 78 C16) 86 (jnW ((hpW (M 79) (M 79 56).toNat)))) 91 (M 79)) 86 30 0 30 2 129600 (by decide) rfl (by decide) (by first | decide | omega) (by rw [shf_0]; exact hJ9) (by decide)) gX10_after_X10_most rfl (by decide +kernel) rfl (by decide) [] rfl (Nat.le_of_ble_eq_true rfl) dX10_after_112 (fun v27 M28 hp26 => ?_)
              obtain ⟨rfl, rfl⟩ := hp26
              show V z g 3 (up1 (up1 (up1 (up1 (up1 M 84 F14) 85 O15) 78 C16) 86 (jnW ((hpW (M 79) (M 79 56).toNat)))) 91 (M 79)) [(0, rf g 78), (1, iv w), (2, iv r)] [iv (msr 2 (shf ((jnW ((hpW (M 79) (M 79 56).toNat)))) 0) (30 : Int).toNat)] 115
              exact v_iret ok rt dX10_after_115 (Or.inr (Or.inr (Or.inl (⟨F14, O15, C16, (jnW ((hpW (M 79) (M 79 56).toNat))), (congrArg (fun q : Int => some (iv q)) (show (msr 2 (shf ((jnW ((hpW (M 79) (M 79 56).toNat)))) 0) (30 : Int).toNat) = (msr 2 (jnW (hpW (M 79) (M 79 56).toNat)) 30) from by (rw [shf_0]; rfl))), rfl, (by omega), hC9⟩))))
          · skip
            refine v_iconst (n := 1) ok dX10_after_98 ?_
            refine v_goto (tgt := 112) ok dX10_after_99 (by decide) ?_
            refine v_callS (na := 4) ok (ct_X10_most z.2.1 g (up1 (up1 (up1 (up1 (up1 M 84 F14) 85 O15) 78 C16) 86 (jnW ((hpW (M 79) (M 79 56).toNat)))) 91 (M 79)) 86 30 0 30 1 129600 (by decide) rfl (by decide) (by first | decide | omega) (by rw [shf_0]; exact hJ9) (by decide)) gX10_after_X10_most rfl (by decide +kernel) rfl (by decide) [] rfl (Nat.le_of_ble_eq_true rfl) dX10_after_112 (fun v30 M31 hp29 => ?_)
            obtain ⟨rfl, rfl⟩ := hp29
            show V z g 3 (up1 (up1 (up1 (up1 (up1 M 84 F14) 85 O15) 78 C16) 86 (jnW ((hpW (M 79) (M 79 56).toNat)))) 91 (M 79)) [(0, rf g 78), (1, iv w), (2, iv r)] [iv (msr 1 (shf ((jnW ((hpW (M 79) (M 79 56).toNat)))) 0) (30 : Int).toNat)] 115
            exact v_iret ok rt dX10_after_115 (Or.inr (Or.inl (⟨F14, O15, C16, (jnW ((hpW (M 79) (M 79 56).toNat))), (congrArg (fun q : Int => some (iv q)) (show (msr 1 (shf ((jnW ((hpW (M 79) (M 79 56).toNat)))) 0) (30 : Int).toNat) = (msr 1 (jnW (hpW (M 79) (M 79 56).toNat)) 30) from by (rw [shf_0]; rfl))), rfl, (by omega), hC9⟩)))
        · skip
          refine v_aload_n ok 0 dX10_after_38 rfl rfl ?_
          refine v_aload_n ok 0 dX10_after_39 rfl rfl ?_
          refine v_get (T := TX10) (N := 22) (f0 := (M 78)) (v := rf g 79) ok mi_X10_after_10 (kd_lt (show kd 78 = 10 from rfl) (by decide)) rfl rfl (cellF_10 _ (by decide)) 0 (by decide) mk_X10_after_11 rfl rfl dX10_after_40 ?_
          refine v_bipush (n := 57) ok rfl dX10_after_43 ?_
          refine v_iconst (n := 2) ok dX10_after_45 ?_
          refine v_iload_n ok 2 dX10_after_46 rfl rfl ?_
          refine v_imul ok dX10_after_47 ?_
          refine v_iadd ok dX10_after_48 ?_
          refine v_iald (n := 90) (f0 := (hpW (M 79) r.toNat)) ok (by decide) rfl (by omega) rfl dX10_after_49 ?_
          rw [show (((hpW (M 79) r.toNat) (57 + (2 * r))) : Int) = (M 79 (57 + 2 * r)) from (hpf.2.1 _ (by omega))]
          refine v_aload_n ok 0 dX10_after_50 rfl rfl ?_
          refine v_get (T := TX10) (N := 22) (f0 := (M 78)) (v := rf g 79) ok mi_X10_after_10 (kd_lt (show kd 78 = 10 from rfl) (by decide)) rfl rfl (cellF_10 _ (by decide)) 0 (by decide) mk_X10_after_11 rfl rfl dX10_after_51 ?_
          refine v_bipush (n := 57) ok rfl dX10_after_54 ?_
          refine v_iconst (n := 2) ok dX10_after_56 ?_
          refine v_iload_n ok 2 dX10_after_57 rfl rfl ?_
          refine v_imul ok dX10_after_58 ?_
          refine v_iadd ok dX10_after_59 ?_
          refine v_iconst (n := 1) ok dX10_after_60 ?_
          refine v_iadd ok dX10_after_61 ?_
          refine v_iald (n := 90) (f0 := (hpW (M 79) r.toNat)) ok (by decide) rfl (by omega) rfl dX10_after_62 ?_
          rw [show (((hpW (M 79) r.toNat) ((57 + (2 * r)) + 1)) : Int) = (M 79 (58 + 2 * r)) from (by rw [show (57 : Int) + 2 * r + 1 = 58 + 2 * r by omega]; exact hpf.2.1 _ (by omega))]
          have hev9 := hev.2 r (by omega) (by omega)
          refine v_callV (na := 2) (i := 78) (C := RX10) (T := TX10) (N := 22) (f0 := (M 78)) ok (ct_X10_happens z.2.1 g (up1 (up1 M 91 (M 79)) 79 (hpW (M 79) r.toNat)) (M 79 (57 + 2 * r)) (M 79 (58 + 2 * r)) hev9.1 hev9.2.1 hev9.2.2 hpf.1.1) gX10_after_X10_happens (kd_lt (show kd 78 = 10 from rfl) (by decide)) rfl rfl (cellF_10 _ (by decide)) rfl (by decide +kernel) rfl (by decide) [] rfl (Nat.le_of_ble_eq_true rfl) dX10_after_63 (fun v33 M34 hp32 => ?_)
          obtain ⟨rfl, rfl⟩ := hp32
          show V z g 3 (up1 (up1 (up1 M 91 (M 79)) 79 (hpW (M 79) r.toNat)) 79 (hapW (M 79 (57 + 2 * r)) (M 79 (58 + 2 * r)) ((hpW (M 79) r.toNat)))) [(0, rf g 78), (1, iv w), (2, iv r)] [] 66
          rw [show ((up1 (up1 (up1 M 91 (M 79)) 79 (hpW (M 79) r.toNat)) 79 (hapW (M 79 (57 + 2 * r)) (M 79 (58 + 2 * r)) ((hpW (M 79) r.toNat)))) : Mem) = (up1 (up1 M 91 (M 79)) 79 (hapW (M 79 (57 + 2 * r)) (M 79 (58 + 2 * r)) ((hpW (M 79) r.toNat)))) from (by
                funext j
                by_cases hj0 : j = 91
                · subst hj0; simp [up1, up1_self]
                by_cases hj1 : j = 79
                · subst hj1; simp [up1, up1_self]
                simp [up1, hj0, hj1])]
          rw [show ((up1 (up1 M 91 (M 79)) 79 (hapW (M 79 (57 + 2 * r)) (M 79 (58 + 2 * r)) ((hpW (M 79) r.toNat)))) : Mem) = (up1 (up1 M 91 (M 79)) 79 (hpW (M 79) (r + 1).toNat)) from (by rw [hpW_s i27_0.1])]
          refine v_iinc ok 2 [(2, iv (r + 1)), (0, rf g 78), (1, iv w)] dX10_after_66 rfl (by decide) rfl ?_
          refine v_goto (tgt := 27) ok dX10_after_69 (by decide) ?_
          refine v_lv (ls' := [(0, rf g 78), (1, iv w), (2, iv (r + 1))]) ok [1, 2, 0] rfl ?_
          exact ih27 (r + 1) (by omega) (by omega)
    rw [show ((up1 M 91 ((M 79))) : Mem) = (up1 (up1 M 91 (M 79)) 79 (hpW (M 79) (0 : Int).toNat)) from (by funext j; by_cases hj1 : j = 79 <;> by_cases hj0 : j = 91 <;> simp_all [up1] <;> rfl)]
    refine v_lv (ls' := [(0, rf g 78), (1, iv w), (2, iv 0)]) ok [1, 2, 0] rfl ?_
    exact lp27 _ 0 (by omega) (Nat.lt_succ_self _)
  · skip
    subst M3
    show V z g 3 M [(0, rf g 78), (1, iv w)] [iv 0] 9
    refine v_if_ne (tgt := 14) ok (by decide) dX10_after_9 (by decide) (fun c35 => absurd c35 (by decide)) (fun c35 => ?_)
    refine v_iconst (n := -1) ok dX10_after_12 ?_
    exact v_iret ok rt dX10_after_13 (Or.inl (⟨rfl, rfl, (by omega)⟩))

theorem mk_X10_looked_11 : Cond.fieldLink RX10 11 "StormRunoffModel" "w" "[I" ∈ wsX10_looked := by decide +kernel
theorem mi_X10_looked_10 : ∀ w ∈ wsX100, w ∈ wsX10_looked := by decide +kernel
set_option maxRecDepth 100000 in
set_option maxHeartbeats 400000 in
theorem ct_X10_looked (l : Launch) (g : Gl) (M : Mem)  (hw : WOk (M 79)) (hrs : 0 ≤ M 79 73 ∧ M 79 73 ≤ 8) (hr1 : bdf (rwH (M 79) 74) (M 79 73) 0 29) (hr2 : bdf (rwN (M 79) 74) (M 79 73) 0 9999) : Ct l g yX10_looked wsX10_looked 5 117 [rf g 78] M (fun rv M' => ∃ (F O C : Int → Int), rv = some (iv (fot (rwH (M 79) 74) (rwN (M 79) 74) (jnW (M 79)) (M 79 73).toNat 0)) ∧ M' = (up1 (up1 (up1 (up1 M 84 F) 85 O) 78 C) 86 (jnW (M 79))) ∧ (∀ j : Int, j ≠ 13 → C j = M 78 j)) := by
  refine Ct.of (cc := cX10_looked) (nL := 1) (ret := (some .int)) (by decide) rfl (Nat.le_of_ble_eq_true rfl) (fun z hz ok rt => ?_)
  have ok : Ok z g cX10_looked 1 RX10 wsX10_looked 5 117 := ok
  show V z g 1 M [(0, rf g 78)] [] 0
  refine v_aload_n ok 0 dX10_looked_0 rfl rfl ?_
  refine v_bipush (n := 74) ok rfl dX10_looked_1 ?_
  refine v_aload_n ok 0 dX10_looked_3 rfl rfl ?_
  refine v_get (T := TX10) (N := 22) (f0 := (M 78)) (v := rf g 79) ok mi_X10_looked_10 (kd_lt (show kd 78 = 10 from rfl) (by decide)) rfl rfl (cellF_10 _ (by decide)) 0 (by decide) mk_X10_looked_11 rfl rfl dX10_looked_4 ?_
  refine v_bipush (n := 73) ok rfl dX10_looked_7 ?_
  refine v_iald (n := 90) (f0 := (M 79)) ok (by decide) rfl (by omega) rfl dX10_looked_9 ?_
  refine v_callV (na := 2) (i := 78) (C := RX10) (T := TX10) (N := 22) (f0 := (M 78)) ok (ct_X10_otherwise z.2.1 g M 74 (M 79 73) (by first | omega | assumption) (by omega) hr1 hr2) gX10_looked_X10_otherwise (kd_lt (show kd 78 = 10 from rfl) (by decide)) rfl rfl (cellF_10 _ (by decide)) rfl (by decide +kernel) rfl (by decide) [] rfl (Nat.le_of_ble_eq_true rfl) dX10_looked_10 (fun v2 M3 hp1 => ?_)
  obtain ⟨F4, O5, C6, rfl, rfl, h7⟩ := hp1
  have h7 : ∀ j : Int, j ≠ 13 → C6 j = (M 78) j := h7
  show V z g 1 (up1 (up1 (up1 (up1 M 84 F4) 85 O5) 78 C6) 86 (jnW ((M 79)))) [(0, rf g 78)] [iv (fot (rwH ((M 79)) 74) (rwN ((M 79)) 74) (jnW ((M 79))) (M 79 73).toNat 0)] 13
  have hC9 := h7
  exact v_iret ok rt dX10_looked_13 (⟨F4, O5, C6, (congrArg (fun q : Int => some (iv q)) (show (fot (rwH ((M 79)) 74) (rwN ((M 79)) 74) (jnW ((M 79))) (M 79 73).toNat 0) = (fot (rwH (M 79) 74) (rwN (M 79) 74) (jnW (M 79)) (M 79 73).toNat 0) from by rfl)), rfl, hC9⟩)

theorem mk_X10_judge_51 : Cond.fieldLink RX10 51 "StormRunoffModel" "sorts" "[I" ∈ wsX10_judge := by decide +kernel
theorem mi_X10_judge_10 : ∀ w ∈ wsX100, w ∈ wsX10_judge := by decide +kernel
theorem mk_X10_judge_54 : Cond.fieldLink RX10 54 "StormRunoffModel" "sizes" "[I" ∈ wsX10_judge := by decide +kernel
theorem mk_X10_judge_57 : Cond.fieldLink RX10 57 "StormRunoffModel" "items" "[J" ∈ wsX10_judge := by decide +kernel
theorem mk_X10_judge_30 : Cond.fieldLink RX10 30 "StormRunoffModel" "out" "[I" ∈ wsX10_judge := by decide +kernel
set_option maxRecDepth 100000 in
set_option maxHeartbeats 400000 in
theorem ct_X10_judge (l : Launch) (g : Gl) (M : Mem) (b t i : Int) (hb : i32 b) (ht : i32 t) (hi : i32 i) (hw : WOk (M 79)) (htp : TpW (M 92) (M 93) (M 94)) : Ct l g yX10_judge wsX10_judge 3 72 [rf g 78, iv b, iv t, iv i] M (fun rv M' => (rv = some (iv (-1)) ∧ M' = M ∧ (¬ (0 ≤ b ∧ b < M 79 20) ∨ ¬ (0 ≤ t ∧ t ≤ 5))) ∨ (rv = some (iv (-12)) ∧ M' = M ∧ (0 ≤ b ∧ b < M 79 20) ∧ (0 ≤ t ∧ t ≤ 5) ∧ (0 ≤ M 92 t ∧ M 92 t ≠ 1)) ∨ (rv = some (iv (jdF (tpI (M 94) t) (otp (bsK (M 79) b) (bsN (M 79) b) (fl (M 79) (bsA (M 79) b) 8)) i (M 93 t) 30 0)) ∧ M' = (up1 (up1 (up1 M 84 (fl (M 79) (bsA (M 79) b) 8)) 78 (up (M 78) 13 (sto (bsK (M 79) b) (bsN (M 79) b) (fl (M 79) (bsA (M 79) b) 8) 30))) 85 (otp (bsK (M 79) b) (bsN (M 79) b) (fl (M 79) (bsA (M 79) b) 8))) ∧ (0 ≤ b ∧ b < M 79 20) ∧ (0 ≤ t ∧ t ≤ 5) ∧ (M 92 t < 0 ∨ M 92 t = 1))) := by
  refine Ct.of (cc := cX10_judge) (nL := 5) (ret := (some .int)) (by decide) rfl (Nat.le_of_ble_eq_true rfl) (fun z hz ok rt => ?_)
  have ok : Ok z g cX10_judge 5 RX10 wsX10_judge 3 72 := ok
  show V z g 5 M [(0, rf g 78), (1, iv b), (2, iv t), (3, iv i)] [] 0
  have hm := hw.2.2.1
  refine v_aload_n ok 0 dX10_judge_0 rfl rfl ?_
  refine v_iload_n ok 1 dX10_judge_1 rfl rfl ?_
  refine v_callV (na := 1) (i := 78) (C := RX10) (T := TX10) (N := 22) (f0 := (M 78)) ok (ct_X10_isBasin z.2.1 g M b ⟨by omega, by omega⟩ (by first | omega | assumption)) gX10_judge_X10_isBasin (kd_lt (show kd 78 = 10 from rfl) (by decide)) rfl rfl (cellF_10 _ (by decide)) rfl (by decide +kernel) rfl (by decide) [] rfl (Nat.le_of_ble_eq_true rfl) dX10_judge_2 (fun v2 M3 hp1 => ?_)
  rcases hp1 with ⟨rfl, eM3, h4⟩ | ⟨rfl, eM3, h5⟩
  · skip
    subst M3
    have h4 : 0 ≤ b ∧ b < (M 79) 20 := h4
    show V z g 5 M [(0, rf g 78), (1, iv b), (2, iv t), (3, iv i)] [iv 1] 5
    refine v_if_eq (tgt := 15) ok (by decide) dX10_judge_5 (by decide) (fun c6 => absurd c6 (by decide)) (fun c6 => ?_)
    refine v_iload_n ok 2 dX10_judge_8 rfl rfl ?_
    refine v_callS (na := 1) ok (ct_X10_isTape z.2.1 g M t ⟨by omega, by omega⟩) gX10_judge_X10_isTape rfl (by decide +kernel) rfl (by decide) [] rfl (Nat.le_of_ble_eq_true rfl) dX10_judge_9 (fun v8 M9 hp7 => ?_)
    rcases hp7 with ⟨rfl, eM9, h10⟩ | ⟨rfl, eM9, h11⟩
    · skip
      subst M9
      show V z g 5 M [(0, rf g 78), (1, iv b), (2, iv t), (3, iv i)] [iv 1] 12
      refine v_if_ne (tgt := 17) ok (by decide) dX10_judge_12 (by decide) (fun c12 => ?_) (fun c12 => absurd c12 (by decide))
      have htq := htp t (by omega) (by omega)
      refine v_aload_n ok 0 dX10_judge_17 rfl rfl ?_
      refine v_get (T := TX10) (N := 22) (f0 := (M 78)) (v := rf g 92) ok mi_X10_judge_10 (kd_lt (show kd 78 = 10 from rfl) (by decide)) rfl rfl (cellF_10 _ (by decide)) 19 (by decide) mk_X10_judge_51 rfl rfl dX10_judge_18 ?_
      refine v_iload_n ok 2 dX10_judge_21 rfl rfl ?_
      refine v_iald (n := 6) (f0 := (M 92)) ok (by decide) rfl (by omega) rfl dX10_judge_22 ?_
      refine v_if_lt (tgt := 39) ok ⟨by omega, by omega⟩ dX10_judge_23 (by decide) (fun c13 => ?_) (fun c13 => ?_)
      · skip
        refine v_aload_n ok 0 dX10_judge_39 rfl rfl ?_
        refine v_iload_n ok 1 dX10_judge_40 rfl rfl ?_
        refine v_callV (na := 1) (i := 78) (C := RX10) (T := TX10) (N := 22) (f0 := (M 78)) ok (ct_X10_goes z.2.1 g M b (by omega) hw) gX10_judge_X10_goes (kd_lt (show kd 78 = 10 from rfl) (by decide)) rfl rfl (cellF_10 _ (by decide)) rfl (by decide +kernel) rfl (by decide) [] rfl (Nat.le_of_ble_eq_true rfl) dX10_judge_41 (fun v15 M16 hp14 => ?_)
        obtain ⟨rfl, rfl⟩ := hp14
        show V z g 5 (up1 (up1 (up1 M 84 (fl ((M 79)) (bsA ((M 79)) b) 8)) 78 (up ((M 78)) 13 (sto (bsK ((M 79)) b) (bsN ((M 79)) b) (fl ((M 79)) (bsA ((M 79)) b) 8) 30))) 85 (otp (bsK ((M 79)) b) (bsN ((M 79)) b) (fl ((M 79)) (bsA ((M 79)) b) 8))) [(0, rf g 78), (1, iv b), (2, iv t), (3, iv i)] [] 44
        have hbo9 := hw.2.2.2.1 b (by omega) (by omega)
        have hou9 : bdf (otp (bsK (M 79) b) (bsN (M 79) b) (fl (M 79) (bsA (M 79) b) 8)) 30 0 43200 := otp_rng hbo9.2.2.2.1.1 (fl_rng hw.1 hbo9.1 30)
        refine v_iconst (n := 0) ok dX10_judge_44 ?_
        refine v_istore ok [(4, iv 0), (0, rf g 78), (1, iv b), (2, iv t), (3, iv i)] dX10_judge_45 (by decide) rfl ?_
        have lp47 : ∀ (fu : Nat) (h : Int), (0 ≤ h ∧ h ≤ 30) → ((jdF (tpI (M 94) t) (otp (bsK (M 79) b) (bsN (M 79) b) (fl (M 79) (bsA (M 79) b) 8)) i (M 93 t) 30 0) = jdF (tpI (M 94) t) (otp (bsK (M 79) b) (bsN (M 79) b) (fl (M 79) (bsA (M 79) b) 8)) i (M 93 t) (30 - h).toNat h) → (30 - h).toNat < fu → V z g 5 (up1 (up1 (up1 M 84 (fl (M 79) (bsA (M 79) b) 8)) 78 (up (M 78) 13 (sto (bsK (M 79) b) (bsN (M 79) b) (fl (M 79) (bsA (M 79) b) 8) 30))) 85 (otp (bsK (M 79) b) (bsN (M 79) b) (fl (M 79) (bsA (M 79) b) 8))) [(0, rf g 78), (1, iv b), (2, iv t), (3, iv i), (4, iv h)] [] 47 := by
          intro fu
          induction fu with
          | zero => intro h _ _ hm; exact absurd hm (Nat.not_lt_zero _)
          | succ fu ih47 =>
            intro h i47_0 i47_1 hm47
            refine v_iload ok 4 dX10_judge_47 rfl ?_
            refine v_bipush (n := 30) ok rfl dX10_judge_49 ?_
            refine v_icmp_ge (tgt := 116) ok ⟨by omega, by omega⟩ (by decide) dX10_judge_51 (by decide) (fun c17 => ?_) (fun c17 => ?_)
            · skip
              refine v_bipush (n := -5) ok rfl dX10_judge_116 ?_
              exact v_iret ok rt dX10_judge_118 (Or.inr (Or.inr (⟨(congrArg (fun q : Int => some (iv q)) (show (-5) = (jdF (tpI (M 94) t) (otp (bsK (M 79) b) (bsN (M 79) b) (fl (M 79) (bsA (M 79) b) 8)) i (M 93 t) 30 0) from by (rw [i47_1, show (30 - h).toNat = 0 by omega]; rfl))), rfl, (by omega), (by omega), (by omega)⟩)))
            · skip
              have hou1 := hou9 h (by omega) (by omega)
              refine v_iload_n ok 3 dX10_judge_54 rfl rfl ?_
              refine v_if_lt (tgt := 75) ok ⟨by omega, by omega⟩ dX10_judge_55 (by decide) (fun c18 => ?_) (fun c18 => ?_)
              · skip
                refine v_bipush (n := 100) ok rfl dX10_judge_75 ?_
                refine v_iload ok 4 dX10_judge_77 rfl ?_
                refine v_iadd ok dX10_judge_79 ?_
                exact v_iret ok rt dX10_judge_80 (Or.inr (Or.inr (⟨(congrArg (fun q : Int => some (iv q)) (show (100 + h) = (jdF (tpI (M 94) t) (otp (bsK (M 79) b) (bsN (M 79) b) (fl (M 79) (bsA (M 79) b) 8)) i (M 93 t) 30 0) from by (rw [i47_1, nat_s (show h < 30 by omega), jdF_a (by omega)]))), rfl, (by omega), (by omega), (by omega)⟩)))
              · skip
                refine v_iload_n ok 3 dX10_judge_58 rfl rfl ?_
                refine v_i2l ok ⟨by omega, by omega⟩ dX10_judge_59 ?_
                refine v_iload ok 4 dX10_judge_60 rfl ?_
                refine v_i2l ok ⟨by omega, by omega⟩ dX10_judge_62 ?_
                refine v_ladd ok dX10_judge_63 ?_
                refine v_aload_n ok 0 dX10_judge_64 rfl rfl ?_
                refine v_get (T := TX10) (N := 22) (f0 := (up (M 78) 13 (sto (bsK (M 79) b) (bsN (M 79) b) (fl (M 79) (bsA (M 79) b) 8) 30))) (v := rf g 93) ok mi_X10_judge_10 (kd_lt (show kd 78 = 10 from rfl) (by decide)) rfl rfl (cellF_10 _ (by decide)) 20 (by decide) mk_X10_judge_54 rfl rfl dX10_judge_65 ?_
                refine v_iload_n ok 2 dX10_judge_68 rfl rfl ?_
                refine v_iald (n := 6) (f0 := (M 93)) ok (by decide) rfl (by omega) rfl dX10_judge_69 ?_
                refine v_i2l ok ⟨by omega, by omega⟩ dX10_judge_70 ?_
                refine v_lcmp ok ⟨by omega, by omega⟩ ⟨by omega, by omega⟩ dX10_judge_71 (fun r19 hc20a hc20b hc20c hc20d => ?_)
                refine v_if_lt (tgt := 81) ok ⟨by omega, by omega⟩ dX10_judge_72 (by decide) (fun c21 => ?_) (fun c21 => ?_)
                · skip
                  refine v_aload_n ok 0 dX10_judge_81 rfl rfl ?_
                  refine v_get (T := TX10) (N := 22) (f0 := (up (M 78) 13 (sto (bsK (M 79) b) (bsN (M 79) b) (fl (M 79) (bsA (M 79) b) 8) 30))) (v := rf g 94) ok mi_X10_judge_10 (kd_lt (show kd 78 = 10 from rfl) (by decide)) rfl rfl (cellF_10 _ (by decide)) 21 (by decide) mk_X10_judge_57 rfl rfl dX10_judge_82 ?_
                  refine v_bipush (n := 60) ok rfl dX10_judge_85 ?_
                  refine v_iload_n ok 2 dX10_judge_87 rfl rfl ?_
                  refine v_imul ok dX10_judge_88 ?_
                  refine v_iload_n ok 3 dX10_judge_89 rfl rfl ?_
                  refine v_iadd ok dX10_judge_90 ?_
                  refine v_iload ok 4 dX10_judge_91 rfl ?_
                  refine v_iadd ok dX10_judge_93 ?_
                  have hit9 : i64 (M 94 (60 * t + i + h)) := by
                    have h9 := htq.2.2 (i + h) (by omega) (by omega)
                    rw [show 60 * t + (i + h) = 60 * t + i + h by omega] at h9; exact h9
                  refine v_lald (n := 360) (f0 := (M 94)) ok (by decide) rfl (by omega) rfl dX10_judge_94 ?_
                  refine v_aload_n ok 0 dX10_judge_95 rfl rfl ?_
                  refine v_get (T := TX10) (N := 22) (f0 := (up (M 78) 13 (sto (bsK (M 79) b) (bsN (M 79) b) (fl (M 79) (bsA (M 79) b) 8) 30))) (v := rf g 85) ok mi_X10_judge_10 (kd_lt (show kd 78 = 10 from rfl) (by decide)) rfl rfl (cellF_10 _ (by decide)) 11 (by decide) mk_X10_judge_30 rfl rfl dX10_judge_96 ?_
                  refine v_iload ok 4 dX10_judge_99 rfl ?_
                  refine v_iald (n := 30) (f0 := (otp (bsK (M 79) b) (bsN (M 79) b) (fl (M 79) (bsA (M 79) b) 8))) ok (by decide) rfl (by omega) rfl dX10_judge_101 ?_
                  refine v_i2l ok ⟨by omega, by omega⟩ dX10_judge_102 ?_
                  refine v_lcmp ok ⟨by omega, by omega⟩ ⟨by omega, by omega⟩ dX10_judge_103 (fun r22 hc23a hc23b hc23c hc23d => ?_)
                  refine v_if_eq (tgt := 110) ok ⟨by omega, by omega⟩ dX10_judge_104 (by decide) (fun c24 => ?_) (fun c24 => ?_)
                  · skip
                    refine v_iinc ok 4 [(4, iv (h + 1)), (0, rf g 78), (1, iv b), (2, iv t), (3, iv i)] dX10_judge_110 rfl (by decide) rfl ?_
                    refine v_goto (tgt := 47) ok dX10_judge_113 (by decide) ?_
                    refine v_lv (ls' := [(0, rf g 78), (1, iv b), (2, iv t), (3, iv i), (4, iv (h + 1))]) ok [1, 2, 3, 4, 0] rfl ?_
                    exact ih47 (h + 1) (by omega) (by rw [i47_1, nat_s (show h < 30 by omega), jdF_c (by omega) (by unfold tpI; rw [← Int.add_assoc]; omega)]) (by omega)
                  · skip
                    refine v_iload ok 4 dX10_judge_107 rfl ?_
                    exact v_iret ok rt dX10_judge_109 (Or.inr (Or.inr (⟨(congrArg (fun q : Int => some (iv q)) (show h = (jdF (tpI (M 94) t) (otp (bsK (M 79) b) (bsN (M 79) b) (fl (M 79) (bsA (M 79) b) 8)) i (M 93 t) 30 0) from by (rw [i47_1, nat_s (show h < 30 by omega), jdF_b (by omega) (by unfold tpI; rw [← Int.add_assoc]; omega)]))), rfl, (by omega), (by omega), (by omega)⟩)))
                · skip
                  refine v_bipush (n := 100) ok rfl dX10_judge_75 ?_
                  refine v_iload ok 4 dX10_judge_77 rfl ?_
                  refine v_iadd ok dX10_judge_79 ?_
                  exact v_iret ok rt dX10_judge_80 (Or.inr (Or.inr (⟨(congrArg (fun q : Int => some (iv q)) (show (100 + h) = (jdF (tpI (M 94) t) (otp (bsK (M 79) b) (bsN (M 79) b) (fl (M 79) (bsA (M 79) b) 8)) i (M 93 t) 30 0) from by (rw [i47_1, nat_s (show h < 30 by omega), jdF_a (by omega)]))), rfl, (by omega), (by omega), (by omega)⟩)))
        refine v_lv (ls' := [(0, rf g 78), (1, iv b), (2, iv t), (3, iv i), (4, iv 0)]) ok [1, 2, 3, 4, 0] rfl ?_
        exact lp47 _ 0 (by omega) rfl (Nat.lt_succ_self _)
      · skip
        refine v_aload_n ok 0 dX10_judge_26 rfl rfl ?_
        refine v_get (T := TX10) (N := 22) (f0 := (M 78)) (v := rf g 92) ok mi_X10_judge_10 (kd_lt (show kd 78 = 10 from rfl) (by decide)) rfl rfl (cellF_10 _ (by decide)) 19 (by decide) mk_X10_judge_51 rfl rfl dX10_judge_27 ?_
        refine v_iload_n ok 2 dX10_judge_30 rfl rfl ?_
        refine v_iald (n := 6) (f0 := (M 92)) ok (by decide) rfl (by omega) rfl dX10_judge_31 ?_
        refine v_iconst (n := 1) ok dX10_judge_32 ?_
        refine v_icmp_eq (tgt := 39) ok ⟨by omega, by omega⟩ (by decide) dX10_judge_33 (by decide) (fun c25 => ?_) (fun c25 => ?_)
        · skip
          refine v_aload_n ok 0 dX10_judge_39 rfl rfl ?_
          refine v_iload_n ok 1 dX10_judge_40 rfl rfl ?_
          refine v_callV (na := 1) (i := 78) (C := RX10) (T := TX10) (N := 22) (f0 := (M 78)) ok (ct_X10_goes z.2.1 g M b (by omega) hw) gX10_judge_X10_goes (kd_lt (show kd 78 = 10 from rfl) (by decide)) rfl rfl (cellF_10 _ (by decide)) rfl (by decide +kernel) rfl (by decide) [] rfl (Nat.le_of_ble_eq_true rfl) dX10_judge_41 (fun v27 M28 hp26 => ?_)
          obtain ⟨rfl, rfl⟩ := hp26
          show V z g 5 (up1 (up1 (up1 M 84 (fl ((M 79)) (bsA ((M 79)) b) 8)) 78 (up ((M 78)) 13 (sto (bsK ((M 79)) b) (bsN ((M 79)) b) (fl ((M 79)) (bsA ((M 79)) b) 8) 30))) 85 (otp (bsK ((M 79)) b) (bsN ((M 79)) b) (fl ((M 79)) (bsA ((M 79)) b) 8))) [(0, rf g 78), (1, iv b), (2, iv t), (3, iv i)] [] 44
          have hbo9 := hw.2.2.2.1 b (by omega) (by omega)
          have hou9 : bdf (otp (bsK (M 79) b) (bsN (M 79) b) (fl (M 79) (bsA (M 79) b) 8)) 30 0 43200 := otp_rng hbo9.2.2.2.1.1 (fl_rng hw.1 hbo9.1 30)
          refine v_iconst (n := 0) ok dX10_judge_44 ?_
          refine v_istore ok [(4, iv 0), (0, rf g 78), (1, iv b), (2, iv t), (3, iv i)] dX10_judge_45 (by decide) rfl ?_
          have lp47x : ∀ (fu : Nat) (h : Int), (0 ≤ h ∧ h ≤ 30) → ((jdF (tpI (M 94) t) (otp (bsK (M 79) b) (bsN (M 79) b) (fl (M 79) (bsA (M 79) b) 8)) i (M 93 t) 30 0) = jdF (tpI (M 94) t) (otp (bsK (M 79) b) (bsN (M 79) b) (fl (M 79) (bsA (M 79) b) 8)) i (M 93 t) (30 - h).toNat h) → (30 - h).toNat < fu → V z g 5 (up1 (up1 (up1 M 84 (fl (M 79) (bsA (M 79) b) 8)) 78 (up (M 78) 13 (sto (bsK (M 79) b) (bsN (M 79) b) (fl (M 79) (bsA (M 79) b) 8) 30))) 85 (otp (bsK (M 79) b) (bsN (M 79) b) (fl (M 79) (bsA (M 79) b) 8))) [(0, rf g 78), (1, iv b), (2, iv t), (3, iv i), (4, iv h)] [] 47 := by
            intro fu
            induction fu with
            | zero => intro h _ _ hm; exact absurd hm (Nat.not_lt_zero _)
            | succ fu ih47 =>
              intro h i47_0 i47_1 hm47
              refine v_iload ok 4 dX10_judge_47 rfl ?_
              refine v_bipush (n := 30) ok rfl dX10_judge_49 ?_
              refine v_icmp_ge (tgt := 116) ok ⟨by omega, by omega⟩ (by decide) dX10_judge_51 (by decide) (fun c29 => ?_) (fun c29 => ?_)
              · skip
                refine v_bipush (n := -5) ok rfl dX10_judge_116 ?_
                exact v_iret ok rt dX10_judge_118 (Or.inr (Or.inr (⟨(congrArg (fun q : Int => some (iv q)) (show (-5) = (jdF (tpI (M 94) t) (otp (bsK (M 79) b) (bsN (M 79) b) (fl (M 79) (bsA (M 79) b) 8)) i (M 93 t) 30 0) from by (rw [i47_1, show (30 - h).toNat = 0 by omega]; rfl))), rfl, (by omega), (by omega), (by omega)⟩)))
              · skip
                have hou1 := hou9 h (by omega) (by omega)
                refine v_iload_n ok 3 dX10_judge_54 rfl rfl ?_
                refine v_if_lt (tgt := 75) ok ⟨by omega, by omega⟩ dX10_judge_55 (by decide) (fun c30 => ?_) (fun c30 => ?_)
                · skip
                  refine v_bipush (n := 100) ok rfl dX10_judge_75 ?_
                  refine v_iload ok 4 dX10_judge_77 rfl ?_
                  refine v_iadd ok dX10_judge_79 ?_
                  exact v_iret ok rt dX10_judge_80 (Or.inr (Or.inr (⟨(congrArg (fun q : Int => some (iv q)) (show (100 + h) = (jdF (tpI (M 94) t) (otp (bsK (M 79) b) (bsN (M 79) b) (fl (M 79) (bsA (M 79) b) 8)) i (M 93 t) 30 0) from by (rw [i47_1, nat_s (show h < 30 by omega), jdF_a (by omega)]))), rfl, (by omega), (by omega), (by omega)⟩)))
                · skip
                  refine v_iload_n ok 3 dX10_judge_58 rfl rfl ?_
                  refine v_i2l ok ⟨by omega, by omega⟩ dX10_judge_59 ?_
                  refine v_iload ok 4 dX10_judge_60 rfl ?_
                  refine v_i2l ok ⟨by omega, by omega⟩ dX10_judge_62 ?_
                  refine v_ladd ok dX10_judge_63 ?_
                  refine v_aload_n ok 0 dX10_judge_64 rfl rfl ?_
                  refine v_get (T := TX10) (N := 22) (f0 := (up (M 78) 13 (sto (bsK (M 79) b) (bsN (M 79) b) (fl (M 79) (bsA (M 79) b) 8) 30))) (v := rf g 93) ok mi_X10_judge_10 (kd_lt (show kd 78 = 10 from rfl) (by decide)) rfl rfl (cellF_10 _ (by decide)) 20 (by decide) mk_X10_judge_54 rfl rfl dX10_judge_65 ?_
                  refine v_iload_n ok 2 dX10_judge_68 rfl rfl ?_
                  refine v_iald (n := 6) (f0 := (M 93)) ok (by decide) rfl (by omega) rfl dX10_judge_69 ?_
                  refine v_i2l ok ⟨by omega, by omega⟩ dX10_judge_70 ?_
                  refine v_lcmp ok ⟨by omega, by omega⟩ ⟨by omega, by omega⟩ dX10_judge_71 (fun r31 hc32a hc32b hc32c hc32d => ?_)
                  refine v_if_lt (tgt := 81) ok ⟨by omega, by omega⟩ dX10_judge_72 (by decide) (fun c33 => ?_) (fun c33 => ?_)
                  · skip
                    refine v_aload_n ok 0 dX10_judge_81 rfl rfl ?_
                    refine v_get (T := TX10) (N := 22) (f0 := (up (M 78) 13 (sto (bsK (M 79) b) (bsN (M 79) b) (fl (M 79) (bsA (M 79) b) 8) 30))) (v := rf g 94) ok mi_X10_judge_10 (kd_lt (show kd 78 = 10 from rfl) (by decide)) rfl rfl (cellF_10 _ (by decide)) 21 (by decide) mk_X10_judge_57 rfl rfl dX10_judge_82 ?_
                    refine v_bipush (n := 60) ok rfl dX10_judge_85 ?_
                    refine v_iload_n ok 2 dX10_judge_87 rfl rfl ?_
                    refine v_imul ok dX10_judge_88 ?_
                    refine v_iload_n ok 3 dX10_judge_89 rfl rfl ?_
                    refine v_iadd ok dX10_judge_90 ?_
                    refine v_iload ok 4 dX10_judge_91 rfl ?_
                    refine v_iadd ok dX10_judge_93 ?_
                    have hit9 : i64 (M 94 (60 * t + i + h)) := by
                      have h9 := htq.2.2 (i + h) (by omega) (by omega)
                      rw [show 60 * t + (i + h) = 60 * t + i + h by omega] at h9; exact h9
                    refine v_lald (n := 360) (f0 := (M 94)) ok (by decide) rfl (by omega) rfl dX10_judge_94 ?_
                    refine v_aload_n ok 0 dX10_judge_95 rfl rfl ?_
                    refine v_get (T := TX10) (N := 22) (f0 := (up (M 78) 13 (sto (bsK (M 79) b) (bsN (M 79) b) (fl (M 79) (bsA (M 79) b) 8) 30))) (v := rf g 85) ok mi_X10_judge_10 (kd_lt (show kd 78 = 10 from rfl) (by decide)) rfl rfl (cellF_10 _ (by decide)) 11 (by decide) mk_X10_judge_30 rfl rfl dX10_judge_96 ?_
                    refine v_iload ok 4 dX10_judge_99 rfl ?_
                    refine v_iald (n := 30) (f0 := (otp (bsK (M 79) b) (bsN (M 79) b) (fl (M 79) (bsA (M 79) b) 8))) ok (by decide) rfl (by omega) rfl dX10_judge_101 ?_
                    refine v_i2l ok ⟨by omega, by omega⟩ dX10_judge_102 ?_
                    refine v_lcmp ok ⟨by omega, by omega⟩ ⟨by omega, by omega⟩ dX10_judge_103 (fun r34 hc35a hc35b hc35c hc35d => ?_)
                    refine v_if_eq (tgt := 110) ok ⟨by omega, by omega⟩ dX10_judge_104 (by decide) (fun c36 => ?_) (fun c36 => ?_)
                    · skip
                      refine v_iinc ok 4 [(4, iv (h + 1)), (0, rf g 78), (1, iv b), (2, iv t), (3, iv i)] dX10_judge_110 rfl (by decide) rfl ?_
                      refine v_goto (tgt := 47) ok dX10_judge_113 (by decide) ?_
                      refine v_lv (ls' := [(0, rf g 78), (1, iv b), (2, iv t), (3, iv i), (4, iv (h + 1))]) ok [1, 2, 3, 4, 0] rfl ?_
                      exact ih47 (h + 1) (by omega) (by rw [i47_1, nat_s (show h < 30 by omega), jdF_c (by omega) (by unfold tpI; rw [← Int.add_assoc]; omega)]) (by omega)
                    · skip
                      refine v_iload ok 4 dX10_judge_107 rfl ?_
                      exact v_iret ok rt dX10_judge_109 (Or.inr (Or.inr (⟨(congrArg (fun q : Int => some (iv q)) (show h = (jdF (tpI (M 94) t) (otp (bsK (M 79) b) (bsN (M 79) b) (fl (M 79) (bsA (M 79) b) 8)) i (M 93 t) 30 0) from by (rw [i47_1, nat_s (show h < 30 by omega), jdF_b (by omega) (by unfold tpI; rw [← Int.add_assoc]; omega)]))), rfl, (by omega), (by omega), (by omega)⟩)))
                  · skip
                    refine v_bipush (n := 100) ok rfl dX10_judge_75 ?_
                    refine v_iload ok 4 dX10_judge_77 rfl ?_
                    refine v_iadd ok dX10_judge_79 ?_
                    exact v_iret ok rt dX10_judge_80 (Or.inr (Or.inr (⟨(congrArg (fun q : Int => some (iv q)) (show (100 + h) = (jdF (tpI (M 94) t) (otp (bsK (M 79) b) (bsN (M 79) b) (fl (M 79) (bsA (M 79) b) 8)) i (M 93 t) 30 0) from by (rw [i47_1, nat_s (show h < 30 by omega), jdF_a (by omega)]))), rfl, (by omega), (by omega), (by omega)⟩)))
          refine v_lv (ls' := [(0, rf g 78), (1, iv b), (2, iv t), (3, iv i), (4, iv 0)]) ok [1, 2, 3, 4, 0] rfl ?_
          exact lp47x _ 0 (by omega) rfl (Nat.lt_succ_self _)
        · skip
          refine v_bipush (n := -12) ok rfl dX10_judge_36 ?_
          exact v_iret ok rt dX10_judge_38 (Or.inr (Or.inl (⟨rfl, rfl, (by omega), (by omega), (by omega)⟩)))
    · skip
      subst M9
      show V z g 5 M [(0, rf g 78), (1, iv b), (2, iv t), (3, iv i)] [iv 0] 12
      refine v_if_ne (tgt := 17) ok (by decide) dX10_judge_12 (by decide) (fun c37 => absurd c37 (by decide)) (fun c37 => ?_)
      refine v_iconst (n := -1) ok dX10_judge_15 ?_
      exact v_iret ok rt dX10_judge_16 (Or.inl (⟨rfl, rfl, (by omega)⟩))
  · skip
    subst M3
    have h5 : ¬ (0 ≤ b ∧ b < (M 79) 20) := h5
    show V z g 5 M [(0, rf g 78), (1, iv b), (2, iv t), (3, iv i)] [iv 0] 5
    refine v_if_eq (tgt := 15) ok (by decide) dX10_judge_5 (by decide) (fun c38 => ?_) (fun c38 => absurd c38 (by decide))
    refine v_iconst (n := -1) ok dX10_judge_15 ?_
    exact v_iret ok rt dX10_judge_16 (Or.inl (⟨rfl, rfl, (by omega)⟩))

theorem mk_X10_image_252 : Cond.fieldLink RX10 252 "StormRunoffModel" "hasImage" "Z" ∈ wsX10_image := by decide +kernel
theorem mi_X10_image_10 : ∀ w ∈ wsX100, w ∈ wsX10_image := by decide +kernel
theorem mk_X10_image_11 : Cond.fieldLink RX10 11 "StormRunoffModel" "w" "[I" ∈ wsX10_image := by decide +kernel
theorem mk_X10_image_15 : Cond.fieldLink RX10 15 "StormRunoffModel" "kept" "[I" ∈ wsX10_image := by decide +kernel
set_option maxRecDepth 100000 in
set_option maxHeartbeats 400000 in
theorem ct_X10_image (l : Launch) (g : Gl) (M : Mem)   : Ct l g yX10_image wsX10_image 1 22 [rf g 78] M (fun rv M' => rv = some (iv (M 79 20)) ∧ M' = (up1 (up1 M 78 (up (M 78) 2 1)) 80 (M 79))) := by
  refine Ct.of (cc := cX10_image) (nL := 1) (ret := (some .int)) (by decide) rfl (Nat.le_of_ble_eq_true rfl) (fun z hz ok rt => ?_)
  have ok : Ok z g cX10_image 1 RX10 wsX10_image 1 22 := ok
  show V z g 1 M [(0, rf g 78)] [] 0
  refine v_aload_n ok 0 dX10_image_0 rfl rfl ?_
  refine v_iconst (n := 1) ok dX10_image_1 ?_
  refine v_put (T := TX10) (N := 22) (f0 := (M 78)) (f' := up (M 78) 2 1) (ty := .boolean) ok mi_X10_image_10 (kd_lt (show kd 78 = 10 from rfl) (by decide)) rfl rfl (cellF_10 _ (by decide)) tyX10 tyX10_ok nmX10 2 (by decide) mk_X10_image_252 rfl rfl (by decide +kernel) rfl rfl (Nat.le_of_ble_eq_true rfl) ((cellF_10 _ (by decide)).trans rfl) dX10_image_2 ?_
  refine v_aload_n ok 0 dX10_image_5 rfl rfl ?_
  refine v_get (T := TX10) (N := 22) (f0 := up (M 78) 2 1) (v := rf g 79) ok mi_X10_image_10 (kd_lt (show kd 78 = 10 from rfl) (by decide)) rfl rfl (cellF_10 _ (by decide)) 0 (by decide) mk_X10_image_11 rfl rfl dX10_image_6 ?_
  refine v_aload_n ok 0 dX10_image_9 rfl rfl ?_
  refine v_get (T := TX10) (N := 22) (f0 := up (M 78) 2 1) (v := rf g 80) ok mi_X10_image_10 (kd_lt (show kd 78 = 10 from rfl) (by decide)) rfl rfl (cellF_10 _ (by decide)) 1 (by decide) mk_X10_image_15 rfl rfl dX10_image_10 ?_
  refine v_callS (na := 2) ok (ct_X10_copies_79_80 z.2.1 g (up1 M 78 (up (M 78) 2 1))  ) gX10_image_X10_copies rfl (by decide +kernel) rfl (by decide) [] rfl (Nat.le_of_ble_eq_true rfl) dX10_image_13 (fun v2 M3 hp1 => ?_)
  obtain ⟨rfl, rfl⟩ := hp1
  show V z g 1 (up1 (up1 M 78 (up (M 78) 2 1)) 80 ((M 79))) [(0, rf g 78)] [] 16
  refine v_aload_n ok 0 dX10_image_16 rfl rfl ?_
  refine v_get (T := TX10) (N := 22) (f0 := up (M 78) 2 1) (v := rf g 79) ok mi_X10_image_10 (kd_lt (show kd 78 = 10 from rfl) (by decide)) rfl rfl (cellF_10 _ (by decide)) 0 (by decide) mk_X10_image_11 rfl rfl dX10_image_17 ?_
  refine v_bipush (n := 20) ok rfl dX10_image_20 ?_
  refine v_iald (n := 90) (f0 := (M 79)) ok (by decide) rfl (by omega) rfl dX10_image_22 ?_
  exact v_iret ok rt dX10_image_23 (⟨rfl, rfl⟩)

theorem mk_X10_undo_252 : Cond.fieldLink RX10 252 "StormRunoffModel" "hasImage" "Z" ∈ wsX10_undo := by decide +kernel
theorem mi_X10_undo_10 : ∀ w ∈ wsX100, w ∈ wsX10_undo := by decide +kernel
theorem mk_X10_undo_15 : Cond.fieldLink RX10 15 "StormRunoffModel" "kept" "[I" ∈ wsX10_undo := by decide +kernel
theorem mk_X10_undo_11 : Cond.fieldLink RX10 11 "StormRunoffModel" "w" "[I" ∈ wsX10_undo := by decide +kernel
set_option maxRecDepth 100000 in
set_option maxHeartbeats 400000 in
theorem ct_X10_undo (l : Launch) (g : Gl) (M : Mem)  (hk : 0 ≤ M 78 2 ∧ M 78 2 ≤ 1) : Ct l g yX10_undo wsX10_undo 1 22 [rf g 78] M (fun rv M' => (rv = some (iv (-3)) ∧ M' = M ∧ (M 78 2 = 0)) ∨ (rv = some (iv (M 80 20)) ∧ M' = (up1 M 79 (M 80)) ∧ (M 78 2 = 1))) := by
  refine Ct.of (cc := cX10_undo) (nL := 1) (ret := (some .int)) (by decide) rfl (Nat.le_of_ble_eq_true rfl) (fun z hz ok rt => ?_)
  have ok : Ok z g cX10_undo 1 RX10 wsX10_undo 1 22 := ok
  show V z g 1 M [(0, rf g 78)] [] 0
  refine v_aload_n ok 0 dX10_undo_0 rfl rfl ?_
  refine v_get (T := TX10) (N := 22) (f0 := (M 78)) (v := iv (M 78 2)) ok mi_X10_undo_10 (kd_lt (show kd 78 = 10 from rfl) (by decide)) rfl rfl (cellF_10 _ (by decide)) 2 (by decide) mk_X10_undo_252 rfl rfl dX10_undo_1 ?_
  refine v_if_ne (tgt := 10) ok ⟨by omega, by omega⟩ dX10_undo_4 (by decide) (fun c1 => ?_) (fun c1 => ?_)
  · skip
    refine v_aload_n ok 0 dX10_undo_10 rfl rfl ?_
    refine v_get (T := TX10) (N := 22) (f0 := (M 78)) (v := rf g 80) ok mi_X10_undo_10 (kd_lt (show kd 78 = 10 from rfl) (by decide)) rfl rfl (cellF_10 _ (by decide)) 1 (by decide) mk_X10_undo_15 rfl rfl dX10_undo_11 ?_
    refine v_aload_n ok 0 dX10_undo_14 rfl rfl ?_
    refine v_get (T := TX10) (N := 22) (f0 := (M 78)) (v := rf g 79) ok mi_X10_undo_10 (kd_lt (show kd 78 = 10 from rfl) (by decide)) rfl rfl (cellF_10 _ (by decide)) 0 (by decide) mk_X10_undo_11 rfl rfl dX10_undo_15 ?_
    refine v_callS (na := 2) ok (ct_X10_copies_80_79 z.2.1 g M  ) gX10_undo_X10_copies rfl (by decide +kernel) rfl (by decide) [] rfl (Nat.le_of_ble_eq_true rfl) dX10_undo_18 (fun v3 M4 hp2 => ?_)
    obtain ⟨rfl, rfl⟩ := hp2
    show V z g 1 (up1 M 79 ((M 80))) [(0, rf g 78)] [] 21
    refine v_aload_n ok 0 dX10_undo_21 rfl rfl ?_
    refine v_get (T := TX10) (N := 22) (f0 := (M 78)) (v := rf g 79) ok mi_X10_undo_10 (kd_lt (show kd 78 = 10 from rfl) (by decide)) rfl rfl (cellF_10 _ (by decide)) 0 (by decide) mk_X10_undo_11 rfl rfl dX10_undo_22 ?_
    refine v_bipush (n := 20) ok rfl dX10_undo_25 ?_
    refine v_iald (n := 90) (f0 := ((M 80))) ok (by decide) rfl (by omega) rfl dX10_undo_27 ?_
    first | (exact v_iret ok rt dX10_undo_28 (Or.inl (⟨rfl, (by
          funext j
          by_cases hj0 : j = 79
          · subst hj0; simp [up1, up1_self]
          simp [up1, hj0]), (by omega)⟩))) | (exact v_iret ok rt dX10_undo_28 (Or.inr (⟨(congrArg (fun q : Int => some (iv q)) (show (((M 80)) 20) = (M 80 20) from by omega)), rfl, (by omega)⟩)))
  · skip
    refine v_bipush (n := -3) ok rfl dX10_undo_7 ?_
    first | (exact v_iret ok rt dX10_undo_9 (Or.inl (⟨rfl, rfl, (by omega)⟩))) | (exact v_iret ok rt dX10_undo_9 (Or.inr (⟨(congrArg (fun q : Int => some (iv q)) (show (-3) = (M 80 20) from by omega)), (by
          funext j
          by_cases hj0 : j = 79
          · subst hj0; simp [up1, up1_self]
          simp [up1, hj0]), (by omega)⟩)))

theorem mk_X10_count_11 : Cond.fieldLink RX10 11 "StormRunoffModel" "w" "[I" ∈ wsX10_count := by decide +kernel
theorem mi_X10_count_10 : ∀ w ∈ wsX100, w ∈ wsX10_count := by decide +kernel
theorem mk_X10_count_94 : Cond.fieldLink RX10 94 "StormRunoffModel" "length" "I" ∈ wsX10_count := by decide +kernel
set_option maxRecDepth 100000 in
set_option maxHeartbeats 400000 in
theorem ct_X10_count (l : Launch) (g : Gl) (M : Mem) (w : Int) (hwi : i32 w) : Ct l g yX10_count wsX10_count 0 0 [rf g 78, iv w] M (fun rv M' => (rv = some (iv (M 79 45)) ∧ M' = M ∧ (w = 0)) ∨ (rv = some (iv (M 79 56)) ∧ M' = M ∧ (w = 1)) ∨ (rv = some (iv (M 79 73)) ∧ M' = M ∧ (w = 2)) ∨ (rv = some (iv (M 78 5)) ∧ M' = M ∧ (w = 3)) ∨ (rv = some (iv (-2)) ∧ M' = M ∧ (¬ (0 ≤ w ∧ w ≤ 3)))) := by
  refine Ct.of (cc := cX10_count) (nL := 2) (ret := (some .int)) (by decide) rfl (Nat.le_of_ble_eq_true rfl) (fun z hz ok rt => ?_)
  have ok : Ok z g cX10_count 2 RX10 wsX10_count 0 0 := ok
  show V z g 2 M [(0, rf g 78), (1, iv w)] [] 0
  refine v_iload_n ok 1 dX10_count_0 rfl rfl ?_
  by_cases e1 : w = 0
  · skip
    refine v_tblIn (off := 31) (tgt := 32) ok ⟨by omega, by omega⟩ (by omega) (by omega) (by rw [e1]; rfl) dX10_count_1 (by decide) ?_
    refine v_aload_n ok 0 dX10_count_32 rfl rfl ?_
    refine v_get (T := TX10) (N := 22) (f0 := (M 78)) (v := rf g 79) ok mi_X10_count_10 (kd_lt (show kd 78 = 10 from rfl) (by decide)) rfl rfl (cellF_10 _ (by decide)) 0 (by decide) mk_X10_count_11 rfl rfl dX10_count_33 ?_
    refine v_bipush (n := 45) ok rfl dX10_count_36 ?_
    refine v_iald (n := 90) (f0 := (M 79)) ok (by decide) rfl (by omega) rfl dX10_count_38 ?_
    exact v_iret ok rt dX10_count_39 (Or.inl (⟨rfl, rfl, (by omega)⟩))
  · skip
    by_cases e2 : w = 1
    · skip
      refine v_tblIn (off := 39) (tgt := 40) ok ⟨by omega, by omega⟩ (by omega) (by omega) (by rw [e2]; rfl) dX10_count_1 (by decide) ?_
      refine v_aload_n ok 0 dX10_count_40 rfl rfl ?_
      refine v_get (T := TX10) (N := 22) (f0 := (M 78)) (v := rf g 79) ok mi_X10_count_10 (kd_lt (show kd 78 = 10 from rfl) (by decide)) rfl rfl (cellF_10 _ (by decide)) 0 (by decide) mk_X10_count_11 rfl rfl dX10_count_41 ?_
      refine v_bipush (n := 56) ok rfl dX10_count_44 ?_
      refine v_iald (n := 90) (f0 := (M 79)) ok (by decide) rfl (by omega) rfl dX10_count_46 ?_
      exact v_iret ok rt dX10_count_47 (Or.inr (Or.inl (⟨rfl, rfl, (by omega)⟩)))
    · skip
      by_cases e3 : w = 2
      · skip
        refine v_tblIn (off := 47) (tgt := 48) ok ⟨by omega, by omega⟩ (by omega) (by omega) (by rw [e3]; rfl) dX10_count_1 (by decide) ?_
        refine v_aload_n ok 0 dX10_count_48 rfl rfl ?_
        refine v_get (T := TX10) (N := 22) (f0 := (M 78)) (v := rf g 79) ok mi_X10_count_10 (kd_lt (show kd 78 = 10 from rfl) (by decide)) rfl rfl (cellF_10 _ (by decide)) 0 (by decide) mk_X10_count_11 rfl rfl dX10_count_49 ?_
        refine v_bipush (n := 73) ok rfl dX10_count_52 ?_
        refine v_iald (n := 90) (f0 := (M 79)) ok (by decide) rfl (by omega) rfl dX10_count_54 ?_
        exact v_iret ok rt dX10_count_55 (Or.inr (Or.inr (Or.inl (⟨rfl, rfl, (by omega)⟩))))
      · skip
        by_cases e4 : w = 3
        · skip
          refine v_tblIn (off := 55) (tgt := 56) ok ⟨by omega, by omega⟩ (by omega) (by omega) (by rw [e4]; rfl) dX10_count_1 (by decide) ?_
          refine v_aload_n ok 0 dX10_count_56 rfl rfl ?_
          refine v_get (T := TX10) (N := 22) (f0 := (M 78)) (v := iv (M 78 5)) ok mi_X10_count_10 (kd_lt (show kd 78 = 10 from rfl) (by decide)) rfl rfl (cellF_10 _ (by decide)) 5 (by decide) mk_X10_count_94 rfl rfl dX10_count_57 ?_
          exact v_iret ok rt dX10_count_60 (Or.inr (Or.inr (Or.inr (Or.inl (⟨rfl, rfl, (by omega)⟩)))))
        · skip
          refine v_tblOut (tgt := 61) ok ⟨by omega, by omega⟩ (by omega) dX10_count_1 (by decide) ?_
          refine v_bipush (n := -2) ok rfl dX10_count_61 ?_
          exact v_iret ok rt dX10_count_63 (Or.inr (Or.inr (Or.inr (Or.inr (⟨rfl, rfl, (by omega)⟩)))))
