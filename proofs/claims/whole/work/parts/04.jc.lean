theorem mk_X10_odds_229 : Cond.constantLong RX10 229 (9999) ∈ wsX10_odds := by decide +kernel
theorem mk_X10_odds_11 : Cond.fieldLink RX10 11 "StormRunoffModel" "w" "[I" ∈ wsX10_odds := by decide +kernel
theorem mi_X10_odds_10 : ∀ w ∈ wsX100, w ∈ wsX10_odds := by decide +kernel
theorem mk_X10_odds_236 : Cond.constantLong RX10 236 (21) ∈ wsX10_odds := by decide +kernel
theorem mk_X10_odds_234 : Cond.constantLong RX10 234 (-9223372036854775808) ∈ wsX10_odds := by decide +kernel
set_option maxRecDepth 100000 in
set_option maxHeartbeats 400000 in
theorem ct_X10_odds (l : Launch) (g : Gl) (M : Mem) (h lim p : Int) (hh : i32 h) (hlim : i32 lim) (hp : i32 p) (hw : WOk (M 79)) : Ct l g yX10_odds wsX10_odds 5 114 [rf g 78, iv h, iv lim, iv p] M (fun rv M' => (rv = some (jv (-9223372036854775808)) ∧ M' = M ∧ (¬ (0 ≤ h ∧ h ≤ 7) ∨ ¬ (0 ≤ lim ∧ lim ≤ 9999) ∨ ¬ (0 ≤ p ∧ p ≤ 1))) ∨ (∃ (F O C J : Int → Int), rv = some (jv ((if p = 0 then oda (fun v => pkW (up (M 79) h v)) lim 21 else 21) / gcdI 21 (oda (fun v => pkW (up (M 79) h v)) lim 21))) ∧ M' = (up1 (up1 (up1 (up1 M 84 F) 85 O) 78 C) 86 J) ∧ (0 ≤ h ∧ h ≤ 7) ∧ (0 ≤ lim ∧ lim ≤ 9999) ∧ (0 ≤ p ∧ p ≤ 1) ∧ (∀ j : Int, j ≠ 13 → C j = M 78 j))) := by
  refine Ct.of (cc := cX10_odds) (nL := 7) (ret := (some .long)) (by decide) rfl (Nat.le_of_ble_eq_true rfl) (fun z hz ok rt => ?_)
  have ok : Ok z g cX10_odds 7 RX10 wsX10_odds 5 114 := ok
  show V z g 7 M [(0, rf g 78), (1, iv h), (2, iv lim), (3, iv p)] [] 0
  refine v_iload_n ok 1 dX10_odds_0 rfl rfl ?_
  refine v_callS (na := 1) ok (ct_X10_isRain z.2.1 g M h ⟨by omega, by omega⟩) gX10_odds_X10_isRain rfl (by decide +kernel) rfl (by decide) [] rfl (Nat.le_of_ble_eq_true rfl) dX10_odds_1 (fun v2 M3 hp1 => ?_)
  rcases hp1 with ⟨rfl, eM3, h4⟩ | ⟨rfl, eM3, h5⟩
  · skip
    subst M3
    show V z g 7 M [(0, rf g 78), (1, iv h), (2, iv lim), (3, iv p)] [iv 1] 4
    refine v_if_eq (tgt := 29) ok (by decide) dX10_odds_4 (by decide) (fun c6 => absurd c6 (by decide)) (fun c6 => ?_)
    refine v_iload_n ok 2 dX10_odds_7 rfl rfl ?_
    refine v_i2l ok ⟨by omega, by omega⟩ dX10_odds_8 ?_
    refine v_lconst (n := 0) ok rfl dX10_odds_9 ?_
    refine v_ldc2 (n := 9999) ok mk_X10_odds_229 rfl dX10_odds_10 ?_
    refine v_callS (na := 3) ok (ct_X10_in z.2.1 g M lim 0 9999 ⟨by omega, by omega⟩ (by decide) (by decide)) gX10_odds_X10_in rfl (by decide +kernel) rfl (by decide) [] rfl (Nat.le_of_ble_eq_true rfl) dX10_odds_13 (fun v8 M9 hp7 => ?_)
    rcases hp7 with ⟨rfl, eM9, h10⟩ | ⟨rfl, eM9, h11⟩
    · skip
      subst M9
      show V z g 7 M [(0, rf g 78), (1, iv h), (2, iv lim), (3, iv p)] [iv 1] 16
      refine v_if_eq (tgt := 29) ok (by decide) dX10_odds_16 (by decide) (fun c12 => absurd c12 (by decide)) (fun c12 => ?_)
      refine v_iload_n ok 3 dX10_odds_19 rfl rfl ?_
      refine v_i2l ok ⟨by omega, by omega⟩ dX10_odds_20 ?_
      refine v_lconst (n := 0) ok rfl dX10_odds_21 ?_
      refine v_lconst (n := 1) ok rfl dX10_odds_22 ?_
      refine v_callS (na := 3) ok (ct_X10_in z.2.1 g M p 0 1 ⟨by omega, by omega⟩ (by decide) (by decide)) gX10_odds_X10_in rfl (by decide +kernel) rfl (by decide) [] rfl (Nat.le_of_ble_eq_true rfl) dX10_odds_23 (fun v14 M15 hp13 => ?_)
      rcases hp13 with ⟨rfl, eM15, h16⟩ | ⟨rfl, eM15, h17⟩
      · skip
        subst M15
        show V z g 7 M [(0, rf g 78), (1, iv h), (2, iv lim), (3, iv p)] [iv 1] 26
        refine v_if_ne (tgt := 33) ok (by decide) dX10_odds_26 (by decide) (fun c18 => ?_) (fun c18 => absurd c18 (by decide))
        refine v_aload_n ok 0 dX10_odds_33 rfl rfl ?_
        refine v_get (T := TX10) (N := 22) (f0 := (M 78)) (v := rf g 79) ok mi_X10_odds_10 (kd_lt (show kd 78 = 10 from rfl) (by decide)) rfl rfl (cellF_10 _ (by decide)) 0 (by decide) mk_X10_odds_11 rfl rfl dX10_odds_34 ?_
        refine v_iload_n ok 1 dX10_odds_37 rfl rfl ?_
        refine v_iald (n := 90) (f0 := (M 79)) ok (by decide) rfl (by omega) rfl dX10_odds_38 ?_
        refine v_istore ok [(4, iv (M 79 h)), (0, rf g 78), (1, iv h), (2, iv lim), (3, iv p)] dX10_odds_39 (by decide) rfl ?_
        refine v_iconst (n := 0) ok dX10_odds_41 ?_
        refine v_istore ok [(5, iv 0), (4, iv (M 79 h)), (0, rf g 78), (1, iv h), (2, iv lim), (3, iv p)] dX10_odds_42 (by decide) rfl ?_
        refine v_iconst (n := 0) ok dX10_odds_44 ?_
        refine v_istore ok [(6, iv 0), (5, iv 0), (4, iv (M 79 h)), (0, rf g 78), (1, iv h), (2, iv lim), (3, iv p)] dX10_odds_45 (by decide) rfl ?_
        have lp47 : ∀ (fu : Nat) (v n : Int) (F O C J G : Int → Int), (0 ≤ v ∧ v ≤ 21) → (n = oda (fun v => pkW (up (M 79) h v)) lim v.toNat) → (∀ j : Int, j ≠ 13 → C j = M 78 j) → (∀ x : Int, up G h x = up (M 79) h x) → (21 - v).toNat < fu → V z g 7 (up1 (up1 (up1 (up1 (up1 M 84 F) 85 O) 78 C) 86 J) 79 G) [(0, rf g 78), (1, iv h), (2, iv lim), (3, iv p), (4, iv (M 79 h)), (5, iv n), (6, iv v)] [] 47 := by
          intro fu
          induction fu with
          | zero => intro v n F O C J G _ _ _ _ hm; exact absurd hm (Nat.not_lt_zero _)
          | succ fu ih47 =>
            intro v n F O C J G i47_0 i47_1 i47_2 i47_3 hm47
            have hor := oda_rng (fun v => pkW (up (M 79) h v)) lim v.toNat
            refine v_iload ok 6 dX10_odds_47 rfl ?_
            refine v_bipush (n := 20) ok rfl dX10_odds_49 ?_
            refine v_icmp_gt (tgt := 86) ok ⟨by omega, by omega⟩ (by decide) dX10_odds_51 (by decide) (fun c19 => ?_) (fun c19 => ?_)
            · skip
              have e21 : v.toNat = 21 := by omega
              rw [e21] at i47_1
              rw [show (n : Int) = (oda (fun v => pkW (up (M 79) h v)) lim 21) from i47_1]
              have hor2 := oda_rng (fun v => pkW (up (M 79) h v)) lim 21
              refine v_aload_n ok 0 dX10_odds_86 rfl rfl ?_
              refine v_get (T := TX10) (N := 22) (f0 := C) (v := rf g 79) ok mi_X10_odds_10 (kd_lt (show kd 78 = 10 from rfl) (by decide)) rfl rfl (cellF_10 _ (by decide)) 0 (by decide) mk_X10_odds_11 rfl rfl dX10_odds_87 ?_
              refine v_iload_n ok 1 dX10_odds_90 rfl rfl ?_
              refine v_iload ok 4 dX10_odds_91 rfl ?_
              refine v_iast (n := 90) (f0 := G) ok (by decide) rfl (by omega) rfl dX10_odds_93 ?_
              rw [up1_up1]
              refine v_cong (n := 90) (M 79) (Or.inl (by decide)) rfl (fun j j0 j1 => by rw [i47_3, up_self]) ?_
              rw [show ((up1 (up1 (up1 (up1 (up1 M 84 F) 85 O) 78 C) 86 J) 79 (M 79)) : Mem) = (up1 (up1 (up1 (up1 M 84 F) 85 O) 78 C) 86 J) from (by funext j; by_cases hj0 : j = 78 <;> by_cases hj1 : j = 79 <;> by_cases hj2 : j = 84 <;> by_cases hj3 : j = 85 <;> by_cases hj4 : j = 86 <;> simp_all [up1])]
              refine v_iload ok 5 dX10_odds_94 rfl ?_
              refine v_i2l ok ⟨by omega, by omega⟩ dX10_odds_96 ?_
              refine v_ldc2 (n := 21) ok mk_X10_odds_236 rfl dX10_odds_97 ?_
              refine v_iload_n ok 3 dX10_odds_100 rfl rfl ?_
              refine v_callS (na := 3) ok (ct_X10_lowest z.2.1 g (up1 (up1 (up1 (up1 M 84 F) 85 O) 78 C) 86 J) (oda (fun v => pkW (up (M 79) h v)) lim 21) 21 p (by first | omega | assumption) (by first | omega | assumption) (by first | omega | assumption)) gX10_odds_X10_lowest rfl (by decide +kernel) rfl (by decide) [] rfl (Nat.le_of_ble_eq_true rfl) dX10_odds_101 (fun v21 M22 hp20 => ?_)
              obtain ⟨rfl, rfl⟩ := hp20
              show V z g 7 (up1 (up1 (up1 (up1 M 84 F) 85 O) 78 C) 86 J) [(0, rf g 78), (1, iv h), (2, iv lim), (3, iv p), (4, iv (M 79 h)), (5, iv (oda (fun v => pkW (up (M 79) h v)) lim 21)), (6, iv v)] [jv ((if p = 0 then (oda (fun v => pkW (up (M 79) h v)) lim 21) else 21) / gcdI 21 (oda (fun v => pkW (up (M 79) h v)) lim 21))] 104
              exact v_lret ok rt dX10_odds_104 (Or.inr (⟨F, O, C, J, (congrArg (fun q : Int => some (jv q)) (show ((if p = 0 then (oda (fun v => pkW (up (M 79) h v)) lim 21) else 21) / gcdI 21 (oda (fun v => pkW (up (M 79) h v)) lim 21)) = ((if p = 0 then oda (fun v => pkW (up (M 79) h v)) lim 21 else 21) / gcdI 21 (oda (fun v => pkW (up (M 79) h v)) lim 21)) from by rfl)), rfl, (by omega), (by omega), (by omega), i47_2⟩))
            · skip
              refine v_aload_n ok 0 dX10_odds_54 rfl rfl ?_
              refine v_get (T := TX10) (N := 22) (f0 := C) (v := rf g 79) ok mi_X10_odds_10 (kd_lt (show kd 78 = 10 from rfl) (by decide)) rfl rfl (cellF_10 _ (by decide)) 0 (by decide) mk_X10_odds_11 rfl rfl dX10_odds_55 ?_
              refine v_iload_n ok 1 dX10_odds_58 rfl rfl ?_
              refine v_iload ok 6 dX10_odds_59 rfl ?_
              refine v_iast (n := 90) (f0 := G) ok (by decide) rfl (by omega) rfl dX10_odds_61 ?_
              rw [up1_up1]
              rw [show ((up1 (up1 (up1 (up1 (up1 M 84 F) 85 O) 78 C) 86 J) 79 (up G h v)) : Mem) = (up1 (up1 (up1 (up1 (up1 M 84 F) 85 O) 78 C) 86 J) 79 (up (M 79) h v)) from (by rw [i47_3])]
              have hwu := WOk_up hw (h := h) (v := v) (by omega) (by omega) (by omega) (by omega)
              have hpk := pkW_rng hwu
              refine v_iload ok 5 dX10_odds_62 rfl ?_
              refine v_aload_n ok 0 dX10_odds_64 rfl rfl ?_
              refine v_callV (na := 0) (i := 78) (C := RX10) (T := TX10) (N := 22) (f0 := C) ok (ct_X10_peak z.2.1 g (up1 (up1 (up1 (up1 (up1 M 84 F) 85 O) 78 C) 86 J) 79 (up (M 79) h v))  hwu) gX10_odds_X10_peak (kd_lt (show kd 78 = 10 from rfl) (by decide)) rfl rfl (cellF_10 _ (by decide)) rfl (by decide +kernel) rfl (by decide) [iv n] rfl (Nat.le_of_ble_eq_true rfl) dX10_odds_65 (fun v24 M25 hp23 => ?_)
              obtain ⟨F26, O27, C28, rfl, rfl, h29⟩ := hp23
              have h29 : ∀ j : Int, j ≠ 13 → C28 j = C j := h29
              show V z g 7 (up1 (up1 (up1 (up1 (up1 (up1 (up1 (up1 (up1 M 84 F) 85 O) 78 C) 86 J) 79 (up (M 79) h v)) 84 F26) 85 O27) 78 C28) 86 (jnW ((up (M 79) h v)))) [(0, rf g 78), (1, iv h), (2, iv lim), (3, iv p), (4, iv (M 79 h)), (5, iv n), (6, iv v)] [iv (pkW ((up (M 79) h v))), iv n] 68
              rw [show ((up1 (up1 (up1 (up1 (up1 (up1 (up1 (up1 (up1 M 84 F) 85 O) 78 C) 86 J) 79 (up (M 79) h v)) 84 F26) 85 O27) 78 C28) 86 (jnW ((up (M 79) h v)))) : Mem) = (up1 (up1 (up1 (up1 (up1 M 84 F26) 85 O27) 78 C28) 86 (jnW ((up (M 79) h v)))) 79 (up (M 79) h v)) from (by
                    funext j
                    by_cases hj0 : j = 84
                    · subst hj0; simp [up1, up1_self]
                    by_cases hj1 : j = 85
                    · subst hj1; simp [up1, up1_self]
                    by_cases hj2 : j = 78
                    · subst hj2; simp [up1, up1_self]
                    by_cases hj3 : j = 86
                    · subst hj3; simp [up1, up1_self]
                    by_cases hj4 : j = 79
                    · subst hj4; simp [up1, up1_self]
                    simp [up1, hj0, hj1, hj2, hj3, hj4])]
              have hC9 : ∀ j : Int, j ≠ 13 → C28 j = M 78 j := fun j hj => (h29 j hj).trans (i47_2 j hj)
              refine v_iload_n ok 2 dX10_odds_68 rfl rfl ?_
              refine v_icmp_le (tgt := 76) ok ⟨by omega, by omega⟩ ⟨by omega, by omega⟩ dX10_odds_69 (by decide) (fun c30 => ?_) (fun c30 => ?_)
              · skip
                refine v_iconst (n := 0) ok dX10_odds_76 ?_
                refine v_iadd ok dX10_odds_77 ?_
                refine v_istore ok [(5, iv (n + 0)), (0, rf g 78), (1, iv h), (2, iv lim), (3, iv p), (4, iv (M 79 h)), (6, iv v)] dX10_odds_78 (by decide) rfl ?_
                refine v_iinc ok 6 [(6, iv (v + 1)), (5, iv (n + 0)), (0, rf g 78), (1, iv h), (2, iv lim), (3, iv p), (4, iv (M 79 h))] dX10_odds_80 rfl (by decide) rfl ?_
                refine v_goto (tgt := 47) ok dX10_odds_83 (by decide) ?_
                refine v_lv (ls' := [(0, rf g 78), (1, iv h), (2, iv lim), (3, iv p), (4, iv (M 79 h)), (5, iv (n + 0)), (6, iv (v + 1))]) ok [2, 3, 4, 5, 6, 1, 0] rfl ?_
                exact ih47 (v + 1) (n + 0) F26 O27 C28 (jnW ((up (M 79) h v))) (up (M 79) h v) (by omega) (by rw [oda_s i47_0.1, i47_1]; show _ = _ + (if lim < pkW (up (M 79) h v) then 1 else 0); first | rw [if_pos (by omega)] | rw [if_neg (by omega)]) hC9 (fun x => up_up _ _ _ _) (by omega)
              · skip
                refine v_iconst (n := 1) ok dX10_odds_72 ?_
                refine v_goto (tgt := 77) ok dX10_odds_73 (by decide) ?_
                refine v_iadd ok dX10_odds_77 ?_
                refine v_istore ok [(5, iv (n + 1)), (0, rf g 78), (1, iv h), (2, iv lim), (3, iv p), (4, iv (M 79 h)), (6, iv v)] dX10_odds_78 (by decide) rfl ?_
                refine v_iinc ok 6 [(6, iv (v + 1)), (5, iv (n + 1)), (0, rf g 78), (1, iv h), (2, iv lim), (3, iv p), (4, iv (M 79 h))] dX10_odds_80 rfl (by decide) rfl ?_
                refine v_goto (tgt := 47) ok dX10_odds_83 (by decide) ?_
                refine v_lv (ls' := [(0, rf g 78), (1, iv h), (2, iv lim), (3, iv p), (4, iv (M 79 h)), (5, iv (n + 1)), (6, iv (v + 1))]) ok [2, 3, 4, 5, 6, 1, 0] rfl ?_
                exact ih47 (v + 1) (n + 1) F26 O27 C28 (jnW ((up (M 79) h v))) (up (M 79) h v) (by omega) (by rw [oda_s i47_0.1, i47_1]; show _ = _ + (if lim < pkW (up (M 79) h v) then 1 else 0); first | rw [if_pos (by omega)] | rw [if_neg (by omega)]) hC9 (fun x => up_up _ _ _ _) (by omega)
        rw [show (M : Mem) = (up1 (up1 (up1 (up1 (up1 M 84 (M 84)) 85 (M 85)) 78 (M 78)) 86 (M 86)) 79 (M 79)) from (by funext j; by_cases hj0 : j = 78 <;> by_cases hj1 : j = 79 <;> by_cases hj2 : j = 84 <;> by_cases hj3 : j = 85 <;> by_cases hj4 : j = 86 <;> simp_all [up1])]
        refine v_lv (ls' := [(0, rf g 78), (1, iv h), (2, iv lim), (3, iv p), (4, iv (M 79 h)), (5, iv 0), (6, iv 0)]) ok [3, 4, 5, 6, 2, 1, 0] rfl ?_
        exact lp47 _ 0 0 (M 84) (M 85) (M 78) (M 86) (M 79) (by omega) rfl (fun _ _ => rfl) (fun _ => rfl) (Nat.lt_succ_self _)
      · skip
        subst M15
        show V z g 7 M [(0, rf g 78), (1, iv h), (2, iv lim), (3, iv p)] [iv 0] 26
        refine v_if_ne (tgt := 33) ok (by decide) dX10_odds_26 (by decide) (fun c31 => absurd c31 (by decide)) (fun c31 => ?_)
        refine v_ldc2 (n := -9223372036854775808) ok mk_X10_odds_234 rfl dX10_odds_29 ?_
        exact v_lret ok rt dX10_odds_32 (Or.inl (⟨rfl, rfl, (by omega)⟩))
    · skip
      subst M9
      show V z g 7 M [(0, rf g 78), (1, iv h), (2, iv lim), (3, iv p)] [iv 0] 16
      refine v_if_eq (tgt := 29) ok (by decide) dX10_odds_16 (by decide) (fun c32 => ?_) (fun c32 => absurd c32 (by decide))
      refine v_ldc2 (n := -9223372036854775808) ok mk_X10_odds_234 rfl dX10_odds_29 ?_
      exact v_lret ok rt dX10_odds_32 (Or.inl (⟨rfl, rfl, (by omega)⟩))
  · skip
    subst M3
    show V z g 7 M [(0, rf g 78), (1, iv h), (2, iv lim), (3, iv p)] [iv 0] 4
    refine v_if_eq (tgt := 29) ok (by decide) dX10_odds_4 (by decide) (fun c33 => ?_) (fun c33 => absurd c33 (by decide))
    refine v_ldc2 (n := -9223372036854775808) ok mk_X10_odds_234 rfl dX10_odds_29 ?_
    exact v_lret ok rt dX10_odds_32 (Or.inl (⟨rfl, rfl, (by omega)⟩))

theorem mk_X10_mean_234 : Cond.constantLong RX10 234 (-9223372036854775808) ∈ wsX10_mean := by decide +kernel
theorem mk_X10_mean_33 : Cond.fieldLink RX10 33 "StormRunoffModel" "joined" "[I" ∈ wsX10_mean := by decide +kernel
theorem mi_X10_mean_10 : ∀ w ∈ wsX100, w ∈ wsX10_mean := by decide +kernel
set_option maxRecDepth 100000 in
set_option maxHeartbeats 400000 in
theorem ct_X10_mean (l : Launch) (g : Gl) (M : Mem) (p : Int) (hp : i32 p) (hw : WOk (M 79)) : Ct l g yX10_mean wsX10_mean 4 94 [rf g 78, iv p] M (fun rv M' => (∃ (F O C : Int → Int), rv = some (jv (-9223372036854775808)) ∧ M' = (up1 (up1 (up1 (up1 M 84 F) 85 O) 78 C) 86 (jnW (M 79))) ∧ ((cntp (jnW (M 79)) 30) = 0 ∨ ¬ (0 ≤ p ∧ p ≤ 1)) ∧ (∀ j : Int, j ≠ 13 → C j = M 78 j)) ∨ (∃ (F O C : Int → Int), rv = some (jv ((if p = 0 then (msr 0 (jnW (M 79)) 30) else (cntp (jnW (M 79)) 30)) / gcdI (cntp (jnW (M 79)) 30) (msr 0 (jnW (M 79)) 30))) ∧ M' = (up1 (up1 (up1 (up1 M 84 F) 85 O) 78 C) 86 (jnW (M 79))) ∧ (0 < (cntp (jnW (M 79)) 30)) ∧ (0 ≤ p ∧ p ≤ 1) ∧ (∀ j : Int, j ≠ 13 → C j = M 78 j))) := by
  refine Ct.of (cc := cX10_mean) (nL := 4) (ret := (some .long)) (by decide) rfl (Nat.le_of_ble_eq_true rfl) (fun z hz ok rt => ?_)
  have ok : Ok z g cX10_mean 4 RX10 wsX10_mean 4 94 := ok
  show V z g 4 M [(0, rf g 78), (1, iv p)] [] 0
  have hJ9 := jnW_rng hw
  refine v_aload_n ok 0 dX10_mean_0 rfl rfl ?_
  refine v_callV (na := 0) (i := 78) (C := RX10) (T := TX10) (N := 22) (f0 := (M 78)) ok (ct_X10_joins z.2.1 g M  (by first | omega | assumption)) gX10_mean_X10_joins (kd_lt (show kd 78 = 10 from rfl) (by decide)) rfl rfl (cellF_10 _ (by decide)) rfl (by decide +kernel) rfl (by decide) [] rfl (Nat.le_of_ble_eq_true rfl) dX10_mean_1 (fun v2 M3 hp1 => ?_)
  obtain ⟨F4, O5, C6, rfl, rfl, h7⟩ := hp1
  have h7 : ∀ j : Int, j ≠ 13 → C6 j = (M 78) j := h7
  show V z g 4 (up1 (up1 (up1 (up1 M 84 F4) 85 O5) 78 C6) 86 (jnW ((M 79)))) [(0, rf g 78), (1, iv p)] [] 4
  have hC9 := h7
  refine v_iconst (n := 0) ok dX10_mean_4 ?_
  refine v_istore_n ok [(2, iv 0), (0, rf g 78), (1, iv p)] dX10_mean_5 rfl (by decide) rfl ?_
  refine v_iconst (n := 0) ok dX10_mean_6 ?_
  refine v_istore_n ok [(3, iv 0), (2, iv 0), (0, rf g 78), (1, iv p)] dX10_mean_7 rfl (by decide) rfl ?_
  have lp8 : ∀ (fu : Nat) (i n : Int) (F O C : Int → Int), (0 ≤ i ∧ i ≤ 30) → (n = cntp (jnW (M 79)) i.toNat) → (∀ j : Int, j ≠ 13 → C j = M 78 j) → (30 - i).toNat < fu → V z g 4 (up1 (up1 (up1 (up1 M 84 F) 85 O) 78 C) 86 (jnW (M 79))) [(0, rf g 78), (1, iv p), (2, iv n), (3, iv i)] [] 8 := by
    intro fu
    induction fu with
    | zero => intro i n F O C _ _ _ hm; exact absurd hm (Nat.not_lt_zero _)
    | succ fu ih8 =>
      intro i n F O C i8_0 i8_1 i8_2 hm8
      have hcr := cntp_rng (jnW (M 79)) i.toNat
      refine v_iload_n ok 3 dX10_mean_8 rfl rfl ?_
      refine v_bipush (n := 30) ok rfl dX10_mean_9 ?_
      refine v_icmp_ge (tgt := 37) ok ⟨by omega, by omega⟩ (by decide) dX10_mean_11 (by decide) (fun c8 => ?_) (fun c8 => ?_)
      · skip
        have e30 : i.toNat = 30 := by omega
        rw [e30] at i8_1
        rw [show (n : Int) = (cntp (jnW (M 79)) 30) from i8_1]
        have hsum := sumf_rng hJ9 30 (by decide)
        have hcr2 := cntp_rng (jnW (M 79)) 30
        have hv1 : 0 ≤ (msr 0 (jnW (M 79)) 30) ∧ (msr 0 (jnW (M 79)) 30) ≤ 3888000 := hsum
        refine v_iload_n ok 2 dX10_mean_37 rfl rfl ?_
        refine v_if_eq (tgt := 51) ok ⟨by omega, by omega⟩ dX10_mean_38 (by decide) (fun c9 => ?_) (fun c9 => ?_)
        · skip
          refine v_ldc2 (n := -9223372036854775808) ok mk_X10_mean_234 rfl dX10_mean_51 ?_
          refine v_goto (tgt := 75) ok dX10_mean_54 (by decide) ?_
          exact v_lret ok rt dX10_mean_75 (Or.inl (⟨F, O, C, rfl, rfl, (by omega), i8_2⟩))
        · skip
          refine v_iload_n ok 1 dX10_mean_41 rfl rfl ?_
          refine v_i2l ok ⟨by omega, by omega⟩ dX10_mean_42 ?_
          refine v_lconst (n := 0) ok rfl dX10_mean_43 ?_
          refine v_lconst (n := 1) ok rfl dX10_mean_44 ?_
          refine v_callS (na := 3) ok (ct_X10_in z.2.1 g (up1 (up1 (up1 (up1 M 84 F) 85 O) 78 C) 86 (jnW (M 79))) p 0 1 ⟨by omega, by omega⟩ (by decide) (by decide)) gX10_mean_X10_in rfl (by decide +kernel) rfl (by decide) [] rfl (Nat.le_of_ble_eq_true rfl) dX10_mean_45 (fun v11 M12 hp10 => ?_)
          rcases hp10 with ⟨rfl, rfl, h13⟩ | ⟨rfl, rfl, h14⟩
          · skip
            show V z g 4 (up1 (up1 (up1 (up1 M 84 F) 85 O) 78 C) 86 (jnW (M 79))) [(0, rf g 78), (1, iv p), (2, iv (cntp (jnW (M 79)) 30)), (3, iv i)] [iv 1] 48
            refine v_if_ne (tgt := 57) ok (by decide) dX10_mean_48 (by decide) (fun c15 => ?_) (fun c15 => absurd c15 (by decide))
            refine v_aload_n ok 0 dX10_mean_57 rfl rfl ?_
            refine v_get (T := TX10) (N := 22) (f0 := C) (v := rf g 86) ok mi_X10_mean_10 (kd_lt (show kd 78 = 10 from rfl) (by decide)) rfl rfl (cellF_10 _ (by decide)) 12 (by decide) mk_X10_mean_33 rfl rfl dX10_mean_58 ?_
            refine v_iconst (n := 0) ok dX10_mean_61 ?_
            refine v_bipush (n := 30) ok rfl dX10_mean_62 ?_
            refine v_iconst (n := 0) ok dX10_mean_64 ?_
            refine v_callS (na := 4) ok (ct_X10_most z.2.1 g (up1 (up1 (up1 (up1 M 84 F) 85 O) 78 C) 86 (jnW (M 79))) 86 30 0 30 0 129600 (by decide) rfl (by decide) (by first | decide | omega) (by rw [shf_0]; exact hJ9) (by decide)) gX10_mean_X10_most rfl (by decide +kernel) rfl (by decide) [] rfl (Nat.le_of_ble_eq_true rfl) dX10_mean_65 (fun v17 M18 hp16 => ?_)
            obtain ⟨rfl, rfl⟩ := hp16
            show V z g 4 (up1 (up1 (up1 (up1 M 84 F) 85 O) 78 C) 86 (jnW (M 79))) [(0, rf g 78), (1, iv p), (2, iv (cntp (jnW (M 79)) 30)), (3, iv i)] [iv (msr 0 (shf ((jnW (M 79))) 0) (30 : Int).toNat)] 68
            rw [show ((msr 0 (shf ((jnW (M 79))) 0) (30 : Int).toNat) : Int) = (msr 0 (jnW (M 79)) 30) from (by rw [shf_0]; rfl)]
            refine v_i2l ok ⟨by omega, by omega⟩ dX10_mean_68 ?_
            refine v_iload_n ok 2 dX10_mean_69 rfl rfl ?_
            refine v_i2l ok ⟨by omega, by omega⟩ dX10_mean_70 ?_
            refine v_iload_n ok 1 dX10_mean_71 rfl rfl ?_
            refine v_callS (na := 3) ok (ct_X10_lowest z.2.1 g (up1 (up1 (up1 (up1 M 84 F) 85 O) 78 C) 86 (jnW (M 79))) (msr 0 (jnW (M 79)) 30) (cntp (jnW (M 79)) 30) p (by first | omega | assumption) (by first | omega | assumption) (by first | omega | assumption)) gX10_mean_X10_lowest rfl (by decide +kernel) rfl (by decide) [] rfl (Nat.le_of_ble_eq_true rfl) dX10_mean_72 (fun v20 M21 hp19 => ?_)
            obtain ⟨rfl, rfl⟩ := hp19
            show V z g 4 (up1 (up1 (up1 (up1 M 84 F) 85 O) 78 C) 86 (jnW (M 79))) [(0, rf g 78), (1, iv p), (2, iv (cntp (jnW (M 79)) 30)), (3, iv i)] [jv ((if p = 0 then (msr 0 (jnW (M 79)) 30) else (cntp (jnW (M 79)) 30)) / gcdI (cntp (jnW (M 79)) 30) (msr 0 (jnW (M 79)) 30))] 75
            exact v_lret ok rt dX10_mean_75 (Or.inr (⟨F, O, C, rfl, rfl, (by omega), (by omega), i8_2⟩))
          · skip
            show V z g 4 (up1 (up1 (up1 (up1 M 84 F) 85 O) 78 C) 86 (jnW (M 79))) [(0, rf g 78), (1, iv p), (2, iv (cntp (jnW (M 79)) 30)), (3, iv i)] [iv 0] 48
            refine v_if_ne (tgt := 57) ok (by decide) dX10_mean_48 (by decide) (fun c22 => absurd c22 (by decide)) (fun c22 => ?_)
            refine v_ldc2 (n := -9223372036854775808) ok mk_X10_mean_234 rfl dX10_mean_51 ?_
            refine v_goto (tgt := 75) ok dX10_mean_54 (by decide) ?_
            exact v_lret ok rt dX10_mean_75 (Or.inl (⟨F, O, C, rfl, rfl, (by omega), i8_2⟩))
      · skip
        refine v_iload_n ok 2 dX10_mean_14 rfl rfl ?_
        refine v_aload_n ok 0 dX10_mean_15 rfl rfl ?_
        refine v_get (T := TX10) (N := 22) (f0 := C) (v := rf g 86) ok mi_X10_mean_10 (kd_lt (show kd 78 = 10 from rfl) (by decide)) rfl rfl (cellF_10 _ (by decide)) 12 (by decide) mk_X10_mean_33 rfl rfl dX10_mean_16 ?_
        refine v_iload_n ok 3 dX10_mean_19 rfl rfl ?_
        refine v_iald (n := 30) (f0 := (jnW (M 79))) ok (by decide) rfl (by omega) rfl dX10_mean_20 ?_
        have b23 := hJ9 i (by omega) (by omega)
        refine v_if_le (tgt := 28) ok ⟨by omega, by omega⟩ dX10_mean_21 (by decide) (fun c24 => ?_) (fun c24 => ?_)
        · skip
          refine v_iconst (n := 0) ok dX10_mean_28 ?_
          refine v_iadd ok dX10_mean_29 ?_
          refine v_istore_n ok [(2, iv (n + 0)), (0, rf g 78), (1, iv p), (3, iv i)] dX10_mean_30 rfl (by decide) rfl ?_
          refine v_iinc ok 3 [(3, iv (i + 1)), (2, iv (n + 0)), (0, rf g 78), (1, iv p)] dX10_mean_31 rfl (by decide) rfl ?_
          refine v_goto (tgt := 8) ok dX10_mean_34 (by decide) ?_
          refine v_lv (ls' := [(0, rf g 78), (1, iv p), (2, iv (n + 0)), (3, iv (i + 1))]) ok [2, 3, 1, 0] rfl ?_
          exact ih8 (i + 1) (n + 0) F O C (by omega) (by rw [cntp_s i8_0.1, i8_1]; first | rw [if_pos (by omega)] | rw [if_neg (by omega)]) i8_2 (by omega)
        · skip
          refine v_iconst (n := 1) ok dX10_mean_24 ?_
          refine v_goto (tgt := 29) ok dX10_mean_25 (by decide) ?_
          refine v_iadd ok dX10_mean_29 ?_
          refine v_istore_n ok [(2, iv (n + 1)), (0, rf g 78), (1, iv p), (3, iv i)] dX10_mean_30 rfl (by decide) rfl ?_
          refine v_iinc ok 3 [(3, iv (i + 1)), (2, iv (n + 1)), (0, rf g 78), (1, iv p)] dX10_mean_31 rfl (by decide) rfl ?_
          refine v_goto (tgt := 8) ok dX10_mean_34 (by decide) ?_
          refine v_lv (ls' := [(0, rf g 78), (1, iv p), (2, iv (n + 1)), (3, iv (i + 1))]) ok [2, 3, 1, 0] rfl ?_
          exact ih8 (i + 1) (n + 1) F O C (by omega) (by rw [cntp_s i8_0.1, i8_1]; first | rw [if_pos (by omega)] | rw [if_neg (by omega)]) i8_2 (by omega)
  refine v_lv (ls' := [(0, rf g 78), (1, iv p), (2, iv 0), (3, iv 0)]) ok [2, 3, 1, 0] rfl ?_
  exact lp8 _ 0 0 F4 O5 C6 (by omega) rfl hC9 (Nat.lt_succ_self _)
