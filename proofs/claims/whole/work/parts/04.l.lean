theorem mk_X10_tape_189 : Cond.constantLong RX10 189 (-1) ∈ wsX10_tape := by decide +kernel
theorem mk_X10_tape_84 : Cond.constantLong RX10 84 (4) ∈ wsX10_tape := by decide +kernel
theorem mk_X10_tape_51 : Cond.fieldLink RX10 51 "StormRunoffModel" "sorts" "[I" ∈ wsX10_tape := by decide +kernel
theorem mi_X10_tape_10 : ∀ w ∈ wsX100, w ∈ wsX10_tape := by decide +kernel
theorem mk_X10_tape_54 : Cond.fieldLink RX10 54 "StormRunoffModel" "sizes" "[I" ∈ wsX10_tape := by decide +kernel
theorem mk_X10_tape_57 : Cond.fieldLink RX10 57 "StormRunoffModel" "items" "[J" ∈ wsX10_tape := by decide +kernel
set_option maxRecDepth 100000 in
set_option maxHeartbeats 400000 in
theorem ct_X10_tape (l : Launch) (g : Gl) (M : Mem) (t s n : Int) (ht : i32 t) (hsi : i32 s) (hn : i32 n) : Ct l g yX10_tape wsX10_tape 2 45 [rf g 78, iv t, iv s, iv n] M (fun rv M' => (rv = some (iv (-1)) ∧ M' = M ∧ (¬ (0 ≤ t ∧ t ≤ 5))) ∨ (rv = some (iv (-2)) ∧ M' = M ∧ (0 ≤ t ∧ t ≤ 5) ∧ (¬ (-1 ≤ s ∧ s ≤ 4) ∨ (0 ≤ s ∧ 60 < n))) ∨ (rv = some (iv (-14)) ∧ M' = M ∧ (0 ≤ t ∧ t ≤ 5) ∧ (0 ≤ s ∧ s ≤ 4 ∧ n < 0)) ∨ (rv = some (iv 1) ∧ M' = (up1 (up1 (up1 M 92 (up (M 92) t s)) 93 (up (M 93) t (if s < 0 then 0 else n))) 94 (zrI (M 94) t)) ∧ (0 ≤ t ∧ t ≤ 5) ∧ ((-1 ≤ s ∧ s ≤ 4) ∧ (s = -1 ∨ (0 ≤ n ∧ n ≤ 60))))) := by
  refine Ct.of (cc := cX10_tape) (nL := 5) (ret := (some .int)) (by decide) rfl (Nat.le_of_ble_eq_true rfl) (fun z hz ok rt => ?_)
  have ok : Ok z g cX10_tape 5 RX10 wsX10_tape 2 45 := ok
  show V z g 5 M [(0, rf g 78), (1, iv t), (2, iv s), (3, iv n)] [] 0
  refine v_iload_n ok 1 dX10_tape_0 rfl rfl ?_
  refine v_callS (na := 1) ok (ct_X10_isTape z.2.1 g M t ⟨by omega, by omega⟩) gX10_tape_X10_isTape rfl (by decide +kernel) rfl (by decide) [] rfl (Nat.le_of_ble_eq_true rfl) dX10_tape_1 (fun v2 M3 hp1 => ?_)
  rcases hp1 with ⟨rfl, eM3, h4⟩ | ⟨rfl, eM3, h5⟩
  · skip
    subst M3
    show V z g 5 M [(0, rf g 78), (1, iv t), (2, iv s), (3, iv n)] [iv 1] 4
    refine v_if_ne (tgt := 9) ok (by decide) dX10_tape_4 (by decide) (fun c6 => ?_) (fun c6 => absurd c6 (by decide))
    refine v_iload_n ok 2 dX10_tape_9 rfl rfl ?_
    refine v_i2l ok ⟨by omega, by omega⟩ dX10_tape_10 ?_
    refine v_ldc2 (n := -1) ok mk_X10_tape_189 rfl dX10_tape_11 ?_
    refine v_ldc2 (n := 4) ok mk_X10_tape_84 rfl dX10_tape_14 ?_
    refine v_callS (na := 3) ok (ct_X10_in z.2.1 g M s (-1) 4 ⟨by omega, by omega⟩ (by decide) (by decide)) gX10_tape_X10_in rfl (by decide +kernel) rfl (by decide) [] rfl (Nat.le_of_ble_eq_true rfl) dX10_tape_17 (fun v8 M9 hp7 => ?_)
    rcases hp7 with ⟨rfl, eM9, h10⟩ | ⟨rfl, eM9, h11⟩
    · skip
      subst M9
      show V z g 5 M [(0, rf g 78), (1, iv t), (2, iv s), (3, iv n)] [iv 1] 20
      refine v_if_eq (tgt := 33) ok (by decide) dX10_tape_20 (by decide) (fun c12 => absurd c12 (by decide)) (fun c12 => ?_)
      refine v_iload_n ok 2 dX10_tape_23 rfl rfl ?_
      refine v_if_lt (tgt := 36) ok ⟨by omega, by omega⟩ dX10_tape_24 (by decide) (fun c13 => ?_) (fun c13 => ?_)
      · skip
        refine v_iload_n ok 2 dX10_tape_36 rfl rfl ?_
        refine v_if_lt (tgt := 47) ok ⟨by omega, by omega⟩ dX10_tape_37 (by decide) (fun c14 => ?_) (fun c14 => ?_)
        · skip
          refine v_aload_n ok 0 dX10_tape_47 rfl rfl ?_
          refine v_get (T := TX10) (N := 22) (f0 := (M 78)) (v := rf g 92) ok mi_X10_tape_10 (kd_lt (show kd 78 = 10 from rfl) (by decide)) rfl rfl (cellF_10 _ (by decide)) 19 (by decide) mk_X10_tape_51 rfl rfl dX10_tape_48 ?_
          refine v_iload_n ok 1 dX10_tape_51 rfl rfl ?_
          refine v_iload_n ok 2 dX10_tape_52 rfl rfl ?_
          refine v_iast (n := 6) (f0 := (M 92)) ok (by decide) rfl (by omega) rfl dX10_tape_53 ?_
          refine v_aload_n ok 0 dX10_tape_54 rfl rfl ?_
          refine v_get (T := TX10) (N := 22) (f0 := (M 78)) (v := rf g 93) ok mi_X10_tape_10 (kd_lt (show kd 78 = 10 from rfl) (by decide)) rfl rfl (cellF_10 _ (by decide)) 20 (by decide) mk_X10_tape_54 rfl rfl dX10_tape_55 ?_
          refine v_iload_n ok 1 dX10_tape_58 rfl rfl ?_
          refine v_iload_n ok 2 dX10_tape_59 rfl rfl ?_
          refine v_if_ge (tgt := 67) ok ⟨by omega, by omega⟩ dX10_tape_60 (by decide) (fun c15 => ?_) (fun c15 => ?_)
          · skip
            refine v_iload_n ok 3 dX10_tape_67 rfl rfl ?_
            refine v_iast (n := 6) (f0 := (M 93)) ok (by decide) rfl (by omega) rfl dX10_tape_68 ?_
            refine v_iconst (n := 0) ok dX10_tape_69 ?_
            refine v_istore ok [(4, iv 0), (0, rf g 78), (1, iv t), (2, iv s), (3, iv n)] dX10_tape_70 (by decide) rfl ?_
            have lp72 : ∀ (fu : Nat) (k : Int) (G : Int → Int), (0 ≤ k ∧ k ≤ 60) → (∀ j : Int, G j = if 60 * t ≤ j ∧ j < 60 * t + k then 0 else M 94 j) → (60 - k).toNat < fu → V z g 5 (up1 (up1 (up1 M 92 (up (M 92) t s)) 93 (up (M 93) t n)) 94 G) [(0, rf g 78), (1, iv t), (2, iv s), (3, iv n), (4, iv k)] [] 72 := by
              intro fu
              induction fu with
              | zero => intro k G _ _ hm; exact absurd hm (Nat.not_lt_zero _)
              | succ fu ih72 =>
                intro k G i72_0 i72_1 hm72
                refine v_iload ok 4 dX10_tape_72 rfl ?_
                refine v_bipush (n := 60) ok rfl dX10_tape_74 ?_
                refine v_icmp_ge (tgt := 98) ok ⟨by omega, by omega⟩ (by decide) dX10_tape_76 (by decide) (fun c16 => ?_) (fun c16 => ?_)
                · skip
                  refine v_cong (n := 360) (zrI (M 94) t) (Or.inr (by decide)) rfl (fun j j0 j1 => by rw [i72_1 j, show k = 60 by omega]; rfl) ?_
                  refine v_iconst (n := 1) ok dX10_tape_98 ?_
                  exact v_iret ok rt dX10_tape_99 (Or.inr (Or.inr (Or.inr (⟨rfl, (by first | (exfalso; omega) | rw [if_pos (by omega)] | rw [if_neg (by omega)]), (by omega), (by omega)⟩))))
                · skip
                  refine v_aload_n ok 0 dX10_tape_79 rfl rfl ?_
                  refine v_get (T := TX10) (N := 22) (f0 := (M 78)) (v := rf g 94) ok mi_X10_tape_10 (kd_lt (show kd 78 = 10 from rfl) (by decide)) rfl rfl (cellF_10 _ (by decide)) 21 (by decide) mk_X10_tape_57 rfl rfl dX10_tape_80 ?_
                  refine v_bipush (n := 60) ok rfl dX10_tape_83 ?_
                  refine v_iload_n ok 1 dX10_tape_85 rfl rfl ?_
                  refine v_imul ok dX10_tape_86 ?_
                  refine v_iload ok 4 dX10_tape_87 rfl ?_
                  refine v_iadd ok dX10_tape_89 ?_
                  refine v_lconst (n := 0) ok rfl dX10_tape_90 ?_
                  refine v_last (n := 360) (f0 := G) ok (by decide) rfl (by omega) rfl dX10_tape_91 ?_
                  rw [up1_up1]
                  refine v_iinc ok 4 [(4, iv (k + 1)), (0, rf g 78), (1, iv t), (2, iv s), (3, iv n)] dX10_tape_92 rfl (by decide) rfl ?_
                  refine v_goto (tgt := 72) ok dX10_tape_95 (by decide) ?_
                  refine v_lv (ls' := [(0, rf g 78), (1, iv t), (2, iv s), (3, iv n), (4, iv (k + 1))]) ok [1, 2, 3, 4, 0] rfl ?_
                  exact ih72 (k + 1) (up G ((60 * t) + k) 0) (by omega) (fun j => by
                    by_cases e9 : j = 60 * t + k
                    · rw [e9, up_same, if_pos (by omega)]
                    · rw [up_ne e9, i72_1 j]
                      by_cases c9 : 60 * t ≤ j ∧ j < 60 * t + k
                      · rw [if_pos c9, if_pos (by omega)]
                      · rw [if_neg c9, if_neg (by omega)]) (by omega)
            rw [show ((up1 (up1 M 92 (up (M 92) t s)) 93 (up (M 93) t n)) : Mem) = (up1 (up1 (up1 M 92 (up (M 92) t s)) 93 (up (M 93) t n)) 94 (M 94)) from (by funext j; by_cases hj1 : j = 92 <;> by_cases hj2 : j = 93 <;> by_cases hj3 : j = 94 <;> simp_all [up1])]
            refine v_lv (ls' := [(0, rf g 78), (1, iv t), (2, iv s), (3, iv n), (4, iv 0)]) ok [1, 2, 3, 4, 0] rfl ?_
            exact lp72 _ 0 (M 94) (by omega) (fun j => by rw [if_neg (by omega)]) (Nat.lt_succ_self _)
          · skip
            refine v_iconst (n := 0) ok dX10_tape_63 ?_
            refine v_goto (tgt := 68) ok dX10_tape_64 (by decide) ?_
            refine v_iast (n := 6) (f0 := (M 93)) ok (by decide) rfl (by omega) rfl dX10_tape_68 ?_
            refine v_iconst (n := 0) ok dX10_tape_69 ?_
            refine v_istore ok [(4, iv 0), (0, rf g 78), (1, iv t), (2, iv s), (3, iv n)] dX10_tape_70 (by decide) rfl ?_
            have lp72x : ∀ (fu : Nat) (k : Int) (G : Int → Int), (0 ≤ k ∧ k ≤ 60) → (∀ j : Int, G j = if 60 * t ≤ j ∧ j < 60 * t + k then 0 else M 94 j) → (60 - k).toNat < fu → V z g 5 (up1 (up1 (up1 M 92 (up (M 92) t s)) 93 (up (M 93) t 0)) 94 G) [(0, rf g 78), (1, iv t), (2, iv s), (3, iv n), (4, iv k)] [] 72 := by
              intro fu
              induction fu with
              | zero => intro k G _ _ hm; exact absurd hm (Nat.not_lt_zero _)
              | succ fu ih72 =>
                intro k G i72_0 i72_1 hm72
                refine v_iload ok 4 dX10_tape_72 rfl ?_
                refine v_bipush (n := 60) ok rfl dX10_tape_74 ?_
                refine v_icmp_ge (tgt := 98) ok ⟨by omega, by omega⟩ (by decide) dX10_tape_76 (by decide) (fun c17 => ?_) (fun c17 => ?_)
                · skip
                  refine v_cong (n := 360) (zrI (M 94) t) (Or.inr (by decide)) rfl (fun j j0 j1 => by rw [i72_1 j, show k = 60 by omega]; rfl) ?_
                  refine v_iconst (n := 1) ok dX10_tape_98 ?_
                  exact v_iret ok rt dX10_tape_99 (Or.inr (Or.inr (Or.inr (⟨rfl, (by first | (exfalso; omega) | rw [if_pos (by omega)] | rw [if_neg (by omega)]), (by omega), (by omega)⟩))))
                · skip
                  refine v_aload_n ok 0 dX10_tape_79 rfl rfl ?_
                  refine v_get (T := TX10) (N := 22) (f0 := (M 78)) (v := rf g 94) ok mi_X10_tape_10 (kd_lt (show kd 78 = 10 from rfl) (by decide)) rfl rfl (cellF_10 _ (by decide)) 21 (by decide) mk_X10_tape_57 rfl rfl dX10_tape_80 ?_
                  refine v_bipush (n := 60) ok rfl dX10_tape_83 ?_
                  refine v_iload_n ok 1 dX10_tape_85 rfl rfl ?_
                  refine v_imul ok dX10_tape_86 ?_
                  refine v_iload ok 4 dX10_tape_87 rfl ?_
                  refine v_iadd ok dX10_tape_89 ?_
                  refine v_lconst (n := 0) ok rfl dX10_tape_90 ?_
                  refine v_last (n := 360) (f0 := G) ok (by decide) rfl (by omega) rfl dX10_tape_91 ?_
                  rw [up1_up1]
                  refine v_iinc ok 4 [(4, iv (k + 1)), (0, rf g 78), (1, iv t), (2, iv s), (3, iv n)] dX10_tape_92 rfl (by decide) rfl ?_
                  refine v_goto (tgt := 72) ok dX10_tape_95 (by decide) ?_
                  refine v_lv (ls' := [(0, rf g 78), (1, iv t), (2, iv s), (3, iv n), (4, iv (k + 1))]) ok [1, 2, 3, 4, 0] rfl ?_
                  exact ih72 (k + 1) (up G ((60 * t) + k) 0) (by omega) (fun j => by
                    by_cases e9 : j = 60 * t + k
                    · rw [e9, up_same, if_pos (by omega)]
                    · rw [up_ne e9, i72_1 j]
                      by_cases c9 : 60 * t ≤ j ∧ j < 60 * t + k
                      · rw [if_pos c9, if_pos (by omega)]
                      · rw [if_neg c9, if_neg (by omega)]) (by omega)
            rw [show ((up1 (up1 M 92 (up (M 92) t s)) 93 (up (M 93) t 0)) : Mem) = (up1 (up1 (up1 M 92 (up (M 92) t s)) 93 (up (M 93) t 0)) 94 (M 94)) from (by funext j; by_cases hj1 : j = 92 <;> by_cases hj2 : j = 93 <;> by_cases hj3 : j = 94 <;> simp_all [up1])]
            refine v_lv (ls' := [(0, rf g 78), (1, iv t), (2, iv s), (3, iv n), (4, iv 0)]) ok [1, 2, 3, 4, 0] rfl ?_
            exact lp72x _ 0 (M 94) (by omega) (fun j => by rw [if_neg (by omega)]) (Nat.lt_succ_self _)
        · skip
          refine v_iload_n ok 3 dX10_tape_40 rfl rfl ?_
          refine v_if_ge (tgt := 47) ok ⟨by omega, by omega⟩ dX10_tape_41 (by decide) (fun c18 => ?_) (fun c18 => ?_)
          · skip
            refine v_aload_n ok 0 dX10_tape_47 rfl rfl ?_
            refine v_get (T := TX10) (N := 22) (f0 := (M 78)) (v := rf g 92) ok mi_X10_tape_10 (kd_lt (show kd 78 = 10 from rfl) (by decide)) rfl rfl (cellF_10 _ (by decide)) 19 (by decide) mk_X10_tape_51 rfl rfl dX10_tape_48 ?_
            refine v_iload_n ok 1 dX10_tape_51 rfl rfl ?_
            refine v_iload_n ok 2 dX10_tape_52 rfl rfl ?_
            refine v_iast (n := 6) (f0 := (M 92)) ok (by decide) rfl (by omega) rfl dX10_tape_53 ?_
            refine v_aload_n ok 0 dX10_tape_54 rfl rfl ?_
            refine v_get (T := TX10) (N := 22) (f0 := (M 78)) (v := rf g 93) ok mi_X10_tape_10 (kd_lt (show kd 78 = 10 from rfl) (by decide)) rfl rfl (cellF_10 _ (by decide)) 20 (by decide) mk_X10_tape_54 rfl rfl dX10_tape_55 ?_
            refine v_iload_n ok 1 dX10_tape_58 rfl rfl ?_
            refine v_iload_n ok 2 dX10_tape_59 rfl rfl ?_
            refine v_if_ge (tgt := 67) ok ⟨by omega, by omega⟩ dX10_tape_60 (by decide) (fun c19 => ?_) (fun c19 => ?_)
            · skip
              refine v_iload_n ok 3 dX10_tape_67 rfl rfl ?_
              refine v_iast (n := 6) (f0 := (M 93)) ok (by decide) rfl (by omega) rfl dX10_tape_68 ?_
              refine v_iconst (n := 0) ok dX10_tape_69 ?_
              refine v_istore ok [(4, iv 0), (0, rf g 78), (1, iv t), (2, iv s), (3, iv n)] dX10_tape_70 (by decide) rfl ?_
              have lp72xx : ∀ (fu : Nat) (k : Int) (G : Int → Int), (0 ≤ k ∧ k ≤ 60) → (∀ j : Int, G j = if 60 * t ≤ j ∧ j < 60 * t + k then 0 else M 94 j) → (60 - k).toNat < fu → V z g 5 (up1 (up1 (up1 M 92 (up (M 92) t s)) 93 (up (M 93) t n)) 94 G) [(0, rf g 78), (1, iv t), (2, iv s), (3, iv n), (4, iv k)] [] 72 := by
                intro fu
                induction fu with
                | zero => intro k G _ _ hm; exact absurd hm (Nat.not_lt_zero _)
                | succ fu ih72 =>
                  intro k G i72_0 i72_1 hm72
                  refine v_iload ok 4 dX10_tape_72 rfl ?_
                  refine v_bipush (n := 60) ok rfl dX10_tape_74 ?_
                  refine v_icmp_ge (tgt := 98) ok ⟨by omega, by omega⟩ (by decide) dX10_tape_76 (by decide) (fun c20 => ?_) (fun c20 => ?_)
                  · skip
                    refine v_cong (n := 360) (zrI (M 94) t) (Or.inr (by decide)) rfl (fun j j0 j1 => by rw [i72_1 j, show k = 60 by omega]; rfl) ?_
                    refine v_iconst (n := 1) ok dX10_tape_98 ?_
                    exact v_iret ok rt dX10_tape_99 (Or.inr (Or.inr (Or.inr (⟨rfl, (by first | (exfalso; omega) | rw [if_pos (by omega)] | rw [if_neg (by omega)]), (by omega), (by omega)⟩))))
                  · skip
                    refine v_aload_n ok 0 dX10_tape_79 rfl rfl ?_
                    refine v_get (T := TX10) (N := 22) (f0 := (M 78)) (v := rf g 94) ok mi_X10_tape_10 (kd_lt (show kd 78 = 10 from rfl) (by decide)) rfl rfl (cellF_10 _ (by decide)) 21 (by decide) mk_X10_tape_57 rfl rfl dX10_tape_80 ?_
                    refine v_bipush (n := 60) ok rfl dX10_tape_83 ?_
                    refine v_iload_n ok 1 dX10_tape_85 rfl rfl ?_
                    refine v_imul ok dX10_tape_86 ?_
                    refine v_iload ok 4 dX10_tape_87 rfl ?_
                    refine v_iadd ok dX10_tape_89 ?_
                    refine v_lconst (n := 0) ok rfl dX10_tape_90 ?_
                    refine v_last (n := 360) (f0 := G) ok (by decide) rfl (by omega) rfl dX10_tape_91 ?_
                    rw [up1_up1]
                    refine v_iinc ok 4 [(4, iv (k + 1)), (0, rf g 78), (1, iv t), (2, iv s), (3, iv n)] dX10_tape_92 rfl (by decide) rfl ?_
                    refine v_goto (tgt := 72) ok dX10_tape_95 (by decide) ?_
                    refine v_lv (ls' := [(0, rf g 78), (1, iv t), (2, iv s), (3, iv n), (4, iv (k + 1))]) ok [1, 2, 3, 4, 0] rfl ?_
                    exact ih72 (k + 1) (up G ((60 * t) + k) 0) (by omega) (fun j => by
                      by_cases e9 : j = 60 * t + k
                      · rw [e9, up_same, if_pos (by omega)]
                      · rw [up_ne e9, i72_1 j]
                        by_cases c9 : 60 * t ≤ j ∧ j < 60 * t + k
                        · rw [if_pos c9, if_pos (by omega)]
                        · rw [if_neg c9, if_neg (by omega)]) (by omega)
              rw [show ((up1 (up1 M 92 (up (M 92) t s)) 93 (up (M 93) t n)) : Mem) = (up1 (up1 (up1 M 92 (up (M 92) t s)) 93 (up (M 93) t n)) 94 (M 94)) from (by funext j; by_cases hj1 : j = 92 <;> by_cases hj2 : j = 93 <;> by_cases hj3 : j = 94 <;> simp_all [up1])]
              refine v_lv (ls' := [(0, rf g 78), (1, iv t), (2, iv s), (3, iv n), (4, iv 0)]) ok [1, 2, 3, 4, 0] rfl ?_
              exact lp72xx _ 0 (M 94) (by omega) (fun j => by rw [if_neg (by omega)]) (Nat.lt_succ_self _)
            · skip
              refine v_iconst (n := 0) ok dX10_tape_63 ?_
              refine v_goto (tgt := 68) ok dX10_tape_64 (by decide) ?_
              refine v_iast (n := 6) (f0 := (M 93)) ok (by decide) rfl (by omega) rfl dX10_tape_68 ?_
              refine v_iconst (n := 0) ok dX10_tape_69 ?_
              refine v_istore ok [(4, iv 0), (0, rf g 78), (1, iv t), (2, iv s), (3, iv n)] dX10_tape_70 (by decide) rfl ?_
              have lp72xxx : ∀ (fu : Nat) (k : Int) (G : Int → Int), (0 ≤ k ∧ k ≤ 60) → (∀ j : Int, G j = if 60 * t ≤ j ∧ j < 60 * t + k then 0 else M 94 j) → (60 - k).toNat < fu → V z g 5 (up1 (up1 (up1 M 92 (up (M 92) t s)) 93 (up (M 93) t 0)) 94 G) [(0, rf g 78), (1, iv t), (2, iv s), (3, iv n), (4, iv k)] [] 72 := by
                intro fu
                induction fu with
                | zero => intro k G _ _ hm; exact absurd hm (Nat.not_lt_zero _)
                | succ fu ih72 =>
                  intro k G i72_0 i72_1 hm72
                  refine v_iload ok 4 dX10_tape_72 rfl ?_
                  refine v_bipush (n := 60) ok rfl dX10_tape_74 ?_
                  refine v_icmp_ge (tgt := 98) ok ⟨by omega, by omega⟩ (by decide) dX10_tape_76 (by decide) (fun c21 => ?_) (fun c21 => ?_)
                  · skip
                    refine v_cong (n := 360) (zrI (M 94) t) (Or.inr (by decide)) rfl (fun j j0 j1 => by rw [i72_1 j, show k = 60 by omega]; rfl) ?_
                    refine v_iconst (n := 1) ok dX10_tape_98 ?_
                    exact v_iret ok rt dX10_tape_99 (Or.inr (Or.inr (Or.inr (⟨rfl, (by first | (exfalso; omega) | rw [if_pos (by omega)] | rw [if_neg (by omega)]), (by omega), (by omega)⟩))))
                  · skip
                    refine v_aload_n ok 0 dX10_tape_79 rfl rfl ?_
                    refine v_get (T := TX10) (N := 22) (f0 := (M 78)) (v := rf g 94) ok mi_X10_tape_10 (kd_lt (show kd 78 = 10 from rfl) (by decide)) rfl rfl (cellF_10 _ (by decide)) 21 (by decide) mk_X10_tape_57 rfl rfl dX10_tape_80 ?_
                    refine v_bipush (n := 60) ok rfl dX10_tape_83 ?_
                    refine v_iload_n ok 1 dX10_tape_85 rfl rfl ?_
                    refine v_imul ok dX10_tape_86 ?_
                    refine v_iload ok 4 dX10_tape_87 rfl ?_
                    refine v_iadd ok dX10_tape_89 ?_
                    refine v_lconst (n := 0) ok rfl dX10_tape_90 ?_
                    refine v_last (n := 360) (f0 := G) ok (by decide) rfl (by omega) rfl dX10_tape_91 ?_
                    rw [up1_up1]
                    refine v_iinc ok 4 [(4, iv (k + 1)), (0, rf g 78), (1, iv t), (2, iv s), (3, iv n)] dX10_tape_92 rfl (by decide) rfl ?_
                    refine v_goto (tgt := 72) ok dX10_tape_95 (by decide) ?_
                    refine v_lv (ls' := [(0, rf g 78), (1, iv t), (2, iv s), (3, iv n), (4, iv (k + 1))]) ok [1, 2, 3, 4, 0] rfl ?_
                    exact ih72 (k + 1) (up G ((60 * t) + k) 0) (by omega) (fun j => by
                      by_cases e9 : j = 60 * t + k
                      · rw [e9, up_same, if_pos (by omega)]
                      · rw [up_ne e9, i72_1 j]
                        by_cases c9 : 60 * t ≤ j ∧ j < 60 * t + k
                        · rw [if_pos c9, if_pos (by omega)]
                        · rw [if_neg c9, if_neg (by omega)]) (by omega)
              rw [show ((up1 (up1 M 92 (up (M 92) t s)) 93 (up (M 93) t 0)) : Mem) = (up1 (up1 (up1 M 92 (up (M 92) t s)) 93 (up (M 93) t 0)) 94 (M 94)) from (by funext j; by_cases hj1 : j = 92 <;> by_cases hj2 : j = 93 <;> by_cases hj3 : j = 94 <;> simp_all [up1])]
              refine v_lv (ls' := [(0, rf g 78), (1, iv t), (2, iv s), (3, iv n), (4, iv 0)]) ok [1, 2, 3, 4, 0] rfl ?_
              exact lp72xxx _ 0 (M 94) (by omega) (fun j => by rw [if_neg (by omega)]) (Nat.lt_succ_self _)
          · skip
            refine v_bipush (n := -14) ok rfl dX10_tape_44 ?_
            exact v_iret ok rt dX10_tape_46 (Or.inr (Or.inr (Or.inl (⟨rfl, rfl, (by omega), (by omega)⟩))))
      · skip
        refine v_iload_n ok 3 dX10_tape_27 rfl rfl ?_
        refine v_bipush (n := 60) ok rfl dX10_tape_28 ?_
        refine v_icmp_le (tgt := 36) ok ⟨by omega, by omega⟩ (by decide) dX10_tape_30 (by decide) (fun c22 => ?_) (fun c22 => ?_)
        · skip
          refine v_iload_n ok 2 dX10_tape_36 rfl rfl ?_
          refine v_if_lt (tgt := 47) ok ⟨by omega, by omega⟩ dX10_tape_37 (by decide) (fun c23 => ?_) (fun c23 => ?_)
          · skip
            refine v_aload_n ok 0 dX10_tape_47 rfl rfl ?_
            refine v_get (T := TX10) (N := 22) (f0 := (M 78)) (v := rf g 92) ok mi_X10_tape_10 (kd_lt (show kd 78 = 10 from rfl) (by decide)) rfl rfl (cellF_10 _ (by decide)) 19 (by decide) mk_X10_tape_51 rfl rfl dX10_tape_48 ?_
            refine v_iload_n ok 1 dX10_tape_51 rfl rfl ?_
            refine v_iload_n ok 2 dX10_tape_52 rfl rfl ?_
            refine v_iast (n := 6) (f0 := (M 92)) ok (by decide) rfl (by omega) rfl dX10_tape_53 ?_
            refine v_aload_n ok 0 dX10_tape_54 rfl rfl ?_
            refine v_get (T := TX10) (N := 22) (f0 := (M 78)) (v := rf g 93) ok mi_X10_tape_10 (kd_lt (show kd 78 = 10 from rfl) (by decide)) rfl rfl (cellF_10 _ (by decide)) 20 (by decide) mk_X10_tape_54 rfl rfl dX10_tape_55 ?_
            refine v_iload_n ok 1 dX10_tape_58 rfl rfl ?_
            refine v_iload_n ok 2 dX10_tape_59 rfl rfl ?_
            refine v_if_ge (tgt := 67) ok ⟨by omega, by omega⟩ dX10_tape_60 (by decide) (fun c24 => ?_) (fun c24 => ?_)
            · skip
              refine v_iload_n ok 3 dX10_tape_67 rfl rfl ?_
              refine v_iast (n := 6) (f0 := (M 93)) ok (by decide) rfl (by omega) rfl dX10_tape_68 ?_
              refine v_iconst (n := 0) ok dX10_tape_69 ?_
              refine v_istore ok [(4, iv 0), (0, rf g 78), (1, iv t), (2, iv s), (3, iv n)] dX10_tape_70 (by decide) rfl ?_
              have lp72xxxx : ∀ (fu : Nat) (k : Int) (G : Int → Int), (0 ≤ k ∧ k ≤ 60) → (∀ j : Int, G j = if 60 * t ≤ j ∧ j < 60 * t + k then 0 else M 94 j) → (60 - k).toNat < fu → V z g 5 (up1 (up1 (up1 M 92 (up (M 92) t s)) 93 (up (M 93) t n)) 94 G) [(0, rf g 78), (1, iv t), (2, iv s), (3, iv n), (4, iv k)] [] 72 := by
                intro fu
                induction fu with
                | zero => intro k G _ _ hm; exact absurd hm (Nat.not_lt_zero _)
                | succ fu ih72 =>
                  intro k G i72_0 i72_1 hm72
                  refine v_iload ok 4 dX10_tape_72 rfl ?_
                  refine v_bipush (n := 60) ok rfl dX10_tape_74 ?_
                  refine v_icmp_ge (tgt := 98) ok ⟨by omega, by omega⟩ (by decide) dX10_tape_76 (by decide) (fun c25 => ?_) (fun c25 => ?_)
                  · skip
                    refine v_cong (n := 360) (zrI (M 94) t) (Or.inr (by decide)) rfl (fun j j0 j1 => by rw [i72_1 j, show k = 60 by omega]; rfl) ?_
                    refine v_iconst (n := 1) ok dX10_tape_98 ?_
                    exact v_iret ok rt dX10_tape_99 (Or.inr (Or.inr (Or.inr (⟨rfl, (by first | (exfalso; omega) | rw [if_pos (by omega)] | rw [if_neg (by omega)]), (by omega), (by omega)⟩))))
                  · skip
                    refine v_aload_n ok 0 dX10_tape_79 rfl rfl ?_
                    refine v_get (T := TX10) (N := 22) (f0 := (M 78)) (v := rf g 94) ok mi_X10_tape_10 (kd_lt (show kd 78 = 10 from rfl) (by decide)) rfl rfl (cellF_10 _ (by decide)) 21 (by decide) mk_X10_tape_57 rfl rfl dX10_tape_80 ?_
                    refine v_bipush (n := 60) ok rfl dX10_tape_83 ?_
                    refine v_iload_n ok 1 dX10_tape_85 rfl rfl ?_
                    refine v_imul ok dX10_tape_86 ?_
                    refine v_iload ok 4 dX10_tape_87 rfl ?_
                    refine v_iadd ok dX10_tape_89 ?_
                    refine v_lconst (n := 0) ok rfl dX10_tape_90 ?_
                    refine v_last (n := 360) (f0 := G) ok (by decide) rfl (by omega) rfl dX10_tape_91 ?_
                    rw [up1_up1]
                    refine v_iinc ok 4 [(4, iv (k + 1)), (0, rf g 78), (1, iv t), (2, iv s), (3, iv n)] dX10_tape_92 rfl (by decide) rfl ?_
                    refine v_goto (tgt := 72) ok dX10_tape_95 (by decide) ?_
                    refine v_lv (ls' := [(0, rf g 78), (1, iv t), (2, iv s), (3, iv n), (4, iv (k + 1))]) ok [1, 2, 3, 4, 0] rfl ?_
                    exact ih72 (k + 1) (up G ((60 * t) + k) 0) (by omega) (fun j => by
                      by_cases e9 : j = 60 * t + k
                      · rw [e9, up_same, if_pos (by omega)]
                      · rw [up_ne e9, i72_1 j]
                        by_cases c9 : 60 * t ≤ j ∧ j < 60 * t + k
                        · rw [if_pos c9, if_pos (by omega)]
                        · rw [if_neg c9, if_neg (by omega)]) (by omega)
              rw [show ((up1 (up1 M 92 (up (M 92) t s)) 93 (up (M 93) t n)) : Mem) = (up1 (up1 (up1 M 92 (up (M 92) t s)) 93 (up (M 93) t n)) 94 (M 94)) from (by funext j; by_cases hj1 : j = 92 <;> by_cases hj2 : j = 93 <;> by_cases hj3 : j = 94 <;> simp_all [up1])]
              refine v_lv (ls' := [(0, rf g 78), (1, iv t), (2, iv s), (3, iv n), (4, iv 0)]) ok [1, 2, 3, 4, 0] rfl ?_
              exact lp72xxxx _ 0 (M 94) (by omega) (fun j => by rw [if_neg (by omega)]) (Nat.lt_succ_self _)
            · skip
              refine v_iconst (n := 0) ok dX10_tape_63 ?_
              refine v_goto (tgt := 68) ok dX10_tape_64 (by decide) ?_
              refine v_iast (n := 6) (f0 := (M 93)) ok (by decide) rfl (by omega) rfl dX10_tape_68 ?_
              refine v_iconst (n := 0) ok dX10_tape_69 ?_
              refine v_istore ok [(4, iv 0), (0, rf g 78), (1, iv t), (2, iv s), (3, iv n)] dX10_tape_70 (by decide) rfl ?_
              have lp72xxxxx : ∀ (fu : Nat) (k : Int) (G : Int → Int), (0 ≤ k ∧ k ≤ 60) → (∀ j : Int, G j = if 60 * t ≤ j ∧ j < 60 * t + k then 0 else M 94 j) → (60 - k).toNat < fu → V z g 5 (up1 (up1 (up1 M 92 (up (M 92) t s)) 93 (up (M 93) t 0)) 94 G) [(0, rf g 78), (1, iv t), (2, iv s), (3, iv n), (4, iv k)] [] 72 := by
                intro fu
                induction fu with
                | zero => intro k G _ _ hm; exact absurd hm (Nat.not_lt_zero _)
                | succ fu ih72 =>
                  intro k G i72_0 i72_1 hm72
                  refine v_iload ok 4 dX10_tape_72 rfl ?_
                  refine v_bipush (n := 60) ok rfl dX10_tape_74 ?_
                  refine v_icmp_ge (tgt := 98) ok ⟨by omega, by omega⟩ (by decide) dX10_tape_76 (by decide) (fun c26 => ?_) (fun c26 => ?_)
                  · skip
                    refine v_cong (n := 360) (zrI (M 94) t) (Or.inr (by decide)) rfl (fun j j0 j1 => by rw [i72_1 j, show k = 60 by omega]; rfl) ?_
                    refine v_iconst (n := 1) ok dX10_tape_98 ?_
                    exact v_iret ok rt dX10_tape_99 (Or.inr (Or.inr (Or.inr (⟨rfl, (by first | (exfalso; omega) | rw [if_pos (by omega)] | rw [if_neg (by omega)]), (by omega), (by omega)⟩))))
                  · skip
                    refine v_aload_n ok 0 dX10_tape_79 rfl rfl ?_
                    refine v_get (T := TX10) (N := 22) (f0 := (M 78)) (v := rf g 94) ok mi_X10_tape_10 (kd_lt (show kd 78 = 10 from rfl) (by decide)) rfl rfl (cellF_10 _ (by decide)) 21 (by decide) mk_X10_tape_57 rfl rfl dX10_tape_80 ?_
                    refine v_bipush (n := 60) ok rfl dX10_tape_83 ?_
                    refine v_iload_n ok 1 dX10_tape_85 rfl rfl ?_
                    refine v_imul ok dX10_tape_86 ?_
                    refine v_iload ok 4 dX10_tape_87 rfl ?_
                    refine v_iadd ok dX10_tape_89 ?_
                    refine v_lconst (n := 0) ok rfl dX10_tape_90 ?_
                    refine v_last (n := 360) (f0 := G) ok (by decide) rfl (by omega) rfl dX10_tape_91 ?_
                    rw [up1_up1]
                    refine v_iinc ok 4 [(4, iv (k + 1)), (0, rf g 78), (1, iv t), (2, iv s), (3, iv n)] dX10_tape_92 rfl (by decide) rfl ?_
                    refine v_goto (tgt := 72) ok dX10_tape_95 (by decide) ?_
                    refine v_lv (ls' := [(0, rf g 78), (1, iv t), (2, iv s), (3, iv n), (4, iv (k + 1))]) ok [1, 2, 3, 4, 0] rfl ?_
                    exact ih72 (k + 1) (up G ((60 * t) + k) 0) (by omega) (fun j => by
                      by_cases e9 : j = 60 * t + k
                      · rw [e9, up_same, if_pos (by omega)]
                      · rw [up_ne e9, i72_1 j]
                        by_cases c9 : 60 * t ≤ j ∧ j < 60 * t + k
                        · rw [if_pos c9, if_pos (by omega)]
                        · rw [if_neg c9, if_neg (by omega)]) (by omega)
              rw [show ((up1 (up1 M 92 (up (M 92) t s)) 93 (up (M 93) t 0)) : Mem) = (up1 (up1 (up1 M 92 (up (M 92) t s)) 93 (up (M 93) t 0)) 94 (M 94)) from (by funext j; by_cases hj1 : j = 92 <;> by_cases hj2 : j = 93 <;> by_cases hj3 : j = 94 <;> simp_all [up1])]
              refine v_lv (ls' := [(0, rf g 78), (1, iv t), (2, iv s), (3, iv n), (4, iv 0)]) ok [1, 2, 3, 4, 0] rfl ?_
              exact lp72xxxxx _ 0 (M 94) (by omega) (fun j => by rw [if_neg (by omega)]) (Nat.lt_succ_self _)
          · skip
            refine v_iload_n ok 3 dX10_tape_40 rfl rfl ?_
            refine v_if_ge (tgt := 47) ok ⟨by omega, by omega⟩ dX10_tape_41 (by decide) (fun c27 => ?_) (fun c27 => ?_)
            · skip
              refine v_aload_n ok 0 dX10_tape_47 rfl rfl ?_
              refine v_get (T := TX10) (N := 22) (f0 := (M 78)) (v := rf g 92) ok mi_X10_tape_10 (kd_lt (show kd 78 = 10 from rfl) (by decide)) rfl rfl (cellF_10 _ (by decide)) 19 (by decide) mk_X10_tape_51 rfl rfl dX10_tape_48 ?_
              refine v_iload_n ok 1 dX10_tape_51 rfl rfl ?_
              refine v_iload_n ok 2 dX10_tape_52 rfl rfl ?_
              refine v_iast (n := 6) (f0 := (M 92)) ok (by decide) rfl (by omega) rfl dX10_tape_53 ?_
              refine v_aload_n ok 0 dX10_tape_54 rfl rfl ?_
              refine v_get (T := TX10) (N := 22) (f0 := (M 78)) (v := rf g 93) ok mi_X10_tape_10 (kd_lt (show kd 78 = 10 from rfl) (by decide)) rfl rfl (cellF_10 _ (by decide)) 20 (by decide) mk_X10_tape_54 rfl rfl dX10_tape_55 ?_
              refine v_iload_n ok 1 dX10_tape_58 rfl rfl ?_
              refine v_iload_n ok 2 dX10_tape_59 rfl rfl ?_
              refine v_if_ge (tgt := 67) ok ⟨by omega, by omega⟩ dX10_tape_60 (by decide) (fun c28 => ?_) (fun c28 => ?_)
              · skip
                refine v_iload_n ok 3 dX10_tape_67 rfl rfl ?_
                refine v_iast (n := 6) (f0 := (M 93)) ok (by decide) rfl (by omega) rfl dX10_tape_68 ?_
                refine v_iconst (n := 0) ok dX10_tape_69 ?_
                refine v_istore ok [(4, iv 0), (0, rf g 78), (1, iv t), (2, iv s), (3, iv n)] dX10_tape_70 (by decide) rfl ?_
                have lp72xxxxxx : ∀ (fu : Nat) (k : Int) (G : Int → Int), (0 ≤ k ∧ k ≤ 60) → (∀ j : Int, G j = if 60 * t ≤ j ∧ j < 60 * t + k then 0 else M 94 j) → (60 - k).toNat < fu → V z g 5 (up1 (up1 (up1 M 92 (up (M 92) t s)) 93 (up (M 93) t n)) 94 G) [(0, rf g 78), (1, iv t), (2, iv s), (3, iv n), (4, iv k)] [] 72 := by
                  intro fu
                  induction fu with
                  | zero => intro k G _ _ hm; exact absurd hm (Nat.not_lt_zero _)
                  | succ fu ih72 =>
                    intro k G i72_0 i72_1 hm72
                    refine v_iload ok 4 dX10_tape_72 rfl ?_
                    refine v_bipush (n := 60) ok rfl dX10_tape_74 ?_
                    refine v_icmp_ge (tgt := 98) ok ⟨by omega, by omega⟩ (by decide) dX10_tape_76 (by decide) (fun c29 => ?_) (fun c29 => ?_)
                    · skip
                      refine v_cong (n := 360) (zrI (M 94) t) (Or.inr (by decide)) rfl (fun j j0 j1 => by rw [i72_1 j, show k = 60 by omega]; rfl) ?_
                      refine v_iconst (n := 1) ok dX10_tape_98 ?_
                      exact v_iret ok rt dX10_tape_99 (Or.inr (Or.inr (Or.inr (⟨rfl, (by first | (exfalso; omega) | rw [if_pos (by omega)] | rw [if_neg (by omega)]), (by omega), (by omega)⟩))))
                    · skip
                      refine v_aload_n ok 0 dX10_tape_79 rfl rfl ?_
                      refine v_get (T := TX10) (N := 22) (f0 := (M 78)) (v := rf g 94) ok mi_X10_tape_10 (kd_lt (show kd 78 = 10 from rfl) (by decide)) rfl rfl (cellF_10 _ (by decide)) 21 (by decide) mk_X10_tape_57 rfl rfl dX10_tape_80 ?_
                      refine v_bipush (n := 60) ok rfl dX10_tape_83 ?_
                      refine v_iload_n ok 1 dX10_tape_85 rfl rfl ?_
                      refine v_imul ok dX10_tape_86 ?_
                      refine v_iload ok 4 dX10_tape_87 rfl ?_
                      refine v_iadd ok dX10_tape_89 ?_
                      refine v_lconst (n := 0) ok rfl dX10_tape_90 ?_
                      refine v_last (n := 360) (f0 := G) ok (by decide) rfl (by omega) rfl dX10_tape_91 ?_
                      rw [up1_up1]
                      refine v_iinc ok 4 [(4, iv (k + 1)), (0, rf g 78), (1, iv t), (2, iv s), (3, iv n)] dX10_tape_92 rfl (by decide) rfl ?_
                      refine v_goto (tgt := 72) ok dX10_tape_95 (by decide) ?_
                      refine v_lv (ls' := [(0, rf g 78), (1, iv t), (2, iv s), (3, iv n), (4, iv (k + 1))]) ok [1, 2, 3, 4, 0] rfl ?_
                      exact ih72 (k + 1) (up G ((60 * t) + k) 0) (by omega) (fun j => by
                        by_cases e9 : j = 60 * t + k
                        · rw [e9, up_same, if_pos (by omega)]
                        · rw [up_ne e9, i72_1 j]
                          by_cases c9 : 60 * t ≤ j ∧ j < 60 * t + k
                          · rw [if_pos c9, if_pos (by omega)]
                          · rw [if_neg c9, if_neg (by omega)]) (by omega)
                rw [show ((up1 (up1 M 92 (up (M 92) t s)) 93 (up (M 93) t n)) : Mem) = (up1 (up1 (up1 M 92 (up (M 92) t s)) 93 (up (M 93) t n)) 94 (M 94)) from (by funext j; by_cases hj1 : j = 92 <;> by_cases hj2 : j = 93 <;> by_cases hj3 : j = 94 <;> simp_all [up1])]
                refine v_lv (ls' := [(0, rf g 78), (1, iv t), (2, iv s), (3, iv n), (4, iv 0)]) ok [1, 2, 3, 4, 0] rfl ?_
                exact lp72xxxxxx _ 0 (M 94) (by omega) (fun j => by rw [if_neg (by omega)]) (Nat.lt_succ_self _)
              · skip
                refine v_iconst (n := 0) ok dX10_tape_63 ?_
                refine v_goto (tgt := 68) ok dX10_tape_64 (by decide) ?_
                refine v_iast (n := 6) (f0 := (M 93)) ok (by decide) rfl (by omega) rfl dX10_tape_68 ?_
                refine v_iconst (n := 0) ok dX10_tape_69 ?_
                refine v_istore ok [(4, iv 0), (0, rf g 78), (1, iv t), (2, iv s), (3, iv n)] dX10_tape_70 (by decide) rfl ?_
                have lp72xxxxxxx : ∀ (fu : Nat) (k : Int) (G : Int → Int), (0 ≤ k ∧ k ≤ 60) → (∀ j : Int, G j = if 60 * t ≤ j ∧ j < 60 * t + k then 0 else M 94 j) → (60 - k).toNat < fu → V z g 5 (up1 (up1 (up1 M 92 (up (M 92) t s)) 93 (up (M 93) t 0)) 94 G) [(0, rf g 78), (1, iv t), (2, iv s), (3, iv n), (4, iv k)] [] 72 := by
                  intro fu
                  induction fu with
                  | zero => intro k G _ _ hm; exact absurd hm (Nat.not_lt_zero _)
                  | succ fu ih72 =>
                    intro k G i72_0 i72_1 hm72
                    refine v_iload ok 4 dX10_tape_72 rfl ?_
                    refine v_bipush (n := 60) ok rfl dX10_tape_74 ?_
                    refine v_icmp_ge (tgt := 98) ok ⟨by omega, by omega⟩ (by decide) dX10_tape_76 (by decide) (fun c30 => ?_) (fun c30 => ?_)
                    · skip
                      refine v_cong (n := 360) (zrI (M 94) t) (Or.inr (by decide)) rfl (fun j j0 j1 => by rw [i72_1 j, show k = 60 by omega]; rfl) ?_
                      refine v_iconst (n := 1) ok dX10_tape_98 ?_
                      exact v_iret ok rt dX10_tape_99 (Or.inr (Or.inr (Or.inr (⟨rfl, (by first | (exfalso; omega) | rw [if_pos (by omega)] | rw [if_neg (by omega)]), (by omega), (by omega)⟩))))
                    · skip
                      refine v_aload_n ok 0 dX10_tape_79 rfl rfl ?_
                      refine v_get (T := TX10) (N := 22) (f0 := (M 78)) (v := rf g 94) ok mi_X10_tape_10 (kd_lt (show kd 78 = 10 from rfl) (by decide)) rfl rfl (cellF_10 _ (by decide)) 21 (by decide) mk_X10_tape_57 rfl rfl dX10_tape_80 ?_
                      refine v_bipush (n := 60) ok rfl dX10_tape_83 ?_
                      refine v_iload_n ok 1 dX10_tape_85 rfl rfl ?_
                      refine v_imul ok dX10_tape_86 ?_
                      refine v_iload ok 4 dX10_tape_87 rfl ?_
                      refine v_iadd ok dX10_tape_89 ?_
                      refine v_lconst (n := 0) ok rfl dX10_tape_90 ?_
                      refine v_last (n := 360) (f0 := G) ok (by decide) rfl (by omega) rfl dX10_tape_91 ?_
                      rw [up1_up1]
                      refine v_iinc ok 4 [(4, iv (k + 1)), (0, rf g 78), (1, iv t), (2, iv s), (3, iv n)] dX10_tape_92 rfl (by decide) rfl ?_
                      refine v_goto (tgt := 72) ok dX10_tape_95 (by decide) ?_
                      refine v_lv (ls' := [(0, rf g 78), (1, iv t), (2, iv s), (3, iv n), (4, iv (k + 1))]) ok [1, 2, 3, 4, 0] rfl ?_
                      exact ih72 (k + 1) (up G ((60 * t) + k) 0) (by omega) (fun j => by
                        by_cases e9 : j = 60 * t + k
                        · rw [e9, up_same, if_pos (by omega)]
                        · rw [up_ne e9, i72_1 j]
                          by_cases c9 : 60 * t ≤ j ∧ j < 60 * t + k
                          · rw [if_pos c9, if_pos (by omega)]
                          · rw [if_neg c9, if_neg (by omega)]) (by omega)
                rw [show ((up1 (up1 M 92 (up (M 92) t s)) 93 (up (M 93) t 0)) : Mem) = (up1 (up1 (up1 M 92 (up (M 92) t s)) 93 (up (M 93) t 0)) 94 (M 94)) from (by funext j; by_cases hj1 : j = 92 <;> by_cases hj2 : j = 93 <;> by_cases hj3 : j = 94 <;> simp_all [up1])]
                refine v_lv (ls' := [(0, rf g 78), (1, iv t), (2, iv s), (3, iv n), (4, iv 0)]) ok [1, 2, 3, 4, 0] rfl ?_
                exact lp72xxxxxxx _ 0 (M 94) (by omega) (fun j => by rw [if_neg (by omega)]) (Nat.lt_succ_self _)
            · skip
              refine v_bipush (n := -14) ok rfl dX10_tape_44 ?_
              exact v_iret ok rt dX10_tape_46 (Or.inr (Or.inr (Or.inl (⟨rfl, rfl, (by omega), (by omega)⟩))))
        · skip
          refine v_bipush (n := -2) ok rfl dX10_tape_33 ?_
          exact v_iret ok rt dX10_tape_35 (Or.inr (Or.inl (⟨rfl, rfl, (by omega), (by omega)⟩)))
    · skip
      subst M9
      show V z g 5 M [(0, rf g 78), (1, iv t), (2, iv s), (3, iv n)] [iv 0] 20
      refine v_if_eq (tgt := 33) ok (by decide) dX10_tape_20 (by decide) (fun c31 => ?_) (fun c31 => absurd c31 (by decide))
      refine v_bipush (n := -2) ok rfl dX10_tape_33 ?_
      exact v_iret ok rt dX10_tape_35 (Or.inr (Or.inl (⟨rfl, rfl, (by omega), (by omega)⟩)))
  · skip
    subst M3
    show V z g 5 M [(0, rf g 78), (1, iv t), (2, iv s), (3, iv n)] [iv 0] 4
    refine v_if_ne (tgt := 9) ok (by decide) dX10_tape_4 (by decide) (fun c32 => absurd c32 (by decide)) (fun c32 => ?_)
    refine v_iconst (n := -1) ok dX10_tape_7 ?_
    exact v_iret ok rt dX10_tape_8 (Or.inl (⟨rfl, rfl, (by omega)⟩))

theorem mk_X10_item_51 : Cond.fieldLink RX10 51 "StormRunoffModel" "sorts" "[I" ∈ wsX10_item := by decide +kernel
theorem mi_X10_item_10 : ∀ w ∈ wsX100, w ∈ wsX10_item := by decide +kernel
theorem mk_X10_item_54 : Cond.fieldLink RX10 54 "StormRunoffModel" "sizes" "[I" ∈ wsX10_item := by decide +kernel
theorem mk_X10_item_57 : Cond.fieldLink RX10 57 "StormRunoffModel" "items" "[J" ∈ wsX10_item := by decide +kernel
set_option maxRecDepth 100000 in
set_option maxHeartbeats 400000 in
theorem ct_X10_item (l : Launch) (g : Gl) (M : Mem) (t i v : Int) (ht : i32 t) (hi : i32 i) (hv : i64 v) (htp : TpW (M 92) (M 93) (M 94)) : Ct l g yX10_item wsX10_item 2 45 [rf g 78, iv t, iv i, jv v] M (fun rv M' => (rv = some (iv (-1)) ∧ M' = M ∧ (¬ (0 ≤ t ∧ t ≤ 5))) ∨ (rv = some (iv (-11)) ∧ M' = M ∧ (0 ≤ t ∧ t ≤ 5) ∧ (M 92 t < 0)) ∨ (rv = some (iv (-13)) ∧ M' = M ∧ (0 ≤ t ∧ t ≤ 5) ∧ (0 ≤ M 92 t) ∧ (¬ (0 ≤ i ∧ i < M 93 t))) ∨ (rv = some (iv 1) ∧ M' = (up1 M 94 (up (M 94) (60 * t + i) (nrw (M 92 t) v))) ∧ (0 ≤ t ∧ t ≤ 5) ∧ (0 ≤ M 92 t) ∧ (0 ≤ i ∧ i < M 93 t))) := by
  refine Ct.of (cc := cX10_item) (nL := 5) (ret := (some .int)) (by decide) rfl (Nat.le_of_ble_eq_true rfl) (fun z hz ok rt => ?_)
  have ok : Ok z g cX10_item 5 RX10 wsX10_item 2 45 := ok
  show V z g 5 M [(0, rf g 78), (1, iv t), (2, iv i), (3, jv v)] [] 0
  refine v_iload_n ok 1 dX10_item_0 rfl rfl ?_
  refine v_callS (na := 1) ok (ct_X10_isTape z.2.1 g M t ⟨by omega, by omega⟩) gX10_item_X10_isTape rfl (by decide +kernel) rfl (by decide) [] rfl (Nat.le_of_ble_eq_true rfl) dX10_item_1 (fun v2 M3 hp1 => ?_)
  rcases hp1 with ⟨rfl, eM3, h4⟩ | ⟨rfl, eM3, h5⟩
  · skip
    subst M3
    show V z g 5 M [(0, rf g 78), (1, iv t), (2, iv i), (3, jv v)] [iv 1] 4
    refine v_if_ne (tgt := 9) ok (by decide) dX10_item_4 (by decide) (fun c6 => ?_) (fun c6 => absurd c6 (by decide))
    have htq := htp t (by omega) (by omega)
    refine v_aload_n ok 0 dX10_item_9 rfl rfl ?_
    refine v_get (T := TX10) (N := 22) (f0 := (M 78)) (v := rf g 92) ok mi_X10_item_10 (kd_lt (show kd 78 = 10 from rfl) (by decide)) rfl rfl (cellF_10 _ (by decide)) 19 (by decide) mk_X10_item_51 rfl rfl dX10_item_10 ?_
    refine v_iload_n ok 1 dX10_item_13 rfl rfl ?_
    refine v_iald (n := 6) (f0 := (M 92)) ok (by decide) rfl (by omega) rfl dX10_item_14 ?_
    refine v_if_ge (tgt := 21) ok ⟨by omega, by omega⟩ dX10_item_15 (by decide) (fun c7 => ?_) (fun c7 => ?_)
    · skip
      refine v_iload_n ok 2 dX10_item_21 rfl rfl ?_
      refine v_i2l ok ⟨by omega, by omega⟩ dX10_item_22 ?_
      refine v_lconst (n := 0) ok rfl dX10_item_23 ?_
      refine v_aload_n ok 0 dX10_item_24 rfl rfl ?_
      refine v_get (T := TX10) (N := 22) (f0 := (M 78)) (v := rf g 93) ok mi_X10_item_10 (kd_lt (show kd 78 = 10 from rfl) (by decide)) rfl rfl (cellF_10 _ (by decide)) 20 (by decide) mk_X10_item_54 rfl rfl dX10_item_25 ?_
      refine v_iload_n ok 1 dX10_item_28 rfl rfl ?_
      refine v_iald (n := 6) (f0 := (M 93)) ok (by decide) rfl (by omega) rfl dX10_item_29 ?_
      refine v_iconst (n := 1) ok dX10_item_30 ?_
      refine v_isub ok dX10_item_31 ?_
      refine v_i2l ok ⟨by omega, by omega⟩ dX10_item_32 ?_
      refine v_callS (na := 3) ok (ct_X10_in z.2.1 g M i 0 ((M 93 t) - 1) ⟨by omega, by omega⟩ (by decide) ⟨by omega, by omega⟩) gX10_item_X10_in rfl (by decide +kernel) rfl (by decide) [] rfl (Nat.le_of_ble_eq_true rfl) dX10_item_33 (fun v9 M10 hp8 => ?_)
      rcases hp8 with ⟨rfl, eM10, h11⟩ | ⟨rfl, eM10, h12⟩
      · skip
        subst M10
        show V z g 5 M [(0, rf g 78), (1, iv t), (2, iv i), (3, jv v)] [iv 1] 36
        refine v_if_ne (tgt := 42) ok (by decide) dX10_item_36 (by decide) (fun c13 => ?_) (fun c13 => absurd c13 (by decide))
        refine v_aload_n ok 0 dX10_item_42 rfl rfl ?_
        refine v_get (T := TX10) (N := 22) (f0 := (M 78)) (v := rf g 94) ok mi_X10_item_10 (kd_lt (show kd 78 = 10 from rfl) (by decide)) rfl rfl (cellF_10 _ (by decide)) 21 (by decide) mk_X10_item_57 rfl rfl dX10_item_43 ?_
        refine v_bipush (n := 60) ok rfl dX10_item_46 ?_
        refine v_iload_n ok 1 dX10_item_48 rfl rfl ?_
        refine v_imul ok dX10_item_49 ?_
        refine v_iload_n ok 2 dX10_item_50 rfl rfl ?_
        refine v_iadd ok dX10_item_51 ?_
        refine v_aload_n ok 0 dX10_item_52 rfl rfl ?_
        refine v_get (T := TX10) (N := 22) (f0 := (M 78)) (v := rf g 92) ok mi_X10_item_10 (kd_lt (show kd 78 = 10 from rfl) (by decide)) rfl rfl (cellF_10 _ (by decide)) 19 (by decide) mk_X10_item_51 rfl rfl dX10_item_53 ?_
        refine v_iload_n ok 1 dX10_item_56 rfl rfl ?_
        refine v_iald (n := 6) (f0 := (M 92)) ok (by decide) rfl (by omega) rfl dX10_item_57 ?_
        refine v_lload_n ok 3 dX10_item_58 rfl rfl ?_
        refine v_callS (na := 2) ok (ct_X10_narrowed z.2.1 g M (M 92 t) v (by first | omega | assumption) ⟨by omega, by omega⟩) gX10_item_X10_narrowed rfl (by decide +kernel) rfl (by decide) [iv ((60 * t) + i), rf g 94] rfl (Nat.le_of_ble_eq_true rfl) dX10_item_59 (fun v15 M16 hp14 => ?_)
        obtain ⟨rfl, eM16⟩ := hp14
        subst M16
        show V z g 5 M [(0, rf g 78), (1, iv t), (2, iv i), (3, jv v)] [jv (nrw (M 92 t) v), iv ((60 * t) + i), rf g 94] 62
        refine v_last (n := 360) (f0 := (M 94)) ok (by decide) rfl (by omega) rfl dX10_item_62 ?_
        refine v_iconst (n := 1) ok dX10_item_63 ?_
        exact v_iret ok rt dX10_item_64 (Or.inr (Or.inr (Or.inr (⟨rfl, (by
              funext j
              by_cases hj0 : j = 94
              · subst hj0; simp [up1, up1_self]
              simp [up1, hj0]), (by omega), (by omega), (by omega)⟩))))
      · skip
        subst M10
        show V z g 5 M [(0, rf g 78), (1, iv t), (2, iv i), (3, jv v)] [iv 0] 36
        refine v_if_ne (tgt := 42) ok (by decide) dX10_item_36 (by decide) (fun c17 => absurd c17 (by decide)) (fun c17 => ?_)
        refine v_bipush (n := -13) ok rfl dX10_item_39 ?_
        exact v_iret ok rt dX10_item_41 (Or.inr (Or.inr (Or.inl (⟨rfl, rfl, (by omega), (by omega), (by omega)⟩))))
    · skip
      refine v_bipush (n := -11) ok rfl dX10_item_18 ?_
      exact v_iret ok rt dX10_item_20 (Or.inr (Or.inl (⟨rfl, rfl, (by omega), (by omega)⟩)))
  · skip
    subst M3
    show V z g 5 M [(0, rf g 78), (1, iv t), (2, iv i), (3, jv v)] [iv 0] 4
    refine v_if_ne (tgt := 9) ok (by decide) dX10_item_4 (by decide) (fun c18 => absurd c18 (by decide)) (fun c18 => ?_)
    refine v_iconst (n := -1) ok dX10_item_7 ?_
    exact v_iret ok rt dX10_item_8 (Or.inl (⟨rfl, rfl, (by omega)⟩))

theorem mk_X10_peek_54 : Cond.fieldLink RX10 54 "StormRunoffModel" "sizes" "[I" ∈ wsX10_peek := by decide +kernel
theorem mi_X10_peek_10 : ∀ w ∈ wsX100, w ∈ wsX10_peek := by decide +kernel
theorem mk_X10_peek_57 : Cond.fieldLink RX10 57 "StormRunoffModel" "items" "[J" ∈ wsX10_peek := by decide +kernel
theorem mk_X10_peek_234 : Cond.constantLong RX10 234 (-9223372036854775808) ∈ wsX10_peek := by decide +kernel
set_option maxRecDepth 100000 in
set_option maxHeartbeats 400000 in
theorem ct_X10_peek (l : Launch) (g : Gl) (M : Mem) (t i : Int) (ht : i32 t) (hi : i32 i) (htp : TpW (M 92) (M 93) (M 94)) : Ct l g yX10_peek wsX10_peek 2 45 [rf g 78, iv t, iv i] M (fun rv M' => (rv = some (jv (-9223372036854775808)) ∧ M' = M ∧ (¬ (0 ≤ t ∧ t ≤ 5) ∨ ((0 ≤ t ∧ t ≤ 5) ∧ ¬ (0 ≤ i ∧ i < M 93 t)))) ∨ (rv = some (jv (tpI (M 94) t i)) ∧ M' = M ∧ (0 ≤ t ∧ t ≤ 5) ∧ (0 ≤ i ∧ i < M 93 t))) := by
  refine Ct.of (cc := cX10_peek) (nL := 3) (ret := (some .long)) (by decide) rfl (Nat.le_of_ble_eq_true rfl) (fun z hz ok rt => ?_)
  have ok : Ok z g cX10_peek 3 RX10 wsX10_peek 2 45 := ok
  show V z g 3 M [(0, rf g 78), (1, iv t), (2, iv i)] [] 0
  refine v_iload_n ok 1 dX10_peek_0 rfl rfl ?_
  refine v_callS (na := 1) ok (ct_X10_isTape z.2.1 g M t ⟨by omega, by omega⟩) gX10_peek_X10_isTape rfl (by decide +kernel) rfl (by decide) [] rfl (Nat.le_of_ble_eq_true rfl) dX10_peek_1 (fun v2 M3 hp1 => ?_)
  rcases hp1 with ⟨rfl, eM3, h4⟩ | ⟨rfl, eM3, h5⟩
  · skip
    subst M3
    show V z g 3 M [(0, rf g 78), (1, iv t), (2, iv i)] [iv 1] 4
    refine v_if_eq (tgt := 39) ok (by decide) dX10_peek_4 (by decide) (fun c6 => absurd c6 (by decide)) (fun c6 => ?_)
    have htq := htp t (by omega) (by omega)
    refine v_iload_n ok 2 dX10_peek_7 rfl rfl ?_
    refine v_i2l ok ⟨by omega, by omega⟩ dX10_peek_8 ?_
    refine v_lconst (n := 0) ok rfl dX10_peek_9 ?_
    refine v_aload_n ok 0 dX10_peek_10 rfl rfl ?_
    refine v_get (T := TX10) (N := 22) (f0 := (M 78)) (v := rf g 93) ok mi_X10_peek_10 (kd_lt (show kd 78 = 10 from rfl) (by decide)) rfl rfl (cellF_10 _ (by decide)) 20 (by decide) mk_X10_peek_54 rfl rfl dX10_peek_11 ?_
    refine v_iload_n ok 1 dX10_peek_14 rfl rfl ?_
    refine v_iald (n := 6) (f0 := (M 93)) ok (by decide) rfl (by omega) rfl dX10_peek_15 ?_
    refine v_iconst (n := 1) ok dX10_peek_16 ?_
    refine v_isub ok dX10_peek_17 ?_
    refine v_i2l ok ⟨by omega, by omega⟩ dX10_peek_18 ?_
    refine v_callS (na := 3) ok (ct_X10_in z.2.1 g M i 0 ((M 93 t) - 1) ⟨by omega, by omega⟩ (by decide) ⟨by omega, by omega⟩) gX10_peek_X10_in rfl (by decide +kernel) rfl (by decide) [] rfl (Nat.le_of_ble_eq_true rfl) dX10_peek_19 (fun v8 M9 hp7 => ?_)
    rcases hp7 with ⟨rfl, eM9, h10⟩ | ⟨rfl, eM9, h11⟩
    · skip
      subst M9
      show V z g 3 M [(0, rf g 78), (1, iv t), (2, iv i)] [iv 1] 22
      refine v_if_eq (tgt := 39) ok (by decide) dX10_peek_22 (by decide) (fun c12 => absurd c12 (by decide)) (fun c12 => ?_)
      refine v_aload_n ok 0 dX10_peek_25 rfl rfl ?_
      refine v_get (T := TX10) (N := 22) (f0 := (M 78)) (v := rf g 94) ok mi_X10_peek_10 (kd_lt (show kd 78 = 10 from rfl) (by decide)) rfl rfl (cellF_10 _ (by decide)) 21 (by decide) mk_X10_peek_57 rfl rfl dX10_peek_26 ?_
      refine v_bipush (n := 60) ok rfl dX10_peek_29 ?_
      refine v_iload_n ok 1 dX10_peek_31 rfl rfl ?_
      refine v_imul ok dX10_peek_32 ?_
      refine v_iload_n ok 2 dX10_peek_33 rfl rfl ?_
      refine v_iadd ok dX10_peek_34 ?_
      refine v_lald (n := 360) (f0 := (M 94)) ok (by decide) rfl (by omega) rfl dX10_peek_35 ?_
      refine v_goto (tgt := 42) ok dX10_peek_36 (by decide) ?_
      exact v_lret ok rt dX10_peek_42 (Or.inr (⟨(congrArg (fun q : Int => some (jv q)) (show (M 94 ((60 * t) + i)) = (tpI (M 94) t i) from by rfl)), rfl, (by omega), (by omega)⟩))
    · skip
      subst M9
      show V z g 3 M [(0, rf g 78), (1, iv t), (2, iv i)] [iv 0] 22
      refine v_if_eq (tgt := 39) ok (by decide) dX10_peek_22 (by decide) (fun c13 => ?_) (fun c13 => absurd c13 (by decide))
      refine v_ldc2 (n := -9223372036854775808) ok mk_X10_peek_234 rfl dX10_peek_39 ?_
      exact v_lret ok rt dX10_peek_42 (Or.inl (⟨rfl, rfl, (by omega)⟩))
  · skip
    subst M3
    show V z g 3 M [(0, rf g 78), (1, iv t), (2, iv i)] [iv 0] 4
    refine v_if_eq (tgt := 39) ok (by decide) dX10_peek_4 (by decide) (fun c14 => ?_) (fun c14 => absurd c14 (by decide))
    refine v_ldc2 (n := -9223372036854775808) ok mk_X10_peek_234 rfl dX10_peek_39 ?_
    exact v_lret ok rt dX10_peek_42 (Or.inl (⟨rfl, rfl, (by omega)⟩))

theorem mk_X10_shift_51 : Cond.fieldLink RX10 51 "StormRunoffModel" "sorts" "[I" ∈ wsX10_shift := by decide +kernel
theorem mi_X10_shift_10 : ∀ w ∈ wsX100, w ∈ wsX10_shift := by decide +kernel
theorem mk_X10_shift_54 : Cond.fieldLink RX10 54 "StormRunoffModel" "sizes" "[I" ∈ wsX10_shift := by decide +kernel
theorem mk_X10_shift_57 : Cond.fieldLink RX10 57 "StormRunoffModel" "items" "[J" ∈ wsX10_shift := by decide +kernel
set_option maxRecDepth 100000 in
set_option maxHeartbeats 400000 in
theorem ct_X10_shift (l : Launch) (g : Gl) (M : Mem) (t i o j n : Int) (ht : i32 t) (hi : i32 i) (ho : i32 o) (hj : i32 j) (hn : i32 n) (htp : TpW (M 92) (M 93) (M 94)) : Ct l g yX10_shift wsX10_shift 2 45 [rf g 78, iv t, iv i, iv o, iv j, iv n] M (fun rv M' => (rv = some (iv (-1)) ∧ M' = M ∧ (¬ (0 ≤ t ∧ t ≤ 5) ∨ ¬ (0 ≤ o ∧ o ≤ 5))) ∨ (rv = some (iv (-11)) ∧ M' = M ∧ (0 ≤ t ∧ t ≤ 5) ∧ (0 ≤ o ∧ o ≤ 5) ∧ (M 92 t < 0 ∨ M 92 o < 0)) ∨ (rv = some (iv (-12)) ∧ M' = M ∧ (0 ≤ t ∧ t ≤ 5) ∧ (0 ≤ o ∧ o ≤ 5) ∧ (0 ≤ M 92 t ∧ 0 ≤ M 92 o ∧ M 92 t ≠ M 92 o)) ∨ (rv = some (iv (-13)) ∧ M' = M ∧ (0 ≤ t ∧ t ≤ 5) ∧ (0 ≤ o ∧ o ≤ 5) ∧ (0 ≤ M 92 t ∧ M 92 t = M 92 o) ∧ (¬ (0 ≤ n ∧ 0 ≤ i ∧ i + n ≤ M 93 t) ∨ ¬ (0 ≤ n ∧ 0 ≤ j ∧ j + n ≤ M 93 o))) ∨ (rv = some (iv n) ∧ M' = (up1 M 94 (shI (M 94) t i o j n)) ∧ (0 ≤ t ∧ t ≤ 5) ∧ (0 ≤ o ∧ o ≤ 5) ∧ (0 ≤ M 92 t ∧ M 92 t = M 92 o) ∧ ((0 ≤ n ∧ 0 ≤ i ∧ i + n ≤ M 93 t) ∧ (0 ≤ n ∧ 0 ≤ j ∧ j + n ≤ M 93 o)))) := by
  refine Ct.of (cc := cX10_shift) (nL := 8) (ret := (some .int)) (by decide) rfl (Nat.le_of_ble_eq_true rfl) (fun z hz ok rt => ?_)
  have ok : Ok z g cX10_shift 8 RX10 wsX10_shift 2 45 := ok
  show V z g 8 M [(0, rf g 78), (1, iv t), (2, iv i), (3, iv o), (4, iv j), (5, iv n)] [] 0
  refine v_iload_n ok 1 dX10_shift_0 rfl rfl ?_
  refine v_callS (na := 1) ok (ct_X10_isTape z.2.1 g M t ⟨by omega, by omega⟩) gX10_shift_X10_isTape rfl (by decide +kernel) rfl (by decide) [] rfl (Nat.le_of_ble_eq_true rfl) dX10_shift_1 (fun v2 M3 hp1 => ?_)
  rcases hp1 with ⟨rfl, eM3, h4⟩ | ⟨rfl, eM3, h5⟩
  · skip
    subst M3
    show V z g 8 M [(0, rf g 78), (1, iv t), (2, iv i), (3, iv o), (4, iv j), (5, iv n)] [iv 1] 4
    refine v_if_eq (tgt := 14) ok (by decide) dX10_shift_4 (by decide) (fun c6 => absurd c6 (by decide)) (fun c6 => ?_)
    refine v_iload_n ok 3 dX10_shift_7 rfl rfl ?_
    refine v_callS (na := 1) ok (ct_X10_isTape z.2.1 g M o ⟨by omega, by omega⟩) gX10_shift_X10_isTape rfl (by decide +kernel) rfl (by decide) [] rfl (Nat.le_of_ble_eq_true rfl) dX10_shift_8 (fun v8 M9 hp7 => ?_)
    rcases hp7 with ⟨rfl, eM9, h10⟩ | ⟨rfl, eM9, h11⟩
    · skip
      subst M9
      show V z g 8 M [(0, rf g 78), (1, iv t), (2, iv i), (3, iv o), (4, iv j), (5, iv n)] [iv 1] 11
      refine v_if_ne (tgt := 16) ok (by decide) dX10_shift_11 (by decide) (fun c12 => ?_) (fun c12 => absurd c12 (by decide))
      have htq := htp t (by omega) (by omega)
      have htq2 := htp o (by omega) (by omega)
      have hz1 := htq.2.1
      have hz2 := htq2.2.1
      refine v_aload_n ok 0 dX10_shift_16 rfl rfl ?_
      refine v_get (T := TX10) (N := 22) (f0 := (M 78)) (v := rf g 92) ok mi_X10_shift_10 (kd_lt (show kd 78 = 10 from rfl) (by decide)) rfl rfl (cellF_10 _ (by decide)) 19 (by decide) mk_X10_shift_51 rfl rfl dX10_shift_17 ?_
      refine v_iload_n ok 1 dX10_shift_20 rfl rfl ?_
      refine v_iald (n := 6) (f0 := (M 92)) ok (by decide) rfl (by omega) rfl dX10_shift_21 ?_
      refine v_if_lt (tgt := 34) ok ⟨by omega, by omega⟩ dX10_shift_22 (by decide) (fun c13 => ?_) (fun c13 => ?_)
      · skip
        refine v_bipush (n := -11) ok rfl dX10_shift_34 ?_
        exact v_iret ok rt dX10_shift_36 (Or.inr (Or.inl (⟨rfl, rfl, (by omega), (by omega), (by omega)⟩)))
      · skip
        refine v_aload_n ok 0 dX10_shift_25 rfl rfl ?_
        refine v_get (T := TX10) (N := 22) (f0 := (M 78)) (v := rf g 92) ok mi_X10_shift_10 (kd_lt (show kd 78 = 10 from rfl) (by decide)) rfl rfl (cellF_10 _ (by decide)) 19 (by decide) mk_X10_shift_51 rfl rfl dX10_shift_26 ?_
        refine v_iload_n ok 3 dX10_shift_29 rfl rfl ?_
        refine v_iald (n := 6) (f0 := (M 92)) ok (by decide) rfl (by omega) rfl dX10_shift_30 ?_
        refine v_if_ge (tgt := 37) ok ⟨by omega, by omega⟩ dX10_shift_31 (by decide) (fun c14 => ?_) (fun c14 => ?_)
        · skip
          refine v_aload_n ok 0 dX10_shift_37 rfl rfl ?_
          refine v_get (T := TX10) (N := 22) (f0 := (M 78)) (v := rf g 92) ok mi_X10_shift_10 (kd_lt (show kd 78 = 10 from rfl) (by decide)) rfl rfl (cellF_10 _ (by decide)) 19 (by decide) mk_X10_shift_51 rfl rfl dX10_shift_38 ?_
          refine v_iload_n ok 1 dX10_shift_41 rfl rfl ?_
          refine v_iald (n := 6) (f0 := (M 92)) ok (by decide) rfl (by omega) rfl dX10_shift_42 ?_
          refine v_aload_n ok 0 dX10_shift_43 rfl rfl ?_
          refine v_get (T := TX10) (N := 22) (f0 := (M 78)) (v := rf g 92) ok mi_X10_shift_10 (kd_lt (show kd 78 = 10 from rfl) (by decide)) rfl rfl (cellF_10 _ (by decide)) 19 (by decide) mk_X10_shift_51 rfl rfl dX10_shift_44 ?_
          refine v_iload_n ok 3 dX10_shift_47 rfl rfl ?_
          refine v_iald (n := 6) (f0 := (M 92)) ok (by decide) rfl (by omega) rfl dX10_shift_48 ?_
          refine v_icmp_eq (tgt := 55) ok ⟨by omega, by omega⟩ ⟨by omega, by omega⟩ dX10_shift_49 (by decide) (fun c15 => ?_) (fun c15 => ?_)
          · skip
            refine v_iload ok 5 dX10_shift_55 rfl ?_
            refine v_if_lt (tgt := 96) ok ⟨by omega, by omega⟩ dX10_shift_57 (by decide) (fun c16 => ?_) (fun c16 => ?_)
            · skip
              refine v_bipush (n := -13) ok rfl dX10_shift_96 ?_
              exact v_iret ok rt dX10_shift_98 (Or.inr (Or.inr (Or.inr (Or.inl (⟨rfl, rfl, (by omega), (by omega), (by omega), (by omega)⟩)))))
            · skip
              refine v_iload_n ok 2 dX10_shift_60 rfl rfl ?_
              refine v_if_lt (tgt := 96) ok ⟨by omega, by omega⟩ dX10_shift_61 (by decide) (fun c17 => ?_) (fun c17 => ?_)
              · skip
                refine v_bipush (n := -13) ok rfl dX10_shift_96 ?_
                exact v_iret ok rt dX10_shift_98 (Or.inr (Or.inr (Or.inr (Or.inl (⟨rfl, rfl, (by omega), (by omega), (by omega), (by omega)⟩)))))
              · skip
                refine v_iload ok 4 dX10_shift_64 rfl ?_
                refine v_if_lt (tgt := 96) ok ⟨by omega, by omega⟩ dX10_shift_66 (by decide) (fun c18 => ?_) (fun c18 => ?_)
                · skip
                  refine v_bipush (n := -13) ok rfl dX10_shift_96 ?_
                  exact v_iret ok rt dX10_shift_98 (Or.inr (Or.inr (Or.inr (Or.inl (⟨rfl, rfl, (by omega), (by omega), (by omega), (by omega)⟩)))))
                · skip
                  refine v_iload_n ok 2 dX10_shift_69 rfl rfl ?_
                  refine v_aload_n ok 0 dX10_shift_70 rfl rfl ?_
                  refine v_get (T := TX10) (N := 22) (f0 := (M 78)) (v := rf g 93) ok mi_X10_shift_10 (kd_lt (show kd 78 = 10 from rfl) (by decide)) rfl rfl (cellF_10 _ (by decide)) 20 (by decide) mk_X10_shift_54 rfl rfl dX10_shift_71 ?_
                  refine v_iload_n ok 1 dX10_shift_74 rfl rfl ?_
                  refine v_iald (n := 6) (f0 := (M 93)) ok (by decide) rfl (by omega) rfl dX10_shift_75 ?_
                  refine v_iload ok 5 dX10_shift_76 rfl ?_
                  refine v_isub ok dX10_shift_78 ?_
                  refine v_icmp_gt (tgt := 96) ok ⟨by omega, by omega⟩ ⟨by omega, by omega⟩ dX10_shift_79 (by decide) (fun c19 => ?_) (fun c19 => ?_)
                  · skip
                    refine v_bipush (n := -13) ok rfl dX10_shift_96 ?_
                    exact v_iret ok rt dX10_shift_98 (Or.inr (Or.inr (Or.inr (Or.inl (⟨rfl, rfl, (by omega), (by omega), (by omega), (by omega)⟩)))))
                  · skip
                    refine v_iload ok 4 dX10_shift_82 rfl ?_
                    refine v_aload_n ok 0 dX10_shift_84 rfl rfl ?_
                    refine v_get (T := TX10) (N := 22) (f0 := (M 78)) (v := rf g 93) ok mi_X10_shift_10 (kd_lt (show kd 78 = 10 from rfl) (by decide)) rfl rfl (cellF_10 _ (by decide)) 20 (by decide) mk_X10_shift_54 rfl rfl dX10_shift_85 ?_
                    refine v_iload_n ok 3 dX10_shift_88 rfl rfl ?_
                    refine v_iald (n := 6) (f0 := (M 93)) ok (by decide) rfl (by omega) rfl dX10_shift_89 ?_
                    refine v_iload ok 5 dX10_shift_90 rfl ?_
                    refine v_isub ok dX10_shift_92 ?_
                    refine v_icmp_le (tgt := 99) ok ⟨by omega, by omega⟩ ⟨by omega, by omega⟩ dX10_shift_93 (by decide) (fun c20 => ?_) (fun c20 => ?_)
                    · skip
                      refine v_iconst (n := 0) ok dX10_shift_99 ?_
                      refine v_istore ok [(6, iv 0), (0, rf g 78), (1, iv t), (2, iv i), (3, iv o), (4, iv j), (5, iv n)] dX10_shift_100 (by decide) rfl ?_
                      have lp102 : ∀ (fu : Nat) (k x : Int) (G : Int → Int), (0 ≤ k ∧ k ≤ n) → (∀ q : Int, G q = if 60 * o + j ≤ q ∧ q < 60 * o + j + n ∧ ((i < j ∧ 60 * o + j + n - k ≤ q) ∨ (¬ i < j ∧ q < 60 * o + j + k)) then M 94 (60 * t + i + (q - 60 * o - j)) else M 94 q) → (n - k).toNat < fu → V z g 8 (up1 M 94 G) [(0, rf g 78), (1, iv t), (2, iv i), (3, iv o), (4, iv j), (5, iv n), (6, iv k)] [] 102 := by
                        intro fu
                        induction fu with
                        | zero => intro k x G _ _ hm; exact absurd hm (Nat.not_lt_zero _)
                        | succ fu ih102 =>
                          intro k x G i102_0 i102_1 hm102
                          refine v_iload ok 6 dX10_shift_102 rfl ?_
                          refine v_iload ok 5 dX10_shift_104 rfl ?_
                          refine v_icmp_ge (tgt := 164) ok ⟨by omega, by omega⟩ ⟨by omega, by omega⟩ dX10_shift_106 (by decide) (fun c21 => ?_) (fun c21 => ?_)
                          · skip
                            refine v_cong (n := 360) (shI (M 94) t i o j n) (Or.inr (by decide)) rfl (fun q q0 q1 => by
                                rw [i102_1 q]; unfold shI
                                by_cases c9 : 60 * o + j ≤ q ∧ q < 60 * o + j + n
                                · rw [if_pos c9, if_pos (by omega)]
                                · rw [if_neg c9, if_neg (by omega)]) ?_
                            refine v_iload ok 5 dX10_shift_164 rfl ?_
                            exact v_iret ok rt dX10_shift_166 (Or.inr (Or.inr (Or.inr (Or.inr (⟨rfl, rfl, (by omega), (by omega), (by omega), (by omega)⟩)))))
                          · skip
                            refine v_iload_n ok 2 dX10_shift_109 rfl rfl ?_
                            refine v_iload ok 4 dX10_shift_110 rfl ?_
                            refine v_icmp_ge (tgt := 125) ok ⟨by omega, by omega⟩ ⟨by omega, by omega⟩ dX10_shift_112 (by decide) (fun c22 => ?_) (fun c22 => ?_)
                            · skip
                              refine v_iload ok 6 dX10_shift_125 rfl ?_
                              refine v_istore ok [(7, iv k), (0, rf g 78), (1, iv t), (2, iv i), (3, iv o), (4, iv j), (5, iv n), (6, iv k)] dX10_shift_127 (by decide) rfl ?_
                              refine v_aload_n ok 1 dX10_shift_129 rfl rfl ?_
                              refine v_get (T := TX10) (N := 22) (f0 := (M 78)) (v := rf g 94) ok mi_X10_shift_10 (kd_lt (show kd 78 = 10 from rfl) (by decide)) rfl rfl (cellF_10 _ (by decide)) 21 (by decide) mk_X10_shift_57 rfl rfl dX10_shift_130 ?_
                              refine v_bipush (n := 60) ok rfl dX10_shift_133 ?_
                              refine v_iload_n ok 4 dX10_shift_135 rfl rfl ?_
                              refine v_imul ok dX10_shift_136 ?_
                              refine v_iload ok 5 dX10_shift_137 rfl ?_
                              refine v_iadd ok dX10_shift_139 ?_
                              refine v_iload ok 0 dX10_shift_140 rfl ?_
                              refine v_iadd ok dX10_shift_142 ?_
                              refine v_aload_n ok 1 dX10_shift_143 rfl rfl ?_
                              refine v_get (T := TX10) (N := 22) (f0 := (M 78)) (v := rf g 94) ok mi_X10_shift_10 (kd_lt (show kd 78 = 10 from rfl) (by decide)) rfl rfl (cellF_10 _ (by decide)) 21 (by decide) mk_X10_shift_57 rfl rfl dX10_shift_144 ?_
                              refine v_bipush (n := 60) ok rfl dX10_shift_147 ?_
                              refine v_iload_n ok 2 dX10_shift_149 rfl rfl ?_
                              refine v_imul ok dX10_shift_150 ?_
                              refine v_iload_n ok 3 dX10_shift_151 rfl rfl ?_
                              refine v_iadd ok dX10_shift_152 ?_
                              refine v_iload ok 0 dX10_shift_153 rfl ?_
                              refine v_iadd ok dX10_shift_155 ?_
                              refine v_lald (n := 360) (f0 := G) ok (by decide) rfl (by omega) rfl dX10_shift_156 ?_
                              refine v_last (n := 360) (f0 := G) ok (by decide) rfl (by omega) rfl dX10_shift_157 ?_
                              rw [up1_up1]
                              have hb9 : ∀ q : Int, (up G (((60 * o) + j) + k) (G (((60 * t) + i) + k))) q = if 60 * o + j ≤ q ∧ q < 60 * o + j + n ∧ ((i < j ∧ 60 * o + j + n - (k + 1) ≤ q) ∨ (¬ i < j ∧ q < 60 * o + j + (k + 1))) then M 94 (60 * t + i + (q - 60 * o - j)) else M 94 q := by
                                intro q
                                by_cases e9 : q = 60 * o + j + k
                                · rw [e9, up_same, i102_1, if_neg (by omega), if_pos (by omega)]
                                  congr 1; omega
                                · rw [up_ne e9, i102_1 q]
                                  by_cases c9 : 60 * o + j ≤ q ∧ q < 60 * o + j + n ∧ ((i < j ∧ 60 * o + j + n - k ≤ q) ∨ (¬ i < j ∧ q < 60 * o + j + k))
                                  · rw [if_pos c9, if_pos (by omega)]
                                  · rw [if_neg c9, if_neg (by omega)]
                              refine v_iinc ok 7 [(6, iv (k + 1)), (7, iv k), (0, rf g 78), (1, iv t), (2, iv i), (3, iv o), (4, iv j), (5, iv n)] dX10_shift_158 rfl (by decide) rfl ?_
                              refine v_goto (tgt := 102) ok dX10_shift_161 (by decide) ?_
                              refine v_lv (ls' := [(0, rf g 78), (1, iv t), (2, iv i), (3, iv o), (4, iv j), (5, iv n), (6, iv (k + 1))]) ok [2, 3, 4, 5, 6, 7, 0] rfl ?_
                              exact ih102 (k + 1) 0 (up G (((60 * o) + j) + k) (G (((60 * t) + i) + k))) (by omega) hb9 (by omega)
                            · skip
                              refine v_iload ok 5 dX10_shift_115 rfl ?_
                              refine v_iconst (n := 1) ok dX10_shift_117 ?_
                              refine v_isub ok dX10_shift_118 ?_
                              refine v_iload ok 6 dX10_shift_119 rfl ?_
                              refine v_isub ok dX10_shift_121 ?_
                              refine v_goto (tgt := 127) ok dX10_shift_122 (by decide) ?_
                              refine v_istore ok [(7, iv ((n - 1) - k)), (0, rf g 78), (1, iv t), (2, iv i), (3, iv o), (4, iv j), (5, iv n), (6, iv k)] dX10_shift_127 (by decide) rfl ?_
                              refine v_aload_n ok 1 dX10_shift_129 rfl rfl ?_
                              refine v_get (T := TX10) (N := 22) (f0 := (M 78)) (v := rf g 94) ok mi_X10_shift_10 (kd_lt (show kd 78 = 10 from rfl) (by decide)) rfl rfl (cellF_10 _ (by decide)) 21 (by decide) mk_X10_shift_57 rfl rfl dX10_shift_130 ?_
                              refine v_bipush (n := 60) ok rfl dX10_shift_133 ?_
                              refine v_iload_n ok 4 dX10_shift_135 rfl rfl ?_
                              refine v_imul ok dX10_shift_136 ?_
                              refine v_iload ok 5 dX10_shift_137 rfl ?_
                              refine v_iadd ok dX10_shift_139 ?_
                              refine v_iload ok 0 dX10_shift_140 rfl ?_
                              refine v_iadd ok dX10_shift_142 ?_
                              refine v_aload_n ok 1 dX10_shift_143 rfl rfl ?_
                              refine v_get (T := TX10) (N := 22) (f0 := (M 78)) (v := rf g 94) ok mi_X10_shift_10 (kd_lt (show kd 78 = 10 from rfl) (by decide)) rfl rfl (cellF_10 _ (by decide)) 21 (by decide) mk_X10_shift_57 rfl rfl dX10_shift_144 ?_
                              refine v_bipush (n := 60) ok rfl dX10_shift_147 ?_
                              refine v_iload_n ok 2 dX10_shift_149 rfl rfl ?_
                              refine v_imul ok dX10_shift_150 ?_
                              refine v_iload_n ok 3 dX10_shift_151 rfl rfl ?_
                              refine v_iadd ok dX10_shift_152 ?_
                              refine v_iload ok 0 dX10_shift_153 rfl ?_
                              refine v_iadd ok dX10_shift_155 ?_
                              refine v_lald (n := 360) (f0 := G) ok (by decide) rfl (by omega) rfl dX10_shift_156 ?_
                              refine v_last (n := 360) (f0 := G) ok (by decide) rfl (by omega) rfl dX10_shift_157 ?_
                              rw [up1_up1]
                              have hb9 : ∀ q : Int, (up G (((60 * o) + j) + ((n - 1) - k)) (G (((60 * t) + i) + ((n - 1) - k)))) q = if 60 * o + j ≤ q ∧ q < 60 * o + j + n ∧ ((i < j ∧ 60 * o + j + n - (k + 1) ≤ q) ∨ (¬ i < j ∧ q < 60 * o + j + (k + 1))) then M 94 (60 * t + i + (q - 60 * o - j)) else M 94 q := by
                                intro q
                                by_cases e9 : q = 60 * o + j + ((n - 1) - k)
                                · rw [e9, up_same, i102_1, if_neg (by omega), if_pos (by omega)]
                                  congr 1; omega
                                · rw [up_ne e9, i102_1 q]
                                  by_cases c9 : 60 * o + j ≤ q ∧ q < 60 * o + j + n ∧ ((i < j ∧ 60 * o + j + n - k ≤ q) ∨ (¬ i < j ∧ q < 60 * o + j + k))
                                  · rw [if_pos c9, if_pos (by omega)]
                                  · rw [if_neg c9, if_neg (by omega)]
                              refine v_iinc ok 7 [(6, iv (k + 1)), (7, iv ((n - 1) - k)), (0, rf g 78), (1, iv t), (2, iv i), (3, iv o), (4, iv j), (5, iv n)] dX10_shift_158 rfl (by decide) rfl ?_
                              refine v_goto (tgt := 102) ok dX10_shift_161 (by decide) ?_
                              refine v_lv (ls' := [(0, rf g 78), (1, iv t), (2, iv i), (3, iv o), (4, iv j), (5, iv n), (6, iv (k + 1))]) ok [2, 3, 4, 5, 6, 7, 0] rfl ?_
                              exact ih102 (k + 1) 0 (up G (((60 * o) + j) + ((n - 1) - k)) (G (((60 * t) + i) + ((n - 1) - k)))) (by omega) hb9 (by omega)
                      refine v_lv (ls' := [(0, rf g 78), (1, iv t), (2, iv i), (3, iv o), (4, iv j), (5, iv n), (6, iv 0)]) ok [1, 2, 3, 4, 5, 6, 0] rfl ?_
                      rw [show (M : Mem) = (up1 M 94 (M 94)) from (by
                            funext j
                            by_cases hj0 : j = 94
                            · subst hj0; simp [up1, up1_self]
                            simp [up1, hj0])]
                      exact lp102 _ 0 0 (M 94) (by omega) (fun q => by rw [if_neg (by omega)]) (Nat.lt_succ_self _)
                    · skip
                      refine v_bipush (n := -13) ok rfl dX10_shift_96 ?_
                      exact v_iret ok rt dX10_shift_98 (Or.inr (Or.inr (Or.inr (Or.inl (⟨rfl, rfl, (by omega), (by omega), (by omega), (by omega)⟩)))))
          · skip
            refine v_bipush (n := -12) ok rfl dX10_shift_52 ?_
            exact v_iret ok rt dX10_shift_54 (Or.inr (Or.inr (Or.inl (⟨rfl, rfl, (by omega), (by omega), (by omega)⟩))))
        · skip
          refine v_bipush (n := -11) ok rfl dX10_shift_34 ?_
          exact v_iret ok rt dX10_shift_36 (Or.inr (Or.inl (⟨rfl, rfl, (by omega), (by omega), (by omega)⟩)))
    · skip
      subst M9
      show V z g 8 M [(0, rf g 78), (1, iv t), (2, iv i), (3, iv o), (4, iv j), (5, iv n)] [iv 0] 11
      refine v_if_ne (tgt := 16) ok (by decide) dX10_shift_11 (by decide) (fun c23 => absurd c23 (by decide)) (fun c23 => ?_)
      refine v_iconst (n := -1) ok dX10_shift_14 ?_
      exact v_iret ok rt dX10_shift_15 (Or.inl (⟨rfl, rfl, (by omega)⟩))
  · skip
    subst M3
    show V z g 8 M [(0, rf g 78), (1, iv t), (2, iv i), (3, iv o), (4, iv j), (5, iv n)] [iv 0] 4
    refine v_if_eq (tgt := 14) ok (by decide) dX10_shift_4 (by decide) (fun c24 => ?_) (fun c24 => absurd c24 (by decide))
    refine v_iconst (n := -1) ok dX10_shift_14 ?_
    exact v_iret ok rt dX10_shift_15 (Or.inl (⟨rfl, rfl, (by omega)⟩))
