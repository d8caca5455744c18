theorem mk_X10_rains_24 : Cond.fieldLink RX10 24 "StormRunoffModel" "read" "[I" ∈ wsX10_rains := by decide +kernel
theorem mi_X10_rains_10 : ∀ w ∈ wsX100, w ∈ wsX10_rains := by decide +kernel
theorem mk_X10_rains_11 : Cond.fieldLink RX10 11 "StormRunoffModel" "w" "[I" ∈ wsX10_rains := by decide +kernel
set_option maxRecDepth 100000 in
set_option maxHeartbeats 400000 in
theorem ct_X10_rains (l : Launch) (g : Gl) (M : Mem) (c : Int) (hc : 0 ≤ c ∧ c ≤ 154) (hn : 0 ≤ M 83 (c + 1) ∧ M 83 (c + 1) ≤ 12) (hV : bdf (rdV (M 83) c) (M 83 (c + 1)) 0 999) : Ct l g yX10_rains wsX10_rains 0 0 [rf g 78, iv c] M (fun rv M' => (rv = some (iv 0) ∧ M' = M ∧ (cab (rdV (M 83) c) 20 (M 83 (c + 1)).toNat ≠ 0)) ∨ (rv = some (iv 1) ∧ M' = (up1 M 79 (lay (cpN (rdV (M 83) c) (M 83 (c + 1))) (M 79))) ∧ (cab (rdV (M 83) c) 20 (M 83 (c + 1)).toNat = 0))) := by
  refine Ct.of (cc := cX10_rains) (nL := 3) (ret := (some .boolean)) (by decide) rfl (Nat.le_of_ble_eq_true rfl) (fun z hz ok rt => ?_)
  have ok : Ok z g cX10_rains 3 RX10 wsX10_rains 0 0 := ok
  show V z g 3 M [(0, rf g 78), (1, iv c)] [] 0
  refine v_iconst (n := 0) ok dX10_rains_0 ?_
  refine v_istore_n ok [(2, iv 0), (0, rf g 78), (1, iv c)] dX10_rains_1 rfl (by decide) rfl ?_
  have lp2 : ∀ (fu : Nat) (k : Int), (0 ≤ k ∧ k ≤ (M 83 (c + 1))) → (∀ j : Int, 0 ≤ j → j < k → (rdV (M 83) c) j ≤ 20) → ((M 83 (c + 1)) - k).toNat < fu → V z g 3 M [(0, rf g 78), (1, iv c), (2, iv k)] [] 2 := by
    intro fu
    induction fu with
    | zero => intro k _ _ hm; exact absurd hm (Nat.not_lt_zero _)
    | succ fu ih2 =>
      intro k i2_0 i2_1 hm2
      refine v_iload_n ok 2 dX10_rains_2 rfl rfl ?_
      refine v_aload_n ok 0 dX10_rains_3 rfl rfl ?_
      refine v_get (T := TX10) (N := 22) (f0 := (M 78)) (v := rf g 83) ok mi_X10_rains_10 (kd_lt (show kd 78 = 10 from rfl) (by decide)) rfl rfl (cellF_10 _ (by decide)) 8 (by decide) mk_X10_rains_24 rfl rfl dX10_rains_4 ?_
      refine v_iload_n ok 1 dX10_rains_7 rfl rfl ?_
      refine v_iconst (n := 1) ok dX10_rains_8 ?_
      refine v_iadd ok dX10_rains_9 ?_
      refine v_iald (n := 168) (f0 := (M 83)) ok (by decide) rfl (by omega) rfl dX10_rains_10 ?_
      refine v_icmp_ge (tgt := 37) ok ⟨by omega, by omega⟩ ⟨by omega, by omega⟩ dX10_rains_11 (by decide) (fun c1 => ?_) (fun c1 => ?_)
      · skip
        have hall : cab (rdV (M 83) c) 20 (M 83 (c + 1)).toNat = 0 := cab_0.mpr (fun j j0 j1 => i2_1 j j0 (by omega))
        refine v_iconst (n := 0) ok dX10_rains_37 ?_
        refine v_istore_n ok [(2, iv 0), (0, rf g 78), (1, iv c)] dX10_rains_38 rfl (by decide) rfl ?_
        have lp39 : ∀ (fu : Nat) (k : Int) (G : Int → Int), (0 ≤ k ∧ k ≤ 8) → (∀ j : Int, G j = if 0 ≤ j ∧ j < k then (cpN (rdV (M 83) c) (M 83 (c + 1))) (j) else M 79 j) → (8 - k).toNat < fu → V z g 3 (up1 M 79 G) [(0, rf g 78), (1, iv c), (2, iv k)] [] 39 := by
          intro fu
          induction fu with
          | zero => intro k G _ _ hm; exact absurd hm (Nat.not_lt_zero _)
          | succ fu ih39 =>
            intro k G i39_0 i39_1 hm39
            refine v_iload_n ok 2 dX10_rains_39 rfl rfl ?_
            refine v_bipush (n := 8) ok rfl dX10_rains_40 ?_
            refine v_icmp_ge (tgt := 83) ok ⟨by omega, by omega⟩ (by decide) dX10_rains_42 (by decide) (fun c2 => ?_) (fun c2 => ?_)
            · skip
              refine v_cong (n := 90) (lay (cpN (rdV (M 83) c) (M 83 (c + 1))) (M 79)) (Or.inl (by decide)) rfl (fun j j0 j1 => by rw [i39_1 j, show k = 8 by omega]; rfl) ?_
              refine v_iconst (n := 1) ok dX10_rains_83 ?_
              exact v_zret ok rt (by omega) dX10_rains_84 (Or.inr (⟨rfl, rfl, hall⟩))
            · skip
              refine v_aload_n ok 0 dX10_rains_45 rfl rfl ?_
              refine v_get (T := TX10) (N := 22) (f0 := (M 78)) (v := rf g 79) ok mi_X10_rains_10 (kd_lt (show kd 78 = 10 from rfl) (by decide)) rfl rfl (cellF_10 _ (by decide)) 0 (by decide) mk_X10_rains_11 rfl rfl dX10_rains_46 ?_
              refine v_iload_n ok 2 dX10_rains_49 rfl rfl ?_
              refine v_iload_n ok 2 dX10_rains_50 rfl rfl ?_
              refine v_aload_n ok 0 dX10_rains_51 rfl rfl ?_
              refine v_get (T := TX10) (N := 22) (f0 := (M 78)) (v := rf g 83) ok mi_X10_rains_10 (kd_lt (show kd 78 = 10 from rfl) (by decide)) rfl rfl (cellF_10 _ (by decide)) 8 (by decide) mk_X10_rains_24 rfl rfl dX10_rains_52 ?_
              refine v_iload_n ok 1 dX10_rains_55 rfl rfl ?_
              refine v_iconst (n := 1) ok dX10_rains_56 ?_
              refine v_iadd ok dX10_rains_57 ?_
              refine v_iald (n := 168) (f0 := (M 83)) ok (by decide) rfl (by omega) rfl dX10_rains_58 ?_
              refine v_icmp_ge (tgt := 75) ok ⟨by omega, by omega⟩ ⟨by omega, by omega⟩ dX10_rains_59 (by decide) (fun c3 => ?_) (fun c3 => ?_)
              · skip
                refine v_iconst (n := 0) ok dX10_rains_75 ?_
                refine v_iast (n := 90) (f0 := G) ok (by decide) rfl (by omega) rfl dX10_rains_76 ?_
                rw [up1_up1]
                refine v_iinc ok 2 [(2, iv (k + 1)), (0, rf g 78), (1, iv c)] dX10_rains_77 rfl (by decide) rfl ?_
                refine v_goto (tgt := 39) ok dX10_rains_80 (by decide) ?_
                refine v_lv (ls' := [(0, rf g 78), (1, iv c), (2, iv (k + 1))]) ok [1, 2, 0] rfl ?_
                exact ih39 (k + 1) (up G k 0) (by omega) (fun j => by
                    by_cases e9 : j = k
                    · rw [e9, up_same, if_pos (by omega)]; unfold cpN rdV; first | (rw [if_pos (by omega)]) | (rw [if_neg (by omega)])
                    · rw [up_ne e9, i39_1 j]
                      by_cases x9 : 0 ≤ j ∧ j < k
                      · rw [if_pos x9, if_pos (by omega)]
                      · rw [if_neg x9, if_neg (by omega)]) (by omega)
              · skip
                refine v_aload_n ok 0 dX10_rains_62 rfl rfl ?_
                refine v_get (T := TX10) (N := 22) (f0 := (M 78)) (v := rf g 83) ok mi_X10_rains_10 (kd_lt (show kd 78 = 10 from rfl) (by decide)) rfl rfl (cellF_10 _ (by decide)) 8 (by decide) mk_X10_rains_24 rfl rfl dX10_rains_63 ?_
                refine v_iload_n ok 1 dX10_rains_66 rfl rfl ?_
                refine v_iconst (n := 2) ok dX10_rains_67 ?_
                refine v_iadd ok dX10_rains_68 ?_
                refine v_iload_n ok 2 dX10_rains_69 rfl rfl ?_
                refine v_iadd ok dX10_rains_70 ?_
                refine v_iald (n := 168) (f0 := (M 83)) ok (by decide) rfl (by omega) rfl dX10_rains_71 ?_
                refine v_goto (tgt := 76) ok dX10_rains_72 (by decide) ?_
                refine v_iast (n := 90) (f0 := G) ok (by decide) rfl (by omega) rfl dX10_rains_76 ?_
                rw [up1_up1]
                refine v_iinc ok 2 [(2, iv (k + 1)), (0, rf g 78), (1, iv c)] dX10_rains_77 rfl (by decide) rfl ?_
                refine v_goto (tgt := 39) ok dX10_rains_80 (by decide) ?_
                refine v_lv (ls' := [(0, rf g 78), (1, iv c), (2, iv (k + 1))]) ok [1, 2, 0] rfl ?_
                exact ih39 (k + 1) (up G k (M 83 ((c + 2) + k))) (by omega) (fun j => by
                    by_cases e9 : j = k
                    · rw [e9, up_same, if_pos (by omega)]; unfold cpN rdV; first | (rw [if_pos (by omega)]) | (rw [if_neg (by omega)])
                    · rw [up_ne e9, i39_1 j]
                      by_cases x9 : 0 ≤ j ∧ j < k
                      · rw [if_pos x9, if_pos (by omega)]
                      · rw [if_neg x9, if_neg (by omega)]) (by omega)
        rw [show (M : Mem) = (up1 M 79 (M 79)) from (by rw [up1_self])]
        refine v_lv (ls' := [(0, rf g 78), (1, iv c), (2, iv 0)]) ok [1, 2, 0] rfl ?_
        exact lp39 _ 0 (M 79) (by omega) (fun j => by rw [if_neg (by omega)]) (Nat.lt_succ_self _)
      · skip
        refine v_aload_n ok 0 dX10_rains_14 rfl rfl ?_
        refine v_get (T := TX10) (N := 22) (f0 := (M 78)) (v := rf g 83) ok mi_X10_rains_10 (kd_lt (show kd 78 = 10 from rfl) (by decide)) rfl rfl (cellF_10 _ (by decide)) 8 (by decide) mk_X10_rains_24 rfl rfl dX10_rains_15 ?_
        refine v_iload_n ok 1 dX10_rains_18 rfl rfl ?_
        refine v_iconst (n := 2) ok dX10_rains_19 ?_
        refine v_iadd ok dX10_rains_20 ?_
        refine v_iload_n ok 2 dX10_rains_21 rfl rfl ?_
        refine v_iadd ok dX10_rains_22 ?_
        refine v_iald (n := 168) (f0 := (M 83)) ok (by decide) rfl (by omega) rfl dX10_rains_23 ?_
        have hx8 := hV k (by omega) (by omega)
        have hx7 : 0 ≤ M 83 (c + 2 + k) ∧ M 83 (c + 2 + k) ≤ 999 := hx8
        refine v_bipush (n := 20) ok rfl dX10_rains_24 ?_
        refine v_icmp_le (tgt := 31) ok ⟨by omega, by omega⟩ (by decide) dX10_rains_26 (by decide) (fun c4 => ?_) (fun c4 => ?_)
        · skip
          have hx9 : (rdV (M 83) c) k ≤ 20 := c4
          refine v_iinc ok 2 [(2, iv (k + 1)), (0, rf g 78), (1, iv c)] dX10_rains_31 rfl (by decide) rfl ?_
          refine v_goto (tgt := 2) ok dX10_rains_34 (by decide) ?_
          refine v_lv (ls' := [(0, rf g 78), (1, iv c), (2, iv (k + 1))]) ok [1, 2, 0] rfl ?_
          exact ih2 (k + 1) (by omega) (fun j j0 j1 => by
              rcases Int.lt_or_le j k with q9 | q9
              · exact i2_1 j j0 q9
              · rw [show j = k by omega]; exact hx9) (by omega)
        · skip
          refine v_iconst (n := 0) ok dX10_rains_29 ?_
          exact v_zret ok rt (by omega) dX10_rains_30 (Or.inl (⟨rfl, rfl, (fun q9 => by have q8 := (cab_0.mp q9) k (by omega) (by omega); have q7 : M 83 (c + 2 + k) ≤ 20 := q8; omega)⟩))
  refine v_lv (ls' := [(0, rf g 78), (1, iv c), (2, iv 0)]) ok [1, 2, 0] rfl ?_
  exact lp2 _ 0 (by omega) (fun j _ _ => by omega) (Nat.lt_succ_self _)

theorem mk_X10_tellsAll_11 : Cond.fieldLink RX10 11 "StormRunoffModel" "w" "[I" ∈ wsX10_tellsAll := by decide +kernel
theorem mi_X10_tellsAll_10 : ∀ w ∈ wsX100, w ∈ wsX10_tellsAll := by decide +kernel
theorem mk_X10_tellsAll_24 : Cond.fieldLink RX10 24 "StormRunoffModel" "read" "[I" ∈ wsX10_tellsAll := by decide +kernel
set_option maxRecDepth 100000 in
set_option maxHeartbeats 400000 in
theorem ct_X10_tellsAll (l : Launch) (g : Gl) (M : Mem) (c : Int) (hc : 0 ≤ c ∧ c ≤ 154) (hn : 0 ≤ M 83 (c + 1) ∧ M 83 (c + 1) ≤ 12) (hV : bdf (rdV (M 83) c) (M 83 (c + 1)) 0 999) : Ct l g yX10_tellsAll wsX10_tellsAll 0 0 [rf g 78, iv c] M (fun rv M' => rv = some (iv 1) ∧ M' = (up1 M 79 (ldT (cpN (rdV (M 83) c) (M 83 (c + 1))) (M 79)))) := by
  refine Ct.of (cc := cX10_tellsAll) (nL := 3) (ret := (some .boolean)) (by decide) rfl (Nat.le_of_ble_eq_true rfl) (fun z hz ok rt => ?_)
  have ok : Ok z g cX10_tellsAll 3 RX10 wsX10_tellsAll 0 0 := ok
  show V z g 3 M [(0, rf g 78), (1, iv c)] [] 0
  refine v_iconst (n := 0) ok dX10_tellsAll_0 ?_
  refine v_istore_n ok [(2, iv 0), (0, rf g 78), (1, iv c)] dX10_tellsAll_1 rfl (by decide) rfl ?_
  have lp2 : ∀ (fu : Nat) (k : Int) (G : Int → Int), (0 ≤ k ∧ k ≤ 12) → (∀ j : Int, G j = if 8 ≤ j ∧ j < 8 + k then (cpN (rdV (M 83) c) (M 83 (c + 1))) (j - 8) else M 79 j) → (12 - k).toNat < fu → V z g 3 (up1 M 79 G) [(0, rf g 78), (1, iv c), (2, iv k)] [] 2 := by
    intro fu
    induction fu with
    | zero => intro k G _ _ hm; exact absurd hm (Nat.not_lt_zero _)
    | succ fu ih2 =>
      intro k G i2_0 i2_1 hm2
      refine v_iload_n ok 2 dX10_tellsAll_2 rfl rfl ?_
      refine v_bipush (n := 12) ok rfl dX10_tellsAll_3 ?_
      refine v_icmp_ge (tgt := 49) ok ⟨by omega, by omega⟩ (by decide) dX10_tellsAll_5 (by decide) (fun c1 => ?_) (fun c1 => ?_)
      · skip
        refine v_cong (n := 90) (ldT (cpN (rdV (M 83) c) (M 83 (c + 1))) (M 79)) (Or.inl (by decide)) rfl (fun j j0 j1 => by rw [i2_1 j, show k = 12 by omega]; rfl) ?_
        refine v_iconst (n := 1) ok dX10_tellsAll_49 ?_
        exact v_zret ok rt (by omega) dX10_tellsAll_50 (⟨rfl, rfl⟩)
      · skip
        refine v_aload_n ok 0 dX10_tellsAll_8 rfl rfl ?_
        refine v_get (T := TX10) (N := 22) (f0 := (M 78)) (v := rf g 79) ok mi_X10_tellsAll_10 (kd_lt (show kd 78 = 10 from rfl) (by decide)) rfl rfl (cellF_10 _ (by decide)) 0 (by decide) mk_X10_tellsAll_11 rfl rfl dX10_tellsAll_9 ?_
        refine v_bipush (n := 8) ok rfl dX10_tellsAll_12 ?_
        refine v_iload_n ok 2 dX10_tellsAll_14 rfl rfl ?_
        refine v_iadd ok dX10_tellsAll_15 ?_
        refine v_iload_n ok 2 dX10_tellsAll_16 rfl rfl ?_
        refine v_aload_n ok 0 dX10_tellsAll_17 rfl rfl ?_
        refine v_get (T := TX10) (N := 22) (f0 := (M 78)) (v := rf g 83) ok mi_X10_tellsAll_10 (kd_lt (show kd 78 = 10 from rfl) (by decide)) rfl rfl (cellF_10 _ (by decide)) 8 (by decide) mk_X10_tellsAll_24 rfl rfl dX10_tellsAll_18 ?_
        refine v_iload_n ok 1 dX10_tellsAll_21 rfl rfl ?_
        refine v_iconst (n := 1) ok dX10_tellsAll_22 ?_
        refine v_iadd ok dX10_tellsAll_23 ?_
        refine v_iald (n := 168) (f0 := (M 83)) ok (by decide) rfl (by omega) rfl dX10_tellsAll_24 ?_
        refine v_icmp_ge (tgt := 41) ok ⟨by omega, by omega⟩ ⟨by omega, by omega⟩ dX10_tellsAll_25 (by decide) (fun c2 => ?_) (fun c2 => ?_)
        · skip
          refine v_iconst (n := 0) ok dX10_tellsAll_41 ?_
          refine v_iast (n := 90) (f0 := G) ok (by decide) rfl (by omega) rfl dX10_tellsAll_42 ?_
          rw [up1_up1]
          refine v_iinc ok 2 [(2, iv (k + 1)), (0, rf g 78), (1, iv c)] dX10_tellsAll_43 rfl (by decide) rfl ?_
          refine v_goto (tgt := 2) ok dX10_tellsAll_46 (by decide) ?_
          refine v_lv (ls' := [(0, rf g 78), (1, iv c), (2, iv (k + 1))]) ok [1, 2, 0] rfl ?_
          exact ih2 (k + 1) (up G (8 + k) 0) (by omega) (fun j => by
              by_cases e9 : j = (8 + k)
              · rw [e9, up_same, if_pos (by omega), show (8 + k) - 8 = k by omega]; unfold cpN rdV; first | (rw [if_pos (by omega)]) | (rw [if_neg (by omega)])
              · rw [up_ne e9, i2_1 j]
                by_cases x9 : 8 ≤ j ∧ j < 8 + k
                · rw [if_pos x9, if_pos (by omega)]
                · rw [if_neg x9, if_neg (by omega)]) (by omega)
        · skip
          refine v_aload_n ok 0 dX10_tellsAll_28 rfl rfl ?_
          refine v_get (T := TX10) (N := 22) (f0 := (M 78)) (v := rf g 83) ok mi_X10_tellsAll_10 (kd_lt (show kd 78 = 10 from rfl) (by decide)) rfl rfl (cellF_10 _ (by decide)) 8 (by decide) mk_X10_tellsAll_24 rfl rfl dX10_tellsAll_29 ?_
          refine v_iload_n ok 1 dX10_tellsAll_32 rfl rfl ?_
          refine v_iconst (n := 2) ok dX10_tellsAll_33 ?_
          refine v_iadd ok dX10_tellsAll_34 ?_
          refine v_iload_n ok 2 dX10_tellsAll_35 rfl rfl ?_
          refine v_iadd ok dX10_tellsAll_36 ?_
          refine v_iald (n := 168) (f0 := (M 83)) ok (by decide) rfl (by omega) rfl dX10_tellsAll_37 ?_
          refine v_goto (tgt := 42) ok dX10_tellsAll_38 (by decide) ?_
          refine v_iast (n := 90) (f0 := G) ok (by decide) rfl (by omega) rfl dX10_tellsAll_42 ?_
          rw [up1_up1]
          refine v_iinc ok 2 [(2, iv (k + 1)), (0, rf g 78), (1, iv c)] dX10_tellsAll_43 rfl (by decide) rfl ?_
          refine v_goto (tgt := 2) ok dX10_tellsAll_46 (by decide) ?_
          refine v_lv (ls' := [(0, rf g 78), (1, iv c), (2, iv (k + 1))]) ok [1, 2, 0] rfl ?_
          exact ih2 (k + 1) (up G (8 + k) (M 83 ((c + 2) + k))) (by omega) (fun j => by
              by_cases e9 : j = (8 + k)
              · rw [e9, up_same, if_pos (by omega), show (8 + k) - 8 = k by omega]; unfold cpN rdV; first | (rw [if_pos (by omega)]) | (rw [if_neg (by omega)])
              · rw [up_ne e9, i2_1 j]
                by_cases x9 : 8 ≤ j ∧ j < 8 + k
                · rw [if_pos x9, if_pos (by omega)]
                · rw [if_neg x9, if_neg (by omega)]) (by omega)
  rw [show (M : Mem) = (up1 M 79 (M 79)) from (by rw [up1_self])]
  refine v_lv (ls' := [(0, rf g 78), (1, iv c), (2, iv 0)]) ok [1, 2, 0] rfl ?_
  exact lp2 _ 0 (M 79) (by omega) (fun j => by rw [if_neg (by omega)]) (Nat.lt_succ_self _)

theorem mk_X10_basinComes_24 : Cond.fieldLink RX10 24 "StormRunoffModel" "read" "[I" ∈ wsX10_basinComes := by decide +kernel
theorem mi_X10_basinComes_10 : ∀ w ∈ wsX100, w ∈ wsX10_basinComes := by decide +kernel
theorem mk_X10_basinComes_18 : Cond.fieldLink RX10 18 "StormRunoffModel" "digits" "[I" ∈ wsX10_basinComes := by decide +kernel
set_option maxRecDepth 100000 in
set_option maxHeartbeats 400000 in
theorem ct_X10_basinComes (l : Launch) (g : Gl) (M : Mem) (c : Int) (hc : 0 ≤ c ∧ c ≤ 154) (hn : 1 ≤ M 83 (c + 1) ∧ M 83 (c + 1) ≤ 5) (hV : bdf (rdV (M 83) c) (M 83 (c + 1)) 0 9) (hmm : 0 ≤ M 79 20 ∧ M 79 20 ≤ 3) : Ct l g yX10_basinComes wsX10_basinComes 1 23 [rf g 78, iv c] M (fun rv M' => (∃ (D : Int → Int), rv = some (iv 0) ∧ M' = (up1 M 81 D) ∧ (¬ (0 < (rdV (M 83) c) 0 ∧ M 79 20 < 3))) ∨ (∃ (D : Int → Int), rv = some (iv 1) ∧ M' = (up1 (up1 M 81 D) 79 (comW (M 79) (M 83 (c + 1)) (rdV (M 83) c))) ∧ (0 < (rdV (M 83) c) 0 ∧ M 79 20 < 3))) := by
  refine Ct.of (cc := cX10_basinComes) (nL := 3) (ret := (some .boolean)) (by decide) rfl (Nat.le_of_ble_eq_true rfl) (fun z hz ok rt => ?_)
  have ok : Ok z g cX10_basinComes 3 RX10 wsX10_basinComes 1 23 := ok
  show V z g 3 M [(0, rf g 78), (1, iv c)] [] 0
  refine v_iconst (n := 0) ok dX10_basinComes_0 ?_
  refine v_istore_n ok [(2, iv 0), (0, rf g 78), (1, iv c)] dX10_basinComes_1 rfl (by decide) rfl ?_
  have lp2 : ∀ (fu : Nat) (k : Int) (D : Int → Int), (0 ≤ k ∧ k ≤ (M 83 (c + 1))) → (∀ j : Int, 0 ≤ j → j < k → D j = (rdV (M 83) c) j) → ((M 83 (c + 1)) - k).toNat < fu → V z g 3 (up1 M 81 D) [(0, rf g 78), (1, iv c), (2, iv k)] [] 2 := by
    intro fu
    induction fu with
    | zero => intro k D _ _ hm; exact absurd hm (Nat.not_lt_zero _)
    | succ fu ih2 =>
      intro k D i2_0 i2_1 hm2
      refine v_iload_n ok 2 dX10_basinComes_2 rfl rfl ?_
      refine v_aload_n ok 0 dX10_basinComes_3 rfl rfl ?_
      refine v_get (T := TX10) (N := 22) (f0 := (M 78)) (v := rf g 83) ok mi_X10_basinComes_10 (kd_lt (show kd 78 = 10 from rfl) (by decide)) rfl rfl (cellF_10 _ (by decide)) 8 (by decide) mk_X10_basinComes_24 rfl rfl dX10_basinComes_4 ?_
      refine v_iload_n ok 1 dX10_basinComes_7 rfl rfl ?_
      refine v_iconst (n := 1) ok dX10_basinComes_8 ?_
      refine v_iadd ok dX10_basinComes_9 ?_
      refine v_iald (n := 168) (f0 := (M 83)) ok (by decide) rfl (by omega) rfl dX10_basinComes_10 ?_
      refine v_icmp_ge (tgt := 36) ok ⟨by omega, by omega⟩ ⟨by omega, by omega⟩ dX10_basinComes_11 (by decide) (fun c1 => ?_) (fun c1 => ?_)
      · skip
        have hcm : ∀ j : Int, 0 ≤ j → j < (M 83 (c + 1)) → D j = (rdV (M 83) c) j := fun j j0 j1 => i2_1 j j0 (by omega)
        have hdg : bdf D (M 83 (c + 1)) 0 9 := fun j j0 j1 => by rw [hcm j j0 j1]; exact hV j j0 j1
        have hd0 := hcm 0 (by omega) (by omega)
        have hd1 := hdg 0 (by omega) (by omega)
        refine v_aload_n ok 0 dX10_basinComes_36 rfl rfl ?_
        refine v_get (T := TX10) (N := 22) (f0 := (M 78)) (v := rf g 81) ok mi_X10_basinComes_10 (kd_lt (show kd 78 = 10 from rfl) (by decide)) rfl rfl (cellF_10 _ (by decide)) 3 (by decide) mk_X10_basinComes_18 rfl rfl dX10_basinComes_37 ?_
        refine v_iconst (n := 0) ok dX10_basinComes_40 ?_
        refine v_iald (n := 5) (f0 := D) ok (by decide) rfl (by omega) rfl dX10_basinComes_41 ?_
        refine v_if_le (tgt := 64) ok ⟨by omega, by omega⟩ dX10_basinComes_42 (by decide) (fun c2 => ?_) (fun c2 => ?_)
        · skip
          refine v_iconst (n := 0) ok dX10_basinComes_64 ?_
          exact v_zret ok rt (by omega) dX10_basinComes_65 (Or.inl (⟨D, rfl, rfl, (by omega)⟩))
        · skip
          refine v_aload_n ok 0 dX10_basinComes_45 rfl rfl ?_
          refine v_aload_n ok 0 dX10_basinComes_46 rfl rfl ?_
          refine v_get (T := TX10) (N := 22) (f0 := (M 78)) (v := rf g 83) ok mi_X10_basinComes_10 (kd_lt (show kd 78 = 10 from rfl) (by decide)) rfl rfl (cellF_10 _ (by decide)) 8 (by decide) mk_X10_basinComes_24 rfl rfl dX10_basinComes_47 ?_
          refine v_iload_n ok 1 dX10_basinComes_50 rfl rfl ?_
          refine v_iconst (n := 1) ok dX10_basinComes_51 ?_
          refine v_iadd ok dX10_basinComes_52 ?_
          refine v_iald (n := 168) (f0 := (M 83)) ok (by decide) rfl (by omega) rfl dX10_basinComes_53 ?_
          refine v_callV (na := 1) (i := 78) (C := RX10) (T := TX10) (N := 22) (f0 := (M 78)) ok (ct_X10_comes z.2.1 g (up1 M 81 D) (M 83 (c + 1)) hmm (by omega) hdg) gX10_basinComes_X10_comes (kd_lt (show kd 78 = 10 from rfl) (by decide)) rfl rfl (cellF_10 _ (by decide)) rfl (by decide +kernel) rfl (by decide) [] rfl (Nat.le_of_ble_eq_true rfl) dX10_basinComes_54 (fun v4 M5 hp3 => ?_)
          rcases hp3 with ⟨rfl, rfl, h6⟩ | ⟨rfl, rfl, h7⟩
          · skip
            have h6 : (M 79) 20 = 3 := h6
            show V z g 3 (up1 M 81 D) [(0, rf g 78), (1, iv c), (2, iv k)] [iv (-4)] 57
            have h39 := h6
            refine v_if_lt (tgt := 64) ok (by decide) dX10_basinComes_57 (by decide) (fun c8 => ?_) (fun c8 => absurd c8 (by decide))
            refine v_iconst (n := 0) ok dX10_basinComes_64 ?_
            exact v_zret ok rt (by omega) dX10_basinComes_65 (Or.inl (⟨D, rfl, rfl, (by omega)⟩))
          · skip
            have h7 : (M 79) 20 < 3 := h7
            show V z g 3 (up1 (up1 M 81 D) 79 (comW ((M 79)) (M 83 (c + 1)) (D))) [(0, rf g 78), (1, iv c), (2, iv k)] [iv ((M 79) 20)] 57
            have h39 := h7
            refine v_if_lt (tgt := 64) ok ⟨by omega, by omega⟩ dX10_basinComes_57 (by decide) (fun c9 => absurd c9 (by omega)) (fun c9 => ?_)
            refine v_iconst (n := 1) ok dX10_basinComes_60 ?_
            refine v_goto (tgt := 65) ok dX10_basinComes_61 (by decide) ?_
            exact v_zret ok rt (by omega) dX10_basinComes_65 (Or.inr (⟨D, rfl, (by first | rfl | rw [comW_cg hcm]), (by omega)⟩))
      · skip
        refine v_aload_n ok 0 dX10_basinComes_14 rfl rfl ?_
        refine v_get (T := TX10) (N := 22) (f0 := (M 78)) (v := rf g 81) ok mi_X10_basinComes_10 (kd_lt (show kd 78 = 10 from rfl) (by decide)) rfl rfl (cellF_10 _ (by decide)) 3 (by decide) mk_X10_basinComes_18 rfl rfl dX10_basinComes_15 ?_
        refine v_iload_n ok 2 dX10_basinComes_18 rfl rfl ?_
        refine v_aload_n ok 0 dX10_basinComes_19 rfl rfl ?_
        refine v_get (T := TX10) (N := 22) (f0 := (M 78)) (v := rf g 83) ok mi_X10_basinComes_10 (kd_lt (show kd 78 = 10 from rfl) (by decide)) rfl rfl (cellF_10 _ (by decide)) 8 (by decide) mk_X10_basinComes_24 rfl rfl dX10_basinComes_20 ?_
        refine v_iload_n ok 1 dX10_basinComes_23 rfl rfl ?_
        refine v_iconst (n := 2) ok dX10_basinComes_24 ?_
        refine v_iadd ok dX10_basinComes_25 ?_
        refine v_iload_n ok 2 dX10_basinComes_26 rfl rfl ?_
        refine v_iadd ok dX10_basinComes_27 ?_
        refine v_iald (n := 168) (f0 := (M 83)) ok (by decide) rfl (by omega) rfl dX10_basinComes_28 ?_
        refine v_iast (n := 5) (f0 := D) ok (by decide) rfl (by omega) rfl dX10_basinComes_29 ?_
        rw [up1_up1]
        refine v_iinc ok 2 [(2, iv (k + 1)), (0, rf g 78), (1, iv c)] dX10_basinComes_30 rfl (by decide) rfl ?_
        refine v_goto (tgt := 2) ok dX10_basinComes_33 (by decide) ?_
        refine v_lv (ls' := [(0, rf g 78), (1, iv c), (2, iv (k + 1))]) ok [1, 2, 0] rfl ?_
        exact ih2 (k + 1) (up D k (M 83 ((c + 2) + k))) (by omega) (up_lt i2_1 rfl) (by omega)
  refine v_lv (ls' := [(0, rf g 78), (1, iv c), (2, iv 0)]) ok [1, 2, 0] rfl ?_
  rw [show (M : Mem) = (up1 M 81 (M 81)) from (by
        funext j
        by_cases hj0 : j = 81
        · subst hj0; simp [up1, up1_self]
        simp [up1, hj0])]
  exact lp2 _ 0 (M 81) (by omega) (fun j _ _ => by omega) (Nat.lt_succ_self _)

theorem mk_X10_isDone_24 : Cond.fieldLink RX10 24 "StormRunoffModel" "read" "[I" ∈ wsX10_isDone := by decide +kernel
theorem mi_X10_isDone_10 : ∀ w ∈ wsX100, w ∈ wsX10_isDone := by decide +kernel
set_option maxRecDepth 100000 in
set_option maxHeartbeats 400000 in
theorem ct_X10_isDone (l : Launch) (g : Gl) (M : Mem) (c : Int) (hc : 0 ≤ c ∧ c ≤ 154) (hcl : ClOk (M 83 c) (M 83 (c + 1)) (rdV (M 83) c)) (hw : WOk (M 79)) : Ct l g yX10_isDone wsX10_isDone 3 71 [rf g 78, iv c] M (fun rv M' => ∃ (D : Int → Int), rv = some (iv (dcW (M 83 c) (M 83 (c + 1)) (rdV (M 83) c) (M 79)).1) ∧ M' = (up1 (up1 M 81 D) 79 ((dcW (M 83 c) (M 83 (c + 1)) (rdV (M 83) c) (M 79)).2))) := by
  refine Ct.of (cc := cX10_isDone) (nL := 2) (ret := (some .boolean)) (by decide) rfl (Nat.le_of_ble_eq_true rfl) (fun z hz ok rt => ?_)
  have ok : Ok z g cX10_isDone 2 RX10 wsX10_isDone 3 71 := ok
  show V z g 2 M [(0, rf g 78), (1, iv c)] [] 0
  have hmm := hw.2.2.1
  have hk9 := hcl
  have hV0 : (rdV (M 83) c) 0 = M 83 (c + 2) := by unfold rdV; rw [Int.add_zero]
  have hV1 : (rdV (M 83) c) 1 = M 83 (c + 3) := by unfold rdV; rw [show c + 2 + 1 = c + 3 by omega]
  have hV2 : (rdV (M 83) c) 2 = M 83 (c + 4) := by unfold rdV; rw [show c + 2 + 2 = c + 4 by omega]
  unfold ClOk at hk9
  refine v_aload_n ok 0 dX10_isDone_0 rfl rfl ?_
  refine v_get (T := TX10) (N := 22) (f0 := (M 78)) (v := rf g 83) ok mi_X10_isDone_10 (kd_lt (show kd 78 = 10 from rfl) (by decide)) rfl rfl (cellF_10 _ (by decide)) 8 (by decide) mk_X10_isDone_24 rfl rfl dX10_isDone_1 ?_
  refine v_iload_n ok 1 dX10_isDone_4 rfl rfl ?_
  refine v_iald (n := 168) (f0 := (M 83)) ok (by decide) rfl (by omega) rfl dX10_isDone_5 ?_
  by_cases e1 : (M 83 c) = 98
  · skip
    refine v_lookup (off := 34) (tgt := 40) ok ⟨by omega, by omega⟩ (by decide) (by rw [e1]; decide) dX10_isDone_6 (by decide) ?_
    have hs9 := e1
    have hb9 : (1 ≤ (M 83 (c + 1)) ∧ (M 83 (c + 1)) ≤ 5) ∧ bdf (rdV (M 83) c) (M 83 (c + 1)) 0 9 := by
      rcases hk9 with q9 | q9 | q9 | q9
      · exact q9.2
      · omega
      · omega
      · omega
    refine v_aload_n ok 0 dX10_isDone_40 rfl rfl ?_
    refine v_iload_n ok 1 dX10_isDone_41 rfl rfl ?_
    refine v_callV (na := 1) (i := 78) (C := RX10) (T := TX10) (N := 22) (f0 := (M 78)) ok (ct_X10_basinComes z.2.1 g M c (by first | omega | assumption) hb9.1 hb9.2 hmm) gX10_isDone_X10_basinComes (kd_lt (show kd 78 = 10 from rfl) (by decide)) rfl rfl (cellF_10 _ (by decide)) rfl (by decide +kernel) rfl (by decide) [] rfl (Nat.le_of_ble_eq_true rfl) dX10_isDone_42 (fun v3 M4 hp2 => ?_)
    rcases hp2 with ⟨D5, rfl, rfl, h6⟩ | ⟨D7, rfl, rfl, h8⟩
    · skip
      have h6 : ¬ (0 < (rdV ((M 83)) c) 0 ∧ (M 79) 20 < 3) := h6
      show V z g 2 (up1 M 81 D5) [(0, rf g 78), (1, iv c)] [iv 0] 45
      have hE9 : (dcW (M 83 c) (M 83 (c + 1)) (rdV (M 83) c) (M 79)) = (0, M 79) := by rw [hs9, dcW_b, if_neg h6]
      exact v_zret ok rt (by omega) dX10_isDone_45 (⟨D5, (congrArg (fun q : Int => some (iv q)) (show 0 = (dcW (M 83 c) (M 83 (c + 1)) (rdV (M 83) c) (M 79)).1 from by (rw [hE9]))), (by first | (rw [hE9]; done) | (rw [hE9]; exact zz_h) | (rw [hE9]; exact zz_i) | (rw [hE9]; exact zz_j) | (rw [hE9, hV0, hV1, hV2]; exact zz_j))⟩)
    · skip
      have h8 : 0 < (rdV ((M 83)) c) 0 ∧ (M 79) 20 < 3 := h8
      show V z g 2 (up1 (up1 M 81 D7) 79 (comW ((M 79)) ((M 83) (c + 1)) (rdV ((M 83)) c))) [(0, rf g 78), (1, iv c)] [iv 1] 45
      have hE9 : (dcW (M 83 c) (M 83 (c + 1)) (rdV (M 83) c) (M 79)) = (1, comW (M 79) (M 83 (c + 1)) (rdV (M 83) c)) := by rw [hs9, dcW_b, if_pos h8]
      exact v_zret ok rt (by omega) dX10_isDone_45 (⟨D7, (congrArg (fun q : Int => some (iv q)) (show 1 = (dcW (M 83 c) (M 83 (c + 1)) (rdV (M 83) c) (M 79)).1 from by (rw [hE9]))), (by first | (rw [hE9]; done) | (rw [hE9]; exact zz_h) | (rw [hE9]; exact zz_i) | (rw [hE9]; exact zz_j) | (rw [hE9, hV0, hV1, hV2]; exact zz_j))⟩)
  · skip
    by_cases e9 : (M 83 c) = 107
    · skip
      refine v_lookup (off := 46) (tgt := 52) ok ⟨by omega, by omega⟩ (by decide) (by rw [e9]; decide) dX10_isDone_6 (by decide) ?_
      have hs9 := e9
      have hb9 : (M 83 (c + 1)) = 3 ∧ bdf (rdV (M 83) c) (M 83 (c + 1)) 0 9 := by
        rcases hk9 with q9 | q9 | q9 | q9
        · omega
        · exact q9.2
        · omega
        · omega
      have hx0 := hb9.2 0 (by omega) (by omega)
      have hx1 := hb9.2 1 (by omega) (by omega)
      have hx2 := hb9.2 2 (by omega) (by omega)
      refine v_aload_n ok 0 dX10_isDone_52 rfl rfl ?_
      refine v_aload_n ok 0 dX10_isDone_53 rfl rfl ?_
      refine v_get (T := TX10) (N := 22) (f0 := (M 78)) (v := rf g 83) ok mi_X10_isDone_10 (kd_lt (show kd 78 = 10 from rfl) (by decide)) rfl rfl (cellF_10 _ (by decide)) 8 (by decide) mk_X10_isDone_24 rfl rfl dX10_isDone_54 ?_
      refine v_iload_n ok 1 dX10_isDone_57 rfl rfl ?_
      refine v_iconst (n := 2) ok dX10_isDone_58 ?_
      refine v_iadd ok dX10_isDone_59 ?_
      refine v_iald (n := 168) (f0 := (M 83)) ok (by decide) rfl (by omega) rfl dX10_isDone_60 ?_
      refine v_aload_n ok 0 dX10_isDone_61 rfl rfl ?_
      refine v_get (T := TX10) (N := 22) (f0 := (M 78)) (v := rf g 83) ok mi_X10_isDone_10 (kd_lt (show kd 78 = 10 from rfl) (by decide)) rfl rfl (cellF_10 _ (by decide)) 8 (by decide) mk_X10_isDone_24 rfl rfl dX10_isDone_62 ?_
      refine v_iload_n ok 1 dX10_isDone_65 rfl rfl ?_
      refine v_iconst (n := 3) ok dX10_isDone_66 ?_
      refine v_iadd ok dX10_isDone_67 ?_
      refine v_iald (n := 168) (f0 := (M 83)) ok (by decide) rfl (by omega) rfl dX10_isDone_68 ?_
      refine v_aload_n ok 0 dX10_isDone_69 rfl rfl ?_
      refine v_get (T := TX10) (N := 22) (f0 := (M 78)) (v := rf g 83) ok mi_X10_isDone_10 (kd_lt (show kd 78 = 10 from rfl) (by decide)) rfl rfl (cellF_10 _ (by decide)) 8 (by decide) mk_X10_isDone_24 rfl rfl dX10_isDone_70 ?_
      refine v_iload_n ok 1 dX10_isDone_73 rfl rfl ?_
      refine v_iconst (n := 4) ok dX10_isDone_74 ?_
      refine v_iadd ok dX10_isDone_75 ?_
      refine v_iald (n := 168) (f0 := (M 83)) ok (by decide) rfl (by omega) rfl dX10_isDone_76 ?_
      refine v_callV (na := 3) (i := 78) (C := RX10) (T := TX10) (N := 22) (f0 := (M 78)) ok (ct_X10_hold z.2.1 g M (M 83 (c + 2)) (M 83 (c + 3)) (M 83 (c + 4)) (⟨by omega, by omega⟩) (⟨by omega, by omega⟩) (⟨by omega, by omega⟩) hw) gX10_isDone_X10_hold (kd_lt (show kd 78 = 10 from rfl) (by decide)) rfl rfl (cellF_10 _ (by decide)) rfl (by decide +kernel) rfl (by decide) [] rfl (Nat.le_of_ble_eq_true rfl) dX10_isDone_77 (fun v11 M12 hp10 => ?_)
      rcases hp10 with ⟨rfl, eM12, h13⟩ | ⟨rfl, eM12, h14, h15⟩ | ⟨rfl, rfl, h16, h17⟩
      · skip
        subst M12
        have h13 : ¬ (0 ≤ (M 83 (c + 2)) ∧ (M 83 (c + 2)) < (M 79) 20) := h13
        show V z g 2 M [(0, rf g 78), (1, iv c)] [iv (-1)] 80
        have h7a := h13
        have hE9 : (dcW (M 83 c) (M 83 (c + 1)) (rdV (M 83) c) (M 79)) = (0, M 79) := by rw [hs9, dcW_k, if_neg (by unfold kOk; omega)]
        refine v_if_lt (tgt := 87) ok (by decide) dX10_isDone_80 (by decide) (fun c18 => ?_) (fun c18 => absurd c18 (by decide))
        refine v_iconst (n := 0) ok dX10_isDone_87 ?_
        exact v_zret ok rt (by omega) dX10_isDone_88 (⟨(M 81), (congrArg (fun q : Int => some (iv q)) (show 0 = (dcW (M 83 c) (M 83 (c + 1)) (rdV (M 83) c) (M 79)).1 from by (rw [hE9]))), (by first | (rw [hE9]; done) | (rw [hE9]; exact zz_h) | (rw [hE9]; exact zz_i) | (rw [hE9]; exact zz_j) | (rw [hE9, hV0, hV1, hV2]; exact zz_j))⟩)
      · skip
        subst M12
        have h14 : 0 ≤ (M 83 (c + 2)) ∧ (M 83 (c + 2)) < (M 79) 20 := h14
        show V z g 2 M [(0, rf g 78), (1, iv c)] [iv (-2)] 80
        have h7a := h14
        have h7b := h15
        have hE9 : (dcW (M 83 c) (M 83 (c + 1)) (rdV (M 83) c) (M 79)) = (0, M 79) := by rw [hs9, dcW_k, if_neg (by unfold kOk; omega)]
        refine v_if_lt (tgt := 87) ok (by decide) dX10_isDone_80 (by decide) (fun c19 => ?_) (fun c19 => absurd c19 (by decide))
        refine v_iconst (n := 0) ok dX10_isDone_87 ?_
        exact v_zret ok rt (by omega) dX10_isDone_88 (⟨(M 81), (congrArg (fun q : Int => some (iv q)) (show 0 = (dcW (M 83 c) (M 83 (c + 1)) (rdV (M 83) c) (M 79)).1 from by (rw [hE9]))), (by first | (rw [hE9]; done) | (rw [hE9]; exact zz_h) | (rw [hE9]; exact zz_i) | (rw [hE9]; exact zz_j) | (rw [hE9, hV0, hV1, hV2]; exact zz_j))⟩)
      · skip
        have h16 : 0 ≤ (M 83 (c + 2)) ∧ (M 83 (c + 2)) < (M 79) 20 := h16
        show V z g 2 (up1 M 79 (up (up ((M 79)) (21 + 8 * (M 83 (c + 2)) + 6) (M 83 (c + 3))) (21 + 8 * (M 83 (c + 2)) + 7) (M 83 (c + 4)))) [(0, rf g 78), (1, iv c)] [iv (10 * bsK ((M 79)) (M 83 (c + 2)) + bsN ((M 79)) (M 83 (c + 2)))] 80
        have h7a := h16
        have h7b := h17
        have hE9 : (dcW (M 83 c) (M 83 (c + 1)) (rdV (M 83) c) (M 79)) = (1, up (up (M 79) (21 + 8 * (rdV (M 83) c) 0 + 6) ((rdV (M 83) c) 1)) (21 + 8 * (rdV (M 83) c) 0 + 7) ((rdV (M 83) c) 2)) := by rw [hs9, dcW_k, if_pos (by unfold kOk; omega)]
        have hkk := hw.2.2.2.1 (M 83 (c + 2)) (by omega) (by omega)
        have hkk1 := hkk.2.2.1
        have hkk2 := hkk.2.2.2.1
        refine v_if_lt (tgt := 87) ok ⟨by omega, by omega⟩ dX10_isDone_80 (by decide) (fun c20 => absurd c20 (by omega)) (fun c20 => ?_)
        refine v_iconst (n := 1) ok dX10_isDone_83 ?_
        refine v_goto (tgt := 88) ok dX10_isDone_84 (by decide) ?_
        exact v_zret ok rt (by omega) dX10_isDone_88 (⟨(M 81), (congrArg (fun q : Int => some (iv q)) (show 1 = (dcW (M 83 c) (M 83 (c + 1)) (rdV (M 83) c) (M 79)).1 from by (rw [hE9]))), (by first | (rw [hE9]; done) | (rw [hE9]; exact zz_h) | (rw [hE9]; exact zz_i) | (rw [hE9]; exact zz_j) | (rw [hE9, hV0, hV1, hV2]; exact zz_j))⟩)
    · skip
      by_cases e21 : (M 83 c) = 119
      · skip
        refine v_lookup (off := 40) (tgt := 46) ok ⟨by omega, by omega⟩ (by decide) (by rw [e21]; decide) dX10_isDone_6 (by decide) ?_
        have hs9 := e21
        have hb9 : (1 ≤ (M 83 (c + 1)) ∧ (M 83 (c + 1)) ≤ 8) ∧ bdf (rdV (M 83) c) (M 83 (c + 1)) 0 999 := by
          rcases hk9 with q9 | q9 | q9 | q9
          · omega
          · omega
          · exact q9.2
          · omega
        refine v_aload_n ok 0 dX10_isDone_46 rfl rfl ?_
        refine v_iload_n ok 1 dX10_isDone_47 rfl rfl ?_
        refine v_callV (na := 1) (i := 78) (C := RX10) (T := TX10) (N := 22) (f0 := (M 78)) ok (ct_X10_rains z.2.1 g M c (by first | omega | assumption) (by omega) hb9.2) gX10_isDone_X10_rains (kd_lt (show kd 78 = 10 from rfl) (by decide)) rfl rfl (cellF_10 _ (by decide)) rfl (by decide +kernel) rfl (by decide) [] rfl (Nat.le_of_ble_eq_true rfl) dX10_isDone_48 (fun v23 M24 hp22 => ?_)
        rcases hp22 with ⟨rfl, eM24, h25⟩ | ⟨rfl, rfl, h26⟩
        · skip
          subst M24
          have h25 : cab (rdV ((M 83)) c) 20 ((M 83) (c + 1)).toNat ≠ 0 := h25
          show V z g 2 M [(0, rf g 78), (1, iv c)] [iv 0] 51
          have hE9 : (dcW (M 83 c) (M 83 (c + 1)) (rdV (M 83) c) (M 79)) = (0, M 79) := by rw [hs9, dcW_w, if_neg h25]
          exact v_zret ok rt (by omega) dX10_isDone_51 (⟨(M 81), (congrArg (fun q : Int => some (iv q)) (show 0 = (dcW (M 83 c) (M 83 (c + 1)) (rdV (M 83) c) (M 79)).1 from by (rw [hE9]))), (by first | (rw [hE9]; done) | (rw [hE9]; exact zz_h) | (rw [hE9]; exact zz_i) | (rw [hE9]; exact zz_j) | (rw [hE9, hV0, hV1, hV2]; exact zz_j))⟩)
        · skip
          have h26 : cab (rdV ((M 83)) c) 20 ((M 83) (c + 1)).toNat = 0 := h26
          show V z g 2 (up1 M 79 (lay (cpN (rdV ((M 83)) c) ((M 83) (c + 1))) ((M 79)))) [(0, rf g 78), (1, iv c)] [iv 1] 51
          have hE9 : (dcW (M 83 c) (M 83 (c + 1)) (rdV (M 83) c) (M 79)) = (1, lay (cpN (rdV (M 83) c) (M 83 (c + 1))) (M 79)) := by rw [hs9, dcW_w, if_pos h26]
          exact v_zret ok rt (by omega) dX10_isDone_51 (⟨(M 81), (congrArg (fun q : Int => some (iv q)) (show 1 = (dcW (M 83 c) (M 83 (c + 1)) (rdV (M 83) c) (M 79)).1 from by (rw [hE9]))), (by first | (rw [hE9]; done) | (rw [hE9]; exact zz_h) | (rw [hE9]; exact zz_i) | (rw [hE9]; exact zz_j) | (rw [hE9, hV0, hV1, hV2]; exact zz_j))⟩)
      · skip
        refine v_lookup (off := 83) (tgt := 89) ok ⟨by omega, by omega⟩ (by decide) (by simp [Op.lookupswitch.offset, Ne.symm e1, e1, Ne.symm e9, e9, Ne.symm e21, e21]) dX10_isDone_6 (by decide) ?_
        have hb9 : (1 ≤ (M 83 (c + 1)) ∧ (M 83 (c + 1)) ≤ 12) ∧ bdf (rdV (M 83) c) (M 83 (c + 1)) 0 999 := by
          rcases hk9 with q9 | q9 | q9 | q9
          · omega
          · omega
          · omega
          · exact q9.2
        refine v_aload_n ok 0 dX10_isDone_89 rfl rfl ?_
        refine v_iload_n ok 1 dX10_isDone_90 rfl rfl ?_
        refine v_callV (na := 1) (i := 78) (C := RX10) (T := TX10) (N := 22) (f0 := (M 78)) ok (ct_X10_tellsAll z.2.1 g M c (by first | omega | assumption) (by omega) hb9.2) gX10_isDone_X10_tellsAll (kd_lt (show kd 78 = 10 from rfl) (by decide)) rfl rfl (cellF_10 _ (by decide)) rfl (by decide +kernel) rfl (by decide) [] rfl (Nat.le_of_ble_eq_true rfl) dX10_isDone_91 (fun v28 M29 hp27 => ?_)
        obtain ⟨rfl, rfl⟩ := hp27
        show V z g 2 (up1 M 79 (ldT (cpN (rdV ((M 83)) c) ((M 83) (c + 1))) ((M 79)))) [(0, rf g 78), (1, iv c)] [iv 1] 94
        have hE9 : (dcW (M 83 c) (M 83 (c + 1)) (rdV (M 83) c) (M 79)) = (1, ldT (cpN (rdV (M 83) c) (M 83 (c + 1))) (M 79)) := dcW_t (by omega) (by omega) (by omega)
        exact v_zret ok rt (by omega) dX10_isDone_94 (⟨(M 81), (congrArg (fun q : Int => some (iv q)) (show 1 = (dcW (M 83 c) (M 83 (c + 1)) (rdV (M 83) c) (M 79)).1 from by (rw [hE9]))), (by first | (rw [hE9]; done) | (rw [hE9]; exact zz_h) | (rw [hE9]; exact zz_i) | (rw [hE9]; exact zz_j) | (rw [hE9, hV0, hV1, hV2]; exact zz_j))⟩)
