theorem mk_X10_isBasin_11 : Cond.fieldLink RX10 11 "StormRunoffModel" "w" "[I" ∈ wsX10_isBasin := by decide +kernel
theorem mi_X10_isBasin_10 : ∀ w ∈ wsX100, w ∈ wsX10_isBasin := by decide +kernel
set_option maxRecDepth 100000 in
set_option maxHeartbeats 400000 in
theorem ct_X10_isBasin (l : Launch) (g : Gl) (M : Mem) (b : Int) (hb : i32 b) (hm : 0 ≤ M 79 20 ∧ M 79 20 ≤ 3) : Ct l g yX10_isBasin wsX10_isBasin 1 25 [rf g 78, iv b] M (fun rv M' => (rv = some (iv 1) ∧ M' = M ∧ (0 ≤ b ∧ b < M 79 20)) ∨ (rv = some (iv 0) ∧ M' = M ∧ (¬ (0 ≤ b ∧ b < M 79 20)))) := by
  refine Ct.of (cc := cX10_isBasin) (nL := 2) (ret := (some .boolean)) (by decide) rfl (Nat.le_of_ble_eq_true rfl) (fun z hz ok rt => ?_)
  have ok : Ok z g cX10_isBasin 2 RX10 wsX10_isBasin 1 25 := ok
  show V z g 2 M [(0, rf g 78), (1, iv b)] [] 0
  refine v_iload_n ok 1 dX10_isBasin_0 rfl rfl ?_
  refine v_i2l ok ⟨by omega, by omega⟩ dX10_isBasin_1 ?_
  refine v_lconst (n := 0) ok rfl dX10_isBasin_2 ?_
  refine v_aload_n ok 0 dX10_isBasin_3 rfl rfl ?_
  refine v_get (T := TX10) (N := 22) (f0 := (M 78)) (v := rf g 79) ok mi_X10_isBasin_10 (kd_lt (show kd 78 = 10 from rfl) (by decide)) rfl rfl (cellF_10 _ (by decide)) 0 (by decide) mk_X10_isBasin_11 rfl rfl dX10_isBasin_4 ?_
  refine v_bipush (n := 20) ok rfl dX10_isBasin_7 ?_
  refine v_iald (n := 90) (f0 := (M 79)) ok (by decide) rfl (by omega) rfl dX10_isBasin_9 ?_
  refine v_iconst (n := 1) ok dX10_isBasin_10 ?_
  refine v_isub ok dX10_isBasin_11 ?_
  refine v_i2l ok ⟨by omega, by omega⟩ dX10_isBasin_12 ?_
  refine v_callS (na := 3) ok (ct_X10_in z.2.1 g M b 0 ((M 79 20) - 1) ⟨by omega, by omega⟩ (by decide) ⟨by omega, by omega⟩) gX10_isBasin_X10_in rfl (by decide +kernel) rfl (by decide) [] rfl (Nat.le_of_ble_eq_true rfl) dX10_isBasin_13 (fun v2 M3 hp1 => ?_)
  rcases hp1 with ⟨rfl, eM3, h4⟩ | ⟨rfl, eM3, h5⟩
  · skip
    subst M3
    show V z g 2 M [(0, rf g 78), (1, iv b)] [iv 1] 16
    exact v_zret ok rt (by omega) dX10_isBasin_16 (Or.inl (⟨rfl, rfl, (by omega)⟩))
  · skip
    subst M3
    show V z g 2 M [(0, rf g 78), (1, iv b)] [iv 0] 16
    exact v_zret ok rt (by omega) dX10_isBasin_16 (Or.inr (⟨rfl, rfl, (by omega)⟩))

theorem mk_X10_isHour_65 : Cond.constantLong RX10 65 (29) ∈ wsX10_isHour := by decide +kernel
set_option maxRecDepth 100000 in
set_option maxHeartbeats 400000 in
theorem ct_X10_isHour (l : Launch) (g : Gl) (M : Mem) (b : Int) (hb : i32 b) : Ct l g yX10_isHour wsX10_isHour 1 25 [iv b] M (fun rv M' => (rv = some (iv 1) ∧ M' = M ∧ (0 ≤ b ∧ b ≤ 29)) ∨ (rv = some (iv 0) ∧ M' = M ∧ (¬ (0 ≤ b ∧ b ≤ 29)))) := by
  refine Ct.of (cc := cX10_isHour) (nL := 1) (ret := (some .boolean)) (by decide) rfl (Nat.le_of_ble_eq_true rfl) (fun z hz ok rt => ?_)
  have ok : Ok z g cX10_isHour 1 RX10 wsX10_isHour 1 25 := ok
  show V z g 1 M [(0, iv b)] [] 0
  refine v_iload_n ok 0 dX10_isHour_0 rfl rfl ?_
  refine v_i2l ok ⟨by omega, by omega⟩ dX10_isHour_1 ?_
  refine v_lconst (n := 0) ok rfl dX10_isHour_2 ?_
  refine v_ldc2 (n := 29) ok mk_X10_isHour_65 rfl dX10_isHour_3 ?_
  refine v_callS (na := 3) ok (ct_X10_in z.2.1 g M b 0 29 ⟨by omega, by omega⟩ (by decide) (by decide)) gX10_isHour_X10_in rfl (by decide +kernel) rfl (by decide) [] rfl (Nat.le_of_ble_eq_true rfl) dX10_isHour_6 (fun v2 M3 hp1 => ?_)
  rcases hp1 with ⟨rfl, eM3, h4⟩ | ⟨rfl, eM3, h5⟩
  · skip
    subst M3
    show V z g 1 M [(0, iv b)] [iv 1] 9
    exact v_zret ok rt (by omega) dX10_isHour_9 (Or.inl (⟨rfl, rfl, (by omega)⟩))
  · skip
    subst M3
    show V z g 1 M [(0, iv b)] [iv 0] 9
    exact v_zret ok rt (by omega) dX10_isHour_9 (Or.inr (⟨rfl, rfl, (by omega)⟩))

theorem mk_X10_isRain_67 : Cond.constantLong RX10 67 (7) ∈ wsX10_isRain := by decide +kernel
set_option maxRecDepth 100000 in
set_option maxHeartbeats 400000 in
theorem ct_X10_isRain (l : Launch) (g : Gl) (M : Mem) (b : Int) (hb : i32 b) : Ct l g yX10_isRain wsX10_isRain 1 25 [iv b] M (fun rv M' => (rv = some (iv 1) ∧ M' = M ∧ (0 ≤ b ∧ b ≤ 7)) ∨ (rv = some (iv 0) ∧ M' = M ∧ (¬ (0 ≤ b ∧ b ≤ 7)))) := by
  refine Ct.of (cc := cX10_isRain) (nL := 1) (ret := (some .boolean)) (by decide) rfl (Nat.le_of_ble_eq_true rfl) (fun z hz ok rt => ?_)
  have ok : Ok z g cX10_isRain 1 RX10 wsX10_isRain 1 25 := ok
  show V z g 1 M [(0, iv b)] [] 0
  refine v_iload_n ok 0 dX10_isRain_0 rfl rfl ?_
  refine v_i2l ok ⟨by omega, by omega⟩ dX10_isRain_1 ?_
  refine v_lconst (n := 0) ok rfl dX10_isRain_2 ?_
  refine v_ldc2 (n := 7) ok mk_X10_isRain_67 rfl dX10_isRain_3 ?_
  refine v_callS (na := 3) ok (ct_X10_in z.2.1 g M b 0 7 ⟨by omega, by omega⟩ (by decide) (by decide)) gX10_isRain_X10_in rfl (by decide +kernel) rfl (by decide) [] rfl (Nat.le_of_ble_eq_true rfl) dX10_isRain_6 (fun v2 M3 hp1 => ?_)
  rcases hp1 with ⟨rfl, eM3, h4⟩ | ⟨rfl, eM3, h5⟩
  · skip
    subst M3
    show V z g 1 M [(0, iv b)] [iv 1] 9
    exact v_zret ok rt (by omega) dX10_isRain_9 (Or.inl (⟨rfl, rfl, (by omega)⟩))
  · skip
    subst M3
    show V z g 1 M [(0, iv b)] [iv 0] 9
    exact v_zret ok rt (by omega) dX10_isRain_9 (Or.inr (⟨rfl, rfl, (by omega)⟩))

theorem mk_X10_isTape_256 : Cond.constantLong RX10 256 (5) ∈ wsX10_isTape := by decide +kernel
set_option maxRecDepth 100000 in
set_option maxHeartbeats 400000 in
theorem ct_X10_isTape (l : Launch) (g : Gl) (M : Mem) (b : Int) (hb : i32 b) : Ct l g yX10_isTape wsX10_isTape 1 25 [iv b] M (fun rv M' => (rv = some (iv 1) ∧ M' = M ∧ (0 ≤ b ∧ b ≤ 5)) ∨ (rv = some (iv 0) ∧ M' = M ∧ (¬ (0 ≤ b ∧ b ≤ 5)))) := by
  refine Ct.of (cc := cX10_isTape) (nL := 1) (ret := (some .boolean)) (by decide) rfl (Nat.le_of_ble_eq_true rfl) (fun z hz ok rt => ?_)
  have ok : Ok z g cX10_isTape 1 RX10 wsX10_isTape 1 25 := ok
  show V z g 1 M [(0, iv b)] [] 0
  refine v_iload_n ok 0 dX10_isTape_0 rfl rfl ?_
  refine v_i2l ok ⟨by omega, by omega⟩ dX10_isTape_1 ?_
  refine v_lconst (n := 0) ok rfl dX10_isTape_2 ?_
  refine v_ldc2 (n := 5) ok mk_X10_isTape_256 rfl dX10_isTape_3 ?_
  refine v_callS (na := 3) ok (ct_X10_in z.2.1 g M b 0 5 ⟨by omega, by omega⟩ (by decide) (by decide)) gX10_isTape_X10_in rfl (by decide +kernel) rfl (by decide) [] rfl (Nat.le_of_ble_eq_true rfl) dX10_isTape_6 (fun v2 M3 hp1 => ?_)
  rcases hp1 with ⟨rfl, eM3, h4⟩ | ⟨rfl, eM3, h5⟩
  · skip
    subst M3
    show V z g 1 M [(0, iv b)] [iv 1] 9
    exact v_zret ok rt (by omega) dX10_isTape_9 (Or.inl (⟨rfl, rfl, (by omega)⟩))
  · skip
    subst M3
    show V z g 1 M [(0, iv b)] [iv 0] 9
    exact v_zret ok rt (by omega) dX10_isTape_9 (Or.inr (⟨rfl, rfl, (by omega)⟩))

theorem mk_X10_answer_11 : Cond.fieldLink RX10 11 "StormRunoffModel" "w" "[I" ∈ wsX10_answer := by decide +kernel
theorem mi_X10_answer_10 : ∀ w ∈ wsX100, w ∈ wsX10_answer := by decide +kernel
set_option maxRecDepth 100000 in
set_option maxHeartbeats 400000 in
theorem ct_X10_answer (l : Launch) (g : Gl) (M : Mem) (b p : Int) (hb : 0 ≤ b ∧ b ≤ 2) (hp : 0 ≤ p ∧ p ≤ 4) : Ct l g yX10_answer wsX10_answer 0 0 [rf g 78, iv b, iv p] M (fun rv M' => rv = some (iv (bsA (M 79) b p)) ∧ M' = M) := by
  refine Ct.of (cc := cX10_answer) (nL := 3) (ret := (some .int)) (by decide) rfl (Nat.le_of_ble_eq_true rfl) (fun z hz ok rt => ?_)
  have ok : Ok z g cX10_answer 3 RX10 wsX10_answer 0 0 := ok
  show V z g 3 M [(0, rf g 78), (1, iv b), (2, iv p)] [] 0
  refine v_aload_n ok 0 dX10_answer_0 rfl rfl ?_
  refine v_get (T := TX10) (N := 22) (f0 := (M 78)) (v := rf g 79) ok mi_X10_answer_10 (kd_lt (show kd 78 = 10 from rfl) (by decide)) rfl rfl (cellF_10 _ (by decide)) 0 (by decide) mk_X10_answer_11 rfl rfl dX10_answer_1 ?_
  refine v_bipush (n := 21) ok rfl dX10_answer_4 ?_
  refine v_bipush (n := 8) ok rfl dX10_answer_6 ?_
  refine v_iload_n ok 1 dX10_answer_8 rfl rfl ?_
  refine v_imul ok dX10_answer_9 ?_
  refine v_iadd ok dX10_answer_10 ?_
  refine v_iconst (n := 1) ok dX10_answer_11 ?_
  refine v_iadd ok dX10_answer_12 ?_
  refine v_iload_n ok 2 dX10_answer_13 rfl rfl ?_
  refine v_iadd ok dX10_answer_14 ?_
  refine v_iald (n := 90) (f0 := (M 79)) ok (by decide) rfl (by omega) rfl dX10_answer_15 ?_
  exact v_iret ok rt dX10_answer_16 (⟨(congrArg (fun q : Int => some (iv q)) (show (M 79 (((21 + (8 * b)) + 1) + p)) = (bsA (M 79) b p) from by rfl)), rfl⟩)

theorem mk_X10_flows_27 : Cond.fieldLink RX10 27 "StormRunoffModel" "flow" "[I" ∈ wsX10_flows := by decide +kernel
theorem mi_X10_flows_10 : ∀ w ∈ wsX100, w ∈ wsX10_flows := by decide +kernel
theorem mk_X10_flows_84 : Cond.constantLong RX10 84 (4) ∈ wsX10_flows := by decide +kernel
theorem mk_X10_flows_11 : Cond.fieldLink RX10 11 "StormRunoffModel" "w" "[I" ∈ wsX10_flows := by decide +kernel
set_option maxRecDepth 100000 in
set_option maxHeartbeats 400000 in
theorem ct_X10_flows (l : Launch) (g : Gl) (M : Mem) (b : Int) (hb : 0 ≤ b ∧ b ≤ 2) : Ct l g yX10_flows wsX10_flows 1 25 [rf g 78, iv b] M (fun rv M' => rv = none ∧ M' = (up1 M 84 (fl (M 79) (bsA (M 79) b) 8))) := by
  refine Ct.of (cc := cX10_flows) (nL := 4) (ret := none) (by decide) rfl (Nat.le_of_ble_eq_true rfl) (fun z hz ok rt => ?_)
  have ok : Ok z g cX10_flows 4 RX10 wsX10_flows 1 25 := ok
  show V z g 4 M [(0, rf g 78), (1, iv b)] [] 0
  refine v_iconst (n := 0) ok dX10_flows_0 ?_
  refine v_istore_n ok [(2, iv 0), (0, rf g 78), (1, iv b)] dX10_flows_1 rfl (by decide) rfl ?_
  have lp2 : ∀ (fu : Nat) (h : Int) (F : Int → Int), (0 ≤ h ∧ h ≤ 30) → (∀ j : Int, 0 ≤ j → j < h → F j = (fl (M 79) (bsA (M 79) b) 8) j) → (30 - h).toNat < fu → V z g 4 (up1 M 84 F) [(0, rf g 78), (1, iv b), (2, iv h)] [] 2 := by
    intro fu
    induction fu with
    | zero => intro h F _ _ hm; exact absurd hm (Nat.not_lt_zero _)
    | succ fu ih2 =>
      intro h F i2_0 i2_1 hm2
      refine v_iload_n ok 2 dX10_flows_2 rfl rfl ?_
      refine v_bipush (n := 30) ok rfl dX10_flows_3 ?_
      refine v_icmp_ge (tgt := 77) ok ⟨by omega, by omega⟩ (by decide) dX10_flows_5 (by decide) (fun c1 => ?_) (fun c1 => ?_)
      · skip
        refine v_cong (n := 30) (fl (M 79) (bsA (M 79) b) 8) (Or.inl (by decide)) rfl (fun j j0 j1 => i2_1 j j0 (by omega)) ?_
        exact v_vret ok rt dX10_flows_77 (⟨rfl, rfl⟩)
      · skip
        refine v_aload_n ok 0 dX10_flows_8 rfl rfl ?_
        refine v_get (T := TX10) (N := 22) (f0 := (M 78)) (v := rf g 84) ok mi_X10_flows_10 (kd_lt (show kd 78 = 10 from rfl) (by decide)) rfl rfl (cellF_10 _ (by decide)) 10 (by decide) mk_X10_flows_27 rfl rfl dX10_flows_9 ?_
        refine v_iload_n ok 2 dX10_flows_12 rfl rfl ?_
        refine v_iconst (n := 0) ok dX10_flows_13 ?_
        refine v_iast (n := 30) (f0 := F) ok (by decide) rfl (by omega) rfl dX10_flows_14 ?_
        rw [up1_up1]
        refine v_iconst (n := 0) ok dX10_flows_15 ?_
        refine v_istore_n ok [(3, iv 0), (0, rf g 78), (1, iv b), (2, iv h)] dX10_flows_16 rfl (by decide) rfl ?_
        have lp17 : ∀ (fu : Nat) (s : Int) (G : Int → Int), (0 ≤ s ∧ s ≤ 8) → (∀ j : Int, 0 ≤ j → j < h → G j = (fl (M 79) (bsA (M 79) b) 8) j) → (G h = flw (M 79) (bsA (M 79) b) h s.toNat) → (8 - s).toNat < fu → V z g 4 (up1 M 84 G) [(0, rf g 78), (1, iv b), (2, iv h), (3, iv s)] [] 17 := by
          intro fu
          induction fu with
          | zero => intro s G _ _ _ hm; exact absurd hm (Nat.not_lt_zero _)
          | succ fu ih17 =>
            intro s G i17_0 i17_1 i17_2 hm17
            refine v_iload_n ok 3 dX10_flows_17 rfl rfl ?_
            refine v_bipush (n := 8) ok rfl dX10_flows_18 ?_
            refine v_icmp_ge (tgt := 71) ok ⟨by omega, by omega⟩ (by decide) dX10_flows_20 (by decide) (fun c2 => ?_) (fun c2 => ?_)
            · skip
              have hb1 : ∀ j : Int, 0 ≤ j → j < h + 1 → G j = (fl (M 79) (bsA (M 79) b) 8) j := by
                intro j j0 j1
                rcases Int.lt_or_le j h with q | q
                · exact i17_1 j j0 q
                · have e : j = h := by omega
                  rw [e, i17_2, show s = 8 by omega]; rfl
              refine v_iinc ok 2 [(2, iv (h + 1)), (0, rf g 78), (1, iv b), (3, iv s)] dX10_flows_71 rfl (by decide) rfl ?_
              refine v_goto (tgt := 2) ok dX10_flows_74 (by decide) ?_
              refine v_lv (ls' := [(0, rf g 78), (1, iv b), (2, iv (h + 1))]) ok [1, 2, 0] rfl ?_
              exact ih2 (h + 1) G (by omega) hb1 (by omega)
            · skip
              refine v_aload_n ok 0 dX10_flows_23 rfl rfl ?_
              refine v_get (T := TX10) (N := 22) (f0 := (M 78)) (v := rf g 84) ok mi_X10_flows_10 (kd_lt (show kd 78 = 10 from rfl) (by decide)) rfl rfl (cellF_10 _ (by decide)) 10 (by decide) mk_X10_flows_27 rfl rfl dX10_flows_24 ?_
              refine v_iload_n ok 2 dX10_flows_27 rfl rfl ?_
              refine v_dup2 ok rfl rfl dX10_flows_28 ?_
              refine v_iald (n := 30) (f0 := G) ok (by decide) rfl (by omega) rfl dX10_flows_29 ?_
              refine v_iload_n ok 2 dX10_flows_30 rfl rfl ?_
              refine v_iload_n ok 3 dX10_flows_31 rfl rfl ?_
              refine v_isub ok dX10_flows_32 ?_
              refine v_i2l ok ⟨by omega, by omega⟩ dX10_flows_33 ?_
              refine v_lconst (n := 0) ok rfl dX10_flows_34 ?_
              refine v_ldc2 (n := 4) ok mk_X10_flows_84 rfl dX10_flows_35 ?_
              refine v_callS (na := 3) ok (ct_X10_in z.2.1 g (up1 M 84 G) (h - s) 0 4 ⟨by omega, by omega⟩ (by decide) (by decide)) gX10_flows_X10_in rfl (by decide +kernel) rfl (by decide) [iv (G h), iv h, rf g 84] rfl (Nat.le_of_ble_eq_true rfl) dX10_flows_38 (fun v4 M5 hp3 => ?_)
              rcases hp3 with ⟨rfl, rfl, h6⟩ | ⟨rfl, rfl, h7⟩
              · skip
                show V z g 4 (up1 M 84 G) [(0, rf g 78), (1, iv b), (2, iv h), (3, iv s)] [iv 1, iv (G h), iv h, rf g 84] 41
                refine v_if_eq (tgt := 62) ok (by decide) dX10_flows_41 (by decide) (fun c8 => absurd c8 (by decide)) (fun c8 => ?_)
                refine v_aload_n ok 0 dX10_flows_44 rfl rfl ?_
                refine v_get (T := TX10) (N := 22) (f0 := (M 78)) (v := rf g 79) ok mi_X10_flows_10 (kd_lt (show kd 78 = 10 from rfl) (by decide)) rfl rfl (cellF_10 _ (by decide)) 0 (by decide) mk_X10_flows_11 rfl rfl dX10_flows_45 ?_
                refine v_iload_n ok 3 dX10_flows_48 rfl rfl ?_
                refine v_iald (n := 90) (f0 := (M 79)) ok (by decide) rfl (by omega) rfl dX10_flows_49 ?_
                refine v_aload_n ok 0 dX10_flows_50 rfl rfl ?_
                refine v_iload_n ok 1 dX10_flows_51 rfl rfl ?_
                refine v_iload_n ok 2 dX10_flows_52 rfl rfl ?_
                refine v_iload_n ok 3 dX10_flows_53 rfl rfl ?_
                refine v_isub ok dX10_flows_54 ?_
                refine v_callV (na := 2) (i := 78) (C := RX10) (T := TX10) (N := 22) (f0 := (M 78)) ok (ct_X10_answer z.2.1 g (up1 M 84 G) b (h - s) (by first | omega | assumption) (by first | omega | assumption)) gX10_flows_X10_answer (kd_lt (show kd 78 = 10 from rfl) (by decide)) rfl rfl (cellF_10 _ (by decide)) rfl (by decide +kernel) rfl (by decide) [iv (M 79 s), iv (G h), iv h, rf g 84] rfl (Nat.le_of_ble_eq_true rfl) dX10_flows_55 (fun v10 M11 hp9 => ?_)
                obtain ⟨rfl, rfl⟩ := hp9
                show V z g 4 (up1 M 84 G) [(0, rf g 78), (1, iv b), (2, iv h), (3, iv s)] [iv (bsA ((M 79)) b (h - s)), iv (M 79 s), iv (G h), iv h, rf g 84] 58
                refine v_imul ok dX10_flows_58 ?_
                refine v_goto (tgt := 63) ok dX10_flows_59 (by decide) ?_
                refine v_iadd ok dX10_flows_63 ?_
                refine v_iast (n := 30) (f0 := G) ok (by decide) rfl (by omega) rfl dX10_flows_64 ?_
                rw [up1_up1]
                refine v_iinc ok 3 [(3, iv (s + 1)), (0, rf g 78), (1, iv b), (2, iv h)] dX10_flows_65 rfl (by decide) rfl ?_
                refine v_goto (tgt := 17) ok dX10_flows_68 (by decide) ?_
                refine v_lv (ls' := [(0, rf g 78), (1, iv b), (2, iv h), (3, iv (s + 1))]) ok [1, 2, 3, 0] rfl ?_
                exact ih17 (s + 1) (up G h ((G h) + ((M 79 s) * (bsA ((M 79)) b (h - s))))) (by omega) (fun j j0 j1 => by rw [up_ne (by omega)]; exact i17_1 j j0 j1) (by rw [up_same, flw_s i17_0.1, i17_2]; first | rw [if_pos (by omega)] | rw [if_neg (by omega)]) (by omega)
              · skip
                show V z g 4 (up1 M 84 G) [(0, rf g 78), (1, iv b), (2, iv h), (3, iv s)] [iv 0, iv (G h), iv h, rf g 84] 41
                refine v_if_eq (tgt := 62) ok (by decide) dX10_flows_41 (by decide) (fun c12 => ?_) (fun c12 => absurd c12 (by decide))
                refine v_iconst (n := 0) ok dX10_flows_62 ?_
                refine v_iadd ok dX10_flows_63 ?_
                refine v_iast (n := 30) (f0 := G) ok (by decide) rfl (by omega) rfl dX10_flows_64 ?_
                rw [up1_up1]
                refine v_iinc ok 3 [(3, iv (s + 1)), (0, rf g 78), (1, iv b), (2, iv h)] dX10_flows_65 rfl (by decide) rfl ?_
                refine v_goto (tgt := 17) ok dX10_flows_68 (by decide) ?_
                refine v_lv (ls' := [(0, rf g 78), (1, iv b), (2, iv h), (3, iv (s + 1))]) ok [1, 2, 3, 0] rfl ?_
                exact ih17 (s + 1) (up G h ((G h) + 0)) (by omega) (fun j j0 j1 => by rw [up_ne (by omega)]; exact i17_1 j j0 j1) (by rw [up_same, flw_s i17_0.1, i17_2]; first | rw [if_pos (by omega)] | rw [if_neg (by omega)]) (by omega)
        refine v_lv (ls' := [(0, rf g 78), (1, iv b), (2, iv h), (3, iv 0)]) ok [1, 2, 3, 0] rfl ?_
        exact lp17 _ 0 (up F h 0) (by omega) (fun j j0 j1 => by rw [up_ne (by omega)]; exact i2_1 j j0 j1) (up_same _ _ _) (Nat.lt_succ_self _)
  refine v_lv (ls' := [(0, rf g 78), (1, iv b), (2, iv 0)]) ok [1, 2, 0] rfl ?_
  rw [show (M : Mem) = (up1 M 84 (M 84)) from (by
        funext j
        by_cases hj0 : j = 84
        · subst hj0; simp [up1, up1_self]
        simp [up1, hj0])]
  exact lp2 _ 0 (M 84) (by omega) (fun j j0 j1 => by omega) (Nat.lt_succ_self _)

theorem mk_X10_goesOut_164 : Cond.methodLink RX10 164 Lib.Math.max.name ∈ wsX10_goesOut := by decide +kernel
theorem mmaxs_X10_goesOut : Cond.static Lib.Math.max.name ∈ wsX10_goesOut := by decide +kernel
theorem mmi_X10_goesOut : Cond.initialized "java/lang/Math" ∈ wsX10_goesOut := by decide +kernel
theorem mmaxc_X10_goesOut : Cond.code Lib.Math.max.name Lib.Math.max.code 2 (some .int) ∈ wsX10_goesOut := by decide +kernel
theorem mk_X10_goesOut_159 : Cond.methodLink RX10 159 Lib.Math.min.name ∈ wsX10_goesOut := by decide +kernel
theorem mmins_X10_goesOut : Cond.static Lib.Math.min.name ∈ wsX10_goesOut := by decide +kernel
theorem mminc_X10_goesOut : Cond.code Lib.Math.min.name Lib.Math.min.code 2 (some .int) ∈ wsX10_goesOut := by decide +kernel
set_option maxRecDepth 100000 in
set_option maxHeartbeats 400000 in
theorem ct_X10_goesOut (l : Launch) (g : Gl) (M : Mem) (k n x : Int) (hk : 2 ≤ k ∧ k ≤ 4) (hn : 0 ≤ n ∧ n ≤ 9) (hp : k = 2 → 1 ≤ n) (hx : 0 ≤ x ∧ x ≤ 1000000) : Ct l g yX10_goesOut wsX10_goesOut 1 21 [iv k, iv n, iv x] M (fun rv M' => rv = some (iv (ofs k n x)) ∧ M' = M) := by
  refine Ct.of (cc := cX10_goesOut) (nL := 3) (ret := (some .int)) (by decide) rfl (Nat.le_of_ble_eq_true rfl) (fun z hz ok rt => ?_)
  have ok : Ok z g cX10_goesOut 3 RX10 wsX10_goesOut 1 21 := ok
  show V z g 3 M [(0, iv k), (1, iv n), (2, iv x)] [] 0
  refine v_iload_n ok 0 dX10_goesOut_0 rfl rfl ?_
  refine v_iconst (n := 2) ok dX10_goesOut_1 ?_
  refine v_icmp_ne (tgt := 11) ok ⟨by omega, by omega⟩ (by decide) dX10_goesOut_2 (by decide) (fun c1 => ?_) (fun c1 => ?_)
  · skip
    refine v_iload_n ok 0 dX10_goesOut_11 rfl rfl ?_
    refine v_iconst (n := 3) ok dX10_goesOut_12 ?_
    refine v_icmp_ne (tgt := 24) ok ⟨by omega, by omega⟩ (by decide) dX10_goesOut_13 (by decide) (fun c2 => ?_) (fun c2 => ?_)
    · skip
      refine v_iconst (n := 0) ok dX10_goesOut_24 ?_
      refine v_iload_n ok 2 dX10_goesOut_25 rfl rfl ?_
      refine v_iload_n ok 1 dX10_goesOut_26 rfl rfl ?_
      refine v_isub ok dX10_goesOut_27 ?_
      refine v_mmax ok (by decide) ⟨by omega, by omega⟩ mk_X10_goesOut_164 mmaxs_X10_goesOut mmi_X10_goesOut mmaxc_X10_goesOut ⟨by decide, Nat.le_of_ble_eq_true rfl⟩ dX10_goesOut_28 ?_
      exact v_iret ok rt dX10_goesOut_31 (⟨(congrArg (fun q : Int => some (iv q)) (show (max 0 (x - n)) = (ofs k n x) from by (unfold ofs; (repeat' split) <;> omega))), rfl⟩)
    · skip
      refine v_iload_n ok 2 dX10_goesOut_16 rfl rfl ?_
      refine v_iload_n ok 1 dX10_goesOut_17 rfl rfl ?_
      refine v_mmin ok ⟨by omega, by omega⟩ ⟨by omega, by omega⟩ mk_X10_goesOut_159 mmins_X10_goesOut mmi_X10_goesOut mminc_X10_goesOut ⟨by decide, Nat.le_of_ble_eq_true rfl⟩ dX10_goesOut_18 ?_
      refine v_goto (tgt := 31) ok dX10_goesOut_21 (by decide) ?_
      exact v_iret ok rt dX10_goesOut_31 (⟨(congrArg (fun q : Int => some (iv q)) (show (min x n) = (ofs k n x) from by (unfold ofs; (repeat' split) <;> omega))), rfl⟩)
  · skip
    refine v_iload_n ok 2 dX10_goesOut_5 rfl rfl ?_
    refine v_iload_n ok 1 dX10_goesOut_6 rfl rfl ?_
    refine v_idiv ok (by omega) (by omega) dX10_goesOut_7 ?_
    refine v_goto (tgt := 31) ok dX10_goesOut_8 (by decide) ?_
    exact v_iret ok rt dX10_goesOut_31 (⟨(congrArg (fun q : Int => some (iv q)) (show (x / n) = (ofs k n x) from by (unfold ofs; (repeat' split) <;> omega))), rfl⟩)

theorem mk_X10_goes_11 : Cond.fieldLink RX10 11 "StormRunoffModel" "w" "[I" ∈ wsX10_goes := by decide +kernel
theorem mi_X10_goes_10 : ∀ w ∈ wsX100, w ∈ wsX10_goes := by decide +kernel
theorem mk_X10_goes_170 : Cond.fieldLink RX10 170 "StormRunoffModel" "store" "I" ∈ wsX10_goes := by decide +kernel
theorem mk_X10_goes_27 : Cond.fieldLink RX10 27 "StormRunoffModel" "flow" "[I" ∈ wsX10_goes := by decide +kernel
theorem mk_X10_goes_30 : Cond.fieldLink RX10 30 "StormRunoffModel" "out" "[I" ∈ wsX10_goes := by decide +kernel
set_option maxRecDepth 100000 in
set_option maxHeartbeats 400000 in
theorem ct_X10_goes (l : Launch) (g : Gl) (M : Mem) (b : Int) (hb : 0 ≤ b ∧ b ≤ 2) (hw : WOk (M 79)) : Ct l g yX10_goes wsX10_goes 2 48 [rf g 78, iv b] M (fun rv M' => rv = none ∧ M' = (up1 (up1 (up1 M 84 (fl (M 79) (bsA (M 79) b) 8)) 78 (up (M 78) 13 (sto (bsK (M 79) b) (bsN (M 79) b) (fl (M 79) (bsA (M 79) b) 8) 30))) 85 (otp (bsK (M 79) b) (bsN (M 79) b) (fl (M 79) (bsA (M 79) b) 8)))) := by
  refine Ct.of (cc := cX10_goes) (nL := 5) (ret := none) (by decide) rfl (Nat.le_of_ble_eq_true rfl) (fun z hz ok rt => ?_)
  have ok : Ok z g cX10_goes 5 RX10 wsX10_goes 2 48 := ok
  show V z g 5 M [(0, rf g 78), (1, iv b)] [] 0
  have hbo := hw.2.2.2.1 b hb.1 (by omega)
  have hA := hbo.1
  have hK := hbo.2.2.1
  have hN := hbo.2.2.2.1
  have hP := hbo.2.2.2.2
  have hR := hw.1
  have hF := fl_rng hR hA 30
  refine v_aload_n ok 0 dX10_goes_0 rfl rfl ?_
  refine v_iload_n ok 1 dX10_goes_1 rfl rfl ?_
  refine v_callV (na := 1) (i := 78) (C := RX10) (T := TX10) (N := 22) (f0 := (M 78)) ok (ct_X10_flows z.2.1 g M b (by first | omega | assumption)) gX10_goes_X10_flows (kd_lt (show kd 78 = 10 from rfl) (by decide)) rfl rfl (cellF_10 _ (by decide)) rfl (by decide +kernel) rfl (by decide) [] rfl (Nat.le_of_ble_eq_true rfl) dX10_goes_2 (fun v2 M3 hp1 => ?_)
  obtain ⟨rfl, rfl⟩ := hp1
  show V z g 5 (up1 M 84 (fl ((M 79)) (bsA ((M 79)) b) 8)) [(0, rf g 78), (1, iv b)] [] 5
  refine v_aload_n ok 0 dX10_goes_5 rfl rfl ?_
  refine v_get (T := TX10) (N := 22) (f0 := (M 78)) (v := rf g 79) ok mi_X10_goes_10 (kd_lt (show kd 78 = 10 from rfl) (by decide)) rfl rfl (cellF_10 _ (by decide)) 0 (by decide) mk_X10_goes_11 rfl rfl dX10_goes_6 ?_
  refine v_bipush (n := 21) ok rfl dX10_goes_9 ?_
  refine v_bipush (n := 8) ok rfl dX10_goes_11 ?_
  refine v_iload_n ok 1 dX10_goes_13 rfl rfl ?_
  refine v_imul ok dX10_goes_14 ?_
  refine v_iadd ok dX10_goes_15 ?_
  refine v_bipush (n := 6) ok rfl dX10_goes_16 ?_
  refine v_iadd ok dX10_goes_18 ?_
  refine v_iald (n := 90) (f0 := (M 79)) ok (by decide) rfl (by omega) rfl dX10_goes_19 ?_
  rw [show ((M 79 ((21 + (8 * b)) + 6)) : Int) = (bsK (M 79) b) from rfl]
  refine v_istore_n ok [(2, iv (bsK (M 79) b)), (0, rf g 78), (1, iv b)] dX10_goes_20 rfl (by decide) rfl ?_
  refine v_aload_n ok 1 dX10_goes_21 rfl rfl ?_
  refine v_get (T := TX10) (N := 22) (f0 := (M 78)) (v := rf g 79) ok mi_X10_goes_10 (kd_lt (show kd 78 = 10 from rfl) (by decide)) rfl rfl (cellF_10 _ (by decide)) 0 (by decide) mk_X10_goes_11 rfl rfl dX10_goes_22 ?_
  refine v_bipush (n := 21) ok rfl dX10_goes_25 ?_
  refine v_bipush (n := 8) ok rfl dX10_goes_27 ?_
  refine v_iload_n ok 2 dX10_goes_29 rfl rfl ?_
  refine v_imul ok dX10_goes_30 ?_
  refine v_iadd ok dX10_goes_31 ?_
  refine v_bipush (n := 7) ok rfl dX10_goes_32 ?_
  refine v_iadd ok dX10_goes_34 ?_
  refine v_iald (n := 90) (f0 := (M 79)) ok (by decide) rfl (by omega) rfl dX10_goes_35 ?_
  rw [show ((M 79 ((21 + (8 * b)) + 7)) : Int) = (bsN (M 79) b) from rfl]
  refine v_istore_n ok [(3, iv (bsN (M 79) b)), (2, iv (bsK (M 79) b)), (0, rf g 78), (1, iv b)] dX10_goes_36 rfl (by decide) rfl ?_
  refine v_aload_n ok 2 dX10_goes_37 rfl rfl ?_
  refine v_iconst (n := 0) ok dX10_goes_38 ?_
  refine v_put (T := TX10) (N := 22) (f0 := (M 78)) (f' := up (M 78) 13 0) (ty := .int) ok mi_X10_goes_10 (kd_lt (show kd 78 = 10 from rfl) (by decide)) rfl rfl (cellF_10 _ (by decide)) tyX10 tyX10_ok nmX10 13 (by decide) mk_X10_goes_170 rfl rfl (by decide +kernel) rfl rfl (Nat.le_of_ble_eq_true rfl) ((cellF_10 _ (by decide)).trans rfl) dX10_goes_39 ?_
  refine v_iconst (n := 0) ok dX10_goes_42 ?_
  refine v_istore ok [(4, iv 0), (3, iv (bsN (M 79) b)), (2, iv (bsK (M 79) b)), (0, rf g 78), (1, iv b)] dX10_goes_43 (by decide) rfl ?_
  have lp45 : ∀ (fu : Nat) (h S : Int) (O : Int → Int), (0 ≤ h ∧ h ≤ 30) → (S = sto (bsK (M 79) b) (bsN (M 79) b) (fl (M 79) (bsA (M 79) b) 8) h.toNat) → (∀ j : Int, 0 ≤ j → j < h → O j = (otp (bsK (M 79) b) (bsN (M 79) b) (fl (M 79) (bsA (M 79) b) 8)) j) → (30 - h).toNat < fu → V z g 5 (up1 (up1 (up1 M 84 (fl (M 79) (bsA (M 79) b) 8)) 78 (up (M 78) 13 S)) 85 O) [(0, rf g 78), (1, iv b), (2, iv (bsK (M 79) b)), (3, iv (bsN (M 79) b)), (4, iv h)] [] 45 := by
    intro fu
    induction fu with
    | zero => intro h S O _ _ _ hm; exact absurd hm (Nat.not_lt_zero _)
    | succ fu ih45 =>
      intro h S O i45_0 i45_1 i45_2 hm45
      have hS := sto_rng (k := (bsK (M 79) b)) hN.1 hF h.toNat (by omega)
      refine v_iload ok 4 dX10_goes_45 rfl ?_
      refine v_bipush (n := 30) ok rfl dX10_goes_47 ?_
      skip
      refine v_icmp_ge (tgt := 161) ok ⟨by omega, by omega⟩ (by decide) dX10_goes_49 (by decide) (fun c4 => ?_) (fun c4 => ?_)
      · skip
        have e30 : h = 30 := by omega
        subst e30
        refine v_cong (n := 30) (otp (bsK (M 79) b) (bsN (M 79) b) (fl (M 79) (bsA (M 79) b) 8)) (Or.inl (by decide)) rfl (fun j j0 j1 => i45_2 j j0 j1) ?_
        rw [show ((up1 (up1 (up1 M 84 (fl (M 79) (bsA (M 79) b) 8)) 78 (up (M 78) 13 S)) 85 (otp (bsK (M 79) b) (bsN (M 79) b) (fl (M 79) (bsA (M 79) b) 8))) : Mem) = (up1 (up1 (up1 M 84 (fl (M 79) (bsA (M 79) b) 8)) 78 (up (M 78) 13 (sto (bsK (M 79) b) (bsN (M 79) b) (fl (M 79) (bsA (M 79) b) 8) 30))) 85 (otp (bsK (M 79) b) (bsN (M 79) b) (fl (M 79) (bsA (M 79) b) 8))) from (by rw [i45_1]; rfl)]
        exact v_vret ok rt dX10_goes_161 (⟨rfl, rfl⟩)
      · skip
        have hF5 := hF h (by omega) (by omega)
        refine v_iload_n ok 2 dX10_goes_52 rfl rfl ?_
        refine v_if_ne (tgt := 73) ok ⟨by omega, by omega⟩ dX10_goes_53 (by decide) (fun c5 => ?_) (fun c5 => ?_)
        · skip
          refine v_iload_n ok 2 dX10_goes_73 rfl rfl ?_
          refine v_iconst (n := 1) ok dX10_goes_74 ?_
          refine v_icmp_ne (tgt := 107) ok ⟨by omega, by omega⟩ (by decide) dX10_goes_75 (by decide) (fun c6 => ?_) (fun c6 => ?_)
          · skip
            have hof := ofs_rng (k := (bsK (M 79) b)) (n := (bsN (M 79) b)) (x := S + (fl (M 79) (bsA (M 79) b) 8) h) (by omega) hN.1
            have hs2 : S + (fl (M 79) (bsA (M 79) b) 8) h - ofs (bsK (M 79) b) (bsN (M 79) b) (S + (fl (M 79) (bsA (M 79) b) 8) h) = sto (bsK (M 79) b) (bsN (M 79) b) (fl (M 79) (bsA (M 79) b) 8) (h + 1).toNat := by rw [sto_s i45_0.1, if_neg (by omega), ← i45_1]
            have hs3 := up_lt (F := O) (G := (otp (bsK (M 79) b) (bsN (M 79) b) (fl (M 79) (bsA (M 79) b) 8))) (k := h) (v := ofs (bsK (M 79) b) (bsN (M 79) b) (S + (fl (M 79) (bsA (M 79) b) 8) h)) i45_2 (by unfold otp; rw [if_neg (by omega), ← i45_1])
            refine v_aload_n ok 0 dX10_goes_107 rfl rfl ?_
            refine v_dup ok rfl dX10_goes_108 ?_
            refine v_get (T := TX10) (N := 22) (f0 := (up (M 78) 13 S)) (v := iv S) ok mi_X10_goes_10 (kd_lt (show kd 78 = 10 from rfl) (by decide)) rfl rfl (cellF_10 _ (by decide)) 13 (by decide) mk_X10_goes_170 rfl rfl dX10_goes_109 ?_
            refine v_aload_n ok 0 dX10_goes_112 rfl rfl ?_
            refine v_get (T := TX10) (N := 22) (f0 := (up (M 78) 13 S)) (v := rf g 84) ok mi_X10_goes_10 (kd_lt (show kd 78 = 10 from rfl) (by decide)) rfl rfl (cellF_10 _ (by decide)) 10 (by decide) mk_X10_goes_27 rfl rfl dX10_goes_113 ?_
            refine v_iload ok 4 dX10_goes_116 rfl ?_
            refine v_iald (n := 30) (f0 := (fl (M 79) (bsA (M 79) b) 8)) ok (by decide) rfl (by omega) rfl dX10_goes_118 ?_
            refine v_iadd ok dX10_goes_119 ?_
            refine v_put (T := TX10) (N := 22) (f0 := (up (M 78) 13 S)) (f' := up (up (M 78) 13 S) 13 (S + ((fl (M 79) (bsA (M 79) b) 8) h))) (ty := .int) ok mi_X10_goes_10 (kd_lt (show kd 78 = 10 from rfl) (by decide)) rfl rfl (cellF_10 _ (by decide)) tyX10 tyX10_ok nmX10 13 (by decide) mk_X10_goes_170 rfl rfl (by decide +kernel) rfl rfl (Nat.le_of_ble_eq_true rfl) ((cellF_10 _ (by decide)).trans rfl) dX10_goes_120 ?_
            rw [up_up]
            rw [show (up1 (up1 (up1 (up1 M 84 (fl (M 79) (bsA (M 79) b) 8)) 78 (up (M 78) 13 S)) 85 O) 78 (up (M 78) 13 (S + ((fl (M 79) (bsA (M 79) b) 8) h))) : Mem) = (up1 (up1 (up1 M 84 (fl (M 79) (bsA (M 79) b) 8)) 78 (up (M 78) 13 (S + ((fl (M 79) (bsA (M 79) b) 8) h)))) 85 O) from (by
                  funext j
                  by_cases hj0 : j = 84
                  · subst hj0; simp [up1, up1_self]
                  by_cases hj1 : j = 78
                  · subst hj1; simp [up1, up1_self]
                  by_cases hj2 : j = 85
                  · subst hj2; simp [up1, up1_self]
                  simp [up1, hj0, hj1, hj2])]
            refine v_aload_n ok 0 dX10_goes_123 rfl rfl ?_
            refine v_get (T := TX10) (N := 22) (f0 := up (M 78) 13 (S + ((fl (M 79) (bsA (M 79) b) 8) h))) (v := rf g 85) ok mi_X10_goes_10 (kd_lt (show kd 78 = 10 from rfl) (by decide)) rfl rfl (cellF_10 _ (by decide)) 11 (by decide) mk_X10_goes_30 rfl rfl dX10_goes_124 ?_
            refine v_iload ok 4 dX10_goes_127 rfl ?_
            refine v_iload_n ok 2 dX10_goes_129 rfl rfl ?_
            refine v_iload_n ok 3 dX10_goes_130 rfl rfl ?_
            refine v_aload_n ok 0 dX10_goes_131 rfl rfl ?_
            refine v_get (T := TX10) (N := 22) (f0 := up (M 78) 13 (S + ((fl (M 79) (bsA (M 79) b) 8) h))) (v := iv (S + ((fl (M 79) (bsA (M 79) b) 8) h))) ok mi_X10_goes_10 (kd_lt (show kd 78 = 10 from rfl) (by decide)) rfl rfl (cellF_10 _ (by decide)) 13 (by decide) mk_X10_goes_170 rfl rfl dX10_goes_132 ?_
            refine v_callS (na := 3) ok (ct_X10_goesOut z.2.1 g (up1 (up1 (up1 M 84 (fl (M 79) (bsA (M 79) b) 8)) 78 (up (M 78) 13 (S + ((fl (M 79) (bsA (M 79) b) 8) h)))) 85 O) (bsK (M 79) b) (bsN (M 79) b) (S + ((fl (M 79) (bsA (M 79) b) 8) h)) (by omega) hN hP (by omega)) gX10_goes_X10_goesOut rfl (by decide +kernel) rfl (by decide) [iv h, rf g 85] rfl (Nat.le_of_ble_eq_true rfl) dX10_goes_135 (fun v8 M9 hp7 => ?_)
            obtain ⟨rfl, rfl⟩ := hp7
            show V z g 5 (up1 (up1 (up1 M 84 (fl (M 79) (bsA (M 79) b) 8)) 78 (up (M 78) 13 (S + ((fl (M 79) (bsA (M 79) b) 8) h)))) 85 O) [(0, rf g 78), (1, iv b), (2, iv (bsK (M 79) b)), (3, iv (bsN (M 79) b)), (4, iv h)] [iv (ofs (bsK (M 79) b) (bsN (M 79) b) (S + ((fl (M 79) (bsA (M 79) b) 8) h))), iv h, rf g 85] 138
            refine v_iast (n := 30) (f0 := O) ok (by decide) rfl (by omega) rfl dX10_goes_138 ?_
            rw [up1_up1]
            refine v_aload_n ok 0 dX10_goes_139 rfl rfl ?_
            refine v_dup ok rfl dX10_goes_140 ?_
            refine v_get (T := TX10) (N := 22) (f0 := up (M 78) 13 (S + ((fl (M 79) (bsA (M 79) b) 8) h))) (v := iv (S + ((fl (M 79) (bsA (M 79) b) 8) h))) ok mi_X10_goes_10 (kd_lt (show kd 78 = 10 from rfl) (by decide)) rfl rfl (cellF_10 _ (by decide)) 13 (by decide) mk_X10_goes_170 rfl rfl dX10_goes_141 ?_
            refine v_aload_n ok 0 dX10_goes_144 rfl rfl ?_
            refine v_get (T := TX10) (N := 22) (f0 := up (M 78) 13 (S + ((fl (M 79) (bsA (M 79) b) 8) h))) (v := rf g 85) ok mi_X10_goes_10 (kd_lt (show kd 78 = 10 from rfl) (by decide)) rfl rfl (cellF_10 _ (by decide)) 11 (by decide) mk_X10_goes_30 rfl rfl dX10_goes_145 ?_
            refine v_iload ok 4 dX10_goes_148 rfl ?_
            refine v_iald (n := 30) (f0 := up O h (ofs (bsK (M 79) b) (bsN (M 79) b) (S + ((fl (M 79) (bsA (M 79) b) 8) h)))) ok (by decide) rfl (by omega) rfl dX10_goes_150 ?_
            rw [show ((up O h (ofs (bsK (M 79) b) (bsN (M 79) b) (S + ((fl (M 79) (bsA (M 79) b) 8) h))) h) : Int) = (ofs (bsK (M 79) b) (bsN (M 79) b) (S + (fl (M 79) (bsA (M 79) b) 8) h)) from (up_same _ _ _)]
            refine v_isub ok dX10_goes_151 ?_
            refine v_put (T := TX10) (N := 22) (f0 := up (M 78) 13 (S + ((fl (M 79) (bsA (M 79) b) 8) h))) (f' := up (up (M 78) 13 (S + ((fl (M 79) (bsA (M 79) b) 8) h))) 13 ((S + ((fl (M 79) (bsA (M 79) b) 8) h)) - (ofs (bsK (M 79) b) (bsN (M 79) b) (S + (fl (M 79) (bsA (M 79) b) 8) h)))) (ty := .int) ok mi_X10_goes_10 (kd_lt (show kd 78 = 10 from rfl) (by decide)) rfl rfl (cellF_10 _ (by decide)) tyX10 tyX10_ok nmX10 13 (by decide) mk_X10_goes_170 rfl rfl (by decide +kernel) rfl rfl (Nat.le_of_ble_eq_true rfl) ((cellF_10 _ (by decide)).trans rfl) dX10_goes_152 ?_
            rw [up_up]
            rw [show (up1 (up1 (up1 (up1 M 84 (fl (M 79) (bsA (M 79) b) 8)) 78 (up (M 78) 13 (S + ((fl (M 79) (bsA (M 79) b) 8) h)))) 85 (up O h (ofs (bsK (M 79) b) (bsN (M 79) b) (S + ((fl (M 79) (bsA (M 79) b) 8) h))))) 78 (up (M 78) 13 ((S + ((fl (M 79) (bsA (M 79) b) 8) h)) - (ofs (bsK (M 79) b) (bsN (M 79) b) (S + (fl (M 79) (bsA (M 79) b) 8) h)))) : Mem) = (up1 (up1 (up1 M 84 (fl (M 79) (bsA (M 79) b) 8)) 78 (up (M 78) 13 ((S + ((fl (M 79) (bsA (M 79) b) 8) h)) - (ofs (bsK (M 79) b) (bsN (M 79) b) (S + (fl (M 79) (bsA (M 79) b) 8) h))))) 85 (up O h (ofs (bsK (M 79) b) (bsN (M 79) b) (S + ((fl (M 79) (bsA (M 79) b) 8) h))))) from (by
                  funext j
                  by_cases hj0 : j = 84
                  · subst hj0; simp [up1, up1_self]
                  by_cases hj1 : j = 78
                  · subst hj1; simp [up1, up1_self]
                  by_cases hj2 : j = 85
                  · subst hj2; simp [up1, up1_self]
                  simp [up1, hj0, hj1, hj2])]
            refine v_iinc ok 4 [(4, iv (h + 1)), (0, rf g 78), (1, iv b), (2, iv (bsK (M 79) b)), (3, iv (bsN (M 79) b))] dX10_goes_155 rfl (by decide) rfl ?_
            refine v_goto (tgt := 45) ok dX10_goes_158 (by decide) ?_
            refine v_lv (ls' := [(0, rf g 78), (1, iv b), (2, iv (bsK (M 79) b)), (3, iv (bsN (M 79) b)), (4, iv (h + 1))]) ok [1, 2, 3, 4, 0] rfl ?_
            exact ih45 (h + 1) ((S + ((fl (M 79) (bsA (M 79) b) 8) h)) - (ofs (bsK (M 79) b) (bsN (M 79) b) (S + (fl (M 79) (bsA (M 79) b) 8) h))) (up O h (ofs (bsK (M 79) b) (bsN (M 79) b) (S + ((fl (M 79) (bsA (M 79) b) 8) h)))) (by omega) hs2 hs3 (by omega)
          · skip
            have hk1 : (bsK (M 79) b) = 1 := by omega
            have hz := sto_0 (n := (bsN (M 79) b)) (F := (fl (M 79) (bsA (M 79) b) 8)) (Or.inr hk1)
            have hs2 : S = sto (bsK (M 79) b) (bsN (M 79) b) (fl (M 79) (bsA (M 79) b) 8) (h + 1).toNat := by rw [i45_1, hz, hz]
            refine v_aload_n ok 0 dX10_goes_78 rfl rfl ?_
            refine v_get (T := TX10) (N := 22) (f0 := (up (M 78) 13 S)) (v := rf g 85) ok mi_X10_goes_10 (kd_lt (show kd 78 = 10 from rfl) (by decide)) rfl rfl (cellF_10 _ (by decide)) 11 (by decide) mk_X10_goes_30 rfl rfl dX10_goes_79 ?_
            refine v_iload ok 4 dX10_goes_82 rfl ?_
            refine v_iload ok 4 dX10_goes_84 rfl ?_
            refine v_iload_n ok 3 dX10_goes_86 rfl rfl ?_
            refine v_icmp_ge (tgt := 94) ok ⟨by omega, by omega⟩ ⟨by omega, by omega⟩ dX10_goes_87 (by decide) (fun c10 => ?_) (fun c10 => ?_)
            · skip
              have hs3 := up_lt (F := O) (G := (otp (bsK (M 79) b) (bsN (M 79) b) (fl (M 79) (bsA (M 79) b) 8))) (k := h) (v := (fl (M 79) (bsA (M 79) b) 8) (h - (bsN (M 79) b))) i45_2 (by unfold otp; rw [if_pos hk1, if_neg (by omega)])
              refine v_aload_n ok 0 dX10_goes_94 rfl rfl ?_
              refine v_get (T := TX10) (N := 22) (f0 := (up (M 78) 13 S)) (v := rf g 84) ok mi_X10_goes_10 (kd_lt (show kd 78 = 10 from rfl) (by decide)) rfl rfl (cellF_10 _ (by decide)) 10 (by decide) mk_X10_goes_27 rfl rfl dX10_goes_95 ?_
              refine v_iload ok 4 dX10_goes_98 rfl ?_
              refine v_iload_n ok 3 dX10_goes_100 rfl rfl ?_
              refine v_isub ok dX10_goes_101 ?_
              refine v_iald (n := 30) (f0 := (fl (M 79) (bsA (M 79) b) 8)) ok (by decide) rfl (by omega) rfl dX10_goes_102 ?_
              refine v_iast (n := 30) (f0 := O) ok (by decide) rfl (by omega) rfl dX10_goes_103 ?_
              rw [up1_up1]
              refine v_goto (tgt := 155) ok dX10_goes_104 (by decide) ?_
              refine v_iinc ok 4 [(4, iv (h + 1)), (0, rf g 78), (1, iv b), (2, iv (bsK (M 79) b)), (3, iv (bsN (M 79) b))] dX10_goes_155 rfl (by decide) rfl ?_
              refine v_goto (tgt := 45) ok dX10_goes_158 (by decide) ?_
              refine v_lv (ls' := [(0, rf g 78), (1, iv b), (2, iv (bsK (M 79) b)), (3, iv (bsN (M 79) b)), (4, iv (h + 1))]) ok [1, 2, 3, 4, 0] rfl ?_
              exact ih45 (h + 1) S (up O h ((fl (M 79) (bsA (M 79) b) 8) (h - (bsN (M 79) b)))) (by omega) hs2 hs3 (by omega)
            · skip
              have hs3 := up_lt (F := O) (G := (otp (bsK (M 79) b) (bsN (M 79) b) (fl (M 79) (bsA (M 79) b) 8))) (k := h) (v := 0) i45_2 (by unfold otp; rw [if_pos hk1, if_pos (by omega)])
              refine v_iconst (n := 0) ok dX10_goes_90 ?_
              refine v_goto (tgt := 103) ok dX10_goes_91 (by decide) ?_
              refine v_iast (n := 30) (f0 := O) ok (by decide) rfl (by omega) rfl dX10_goes_103 ?_
              rw [up1_up1]
              refine v_goto (tgt := 155) ok dX10_goes_104 (by decide) ?_
              refine v_iinc ok 4 [(4, iv (h + 1)), (0, rf g 78), (1, iv b), (2, iv (bsK (M 79) b)), (3, iv (bsN (M 79) b))] dX10_goes_155 rfl (by decide) rfl ?_
              refine v_goto (tgt := 45) ok dX10_goes_158 (by decide) ?_
              refine v_lv (ls' := [(0, rf g 78), (1, iv b), (2, iv (bsK (M 79) b)), (3, iv (bsN (M 79) b)), (4, iv (h + 1))]) ok [1, 2, 3, 4, 0] rfl ?_
              exact ih45 (h + 1) S (up O h 0) (by omega) hs2 hs3 (by omega)
        · skip
          have hk0 : (bsK (M 79) b) = 0 := by omega
          have hz := sto_0 (n := (bsN (M 79) b)) (F := (fl (M 79) (bsA (M 79) b) 8)) (Or.inl hk0)
          have hs2 : S = sto (bsK (M 79) b) (bsN (M 79) b) (fl (M 79) (bsA (M 79) b) 8) (h + 1).toNat := by rw [i45_1, hz, hz]
          have hs3 := up_lt (F := O) (G := (otp (bsK (M 79) b) (bsN (M 79) b) (fl (M 79) (bsA (M 79) b) 8))) (k := h) (v := (fl (M 79) (bsA (M 79) b) 8) h) i45_2 (by unfold otp; rw [if_neg (by omega), hz, hk0]; unfold ofs; rw [if_neg (by decide), if_neg (by decide), if_neg (by decide)]; omega)
          refine v_aload_n ok 0 dX10_goes_56 rfl rfl ?_
          refine v_get (T := TX10) (N := 22) (f0 := (up (M 78) 13 S)) (v := rf g 85) ok mi_X10_goes_10 (kd_lt (show kd 78 = 10 from rfl) (by decide)) rfl rfl (cellF_10 _ (by decide)) 11 (by decide) mk_X10_goes_30 rfl rfl dX10_goes_57 ?_
          refine v_iload ok 4 dX10_goes_60 rfl ?_
          refine v_aload_n ok 0 dX10_goes_62 rfl rfl ?_
          refine v_get (T := TX10) (N := 22) (f0 := (up (M 78) 13 S)) (v := rf g 84) ok mi_X10_goes_10 (kd_lt (show kd 78 = 10 from rfl) (by decide)) rfl rfl (cellF_10 _ (by decide)) 10 (by decide) mk_X10_goes_27 rfl rfl dX10_goes_63 ?_
          refine v_iload ok 4 dX10_goes_66 rfl ?_
          refine v_iald (n := 30) (f0 := (fl (M 79) (bsA (M 79) b) 8)) ok (by decide) rfl (by omega) rfl dX10_goes_68 ?_
          refine v_iast (n := 30) (f0 := O) ok (by decide) rfl (by omega) rfl dX10_goes_69 ?_
          rw [up1_up1]
          refine v_goto (tgt := 155) ok dX10_goes_70 (by decide) ?_
          refine v_iinc ok 4 [(4, iv (h + 1)), (0, rf g 78), (1, iv b), (2, iv (bsK (M 79) b)), (3, iv (bsN (M 79) b))] dX10_goes_155 rfl (by decide) rfl ?_
          refine v_goto (tgt := 45) ok dX10_goes_158 (by decide) ?_
          refine v_lv (ls' := [(0, rf g 78), (1, iv b), (2, iv (bsK (M 79) b)), (3, iv (bsN (M 79) b)), (4, iv (h + 1))]) ok [1, 2, 3, 4, 0] rfl ?_
          exact ih45 (h + 1) S (up O h ((fl (M 79) (bsA (M 79) b) 8) h)) (by omega) hs2 hs3 (by omega)
  refine v_lv (ls' := [(0, rf g 78), (1, iv b), (2, iv (bsK (M 79) b)), (3, iv (bsN (M 79) b)), (4, iv 0)]) ok [3, 4, 2, 1, 0] rfl ?_
  rw [show ((up1 (up1 M 84 (fl ((M 79)) (bsA ((M 79)) b) 8)) 78 (up (M 78) 13 0)) : Mem) = (up1 (up1 (up1 M 84 (fl (M 79) (bsA (M 79) b) 8)) 78 (up (M 78) 13 (0 : Int))) 85 (M 85)) from (by
        funext j
        by_cases hj0 : j = 84
        · subst hj0; simp [up1, up1_self]
        by_cases hj1 : j = 78
        · subst hj1; simp [up1, up1_self]
        by_cases hj2 : j = 85
        · subst hj2; simp [up1, up1_self]
        simp [up1, hj0, hj1, hj2])]
  exact lp45 _ 0 0 (M 85) (by omega) rfl (fun j j0 j1 => by omega) (Nat.lt_succ_self _)

theorem mk_X10_joins_11 : Cond.fieldLink RX10 11 "StormRunoffModel" "w" "[I" ∈ wsX10_joins := by decide +kernel
theorem mi_X10_joins_10 : ∀ w ∈ wsX100, w ∈ wsX10_joins := by decide +kernel
theorem mk_X10_joins_33 : Cond.fieldLink RX10 33 "StormRunoffModel" "joined" "[I" ∈ wsX10_joins := by decide +kernel
theorem mk_X10_joins_30 : Cond.fieldLink RX10 30 "StormRunoffModel" "out" "[I" ∈ wsX10_joins := by decide +kernel
set_option maxRecDepth 100000 in
set_option maxHeartbeats 400000 in
theorem ct_X10_joins (l : Launch) (g : Gl) (M : Mem)  (hw : WOk (M 79)) : Ct l g yX10_joins wsX10_joins 3 72 [rf g 78] M (fun rv M' => ∃ (F O C : Int → Int), rv = none ∧ M' = (up1 (up1 (up1 (up1 M 84 F) 85 O) 78 C) 86 (jnW (M 79))) ∧ (∀ j : Int, j ≠ 13 → C j = M 78 j)) := by
  refine Ct.of (cc := cX10_joins) (nL := 3) (ret := none) (by decide) rfl (Nat.le_of_ble_eq_true rfl) (fun z hz ok rt => ?_)
  have ok : Ok z g cX10_joins 3 RX10 wsX10_joins 3 72 := ok
  show V z g 3 M [(0, rf g 78)] [] 0
  have hm := hw.2.2.1
  refine v_iconst (n := 0) ok dX10_joins_0 ?_
  refine v_istore_n ok [(1, iv 0), (0, rf g 78)] dX10_joins_1 rfl (by decide) rfl ?_
  have lp2 : ∀ (fu : Nat) (h : Int) (J : Int → Int), (0 ≤ h ∧ h ≤ 30) → (∀ j : Int, 0 ≤ j → j < h → J j = jnN (M 79) 0 j) → (30 - h).toNat < fu → V z g 3 (up1 M 86 J) [(0, rf g 78), (1, iv h)] [] 2 := by
    intro fu
    induction fu with
    | zero => intro h J _ _ hm; exact absurd hm (Nat.not_lt_zero _)
    | succ fu ih2 =>
      intro h J i2_0 i2_1 hm2
      refine v_iload_n ok 1 dX10_joins_2 rfl rfl ?_
      refine v_bipush (n := 30) ok rfl dX10_joins_3 ?_
      refine v_icmp_ge (tgt := 21) ok ⟨by omega, by omega⟩ (by decide) dX10_joins_5 (by decide) (fun c1 => ?_) (fun c1 => ?_)
      · skip
        refine v_cong (n := 30) (jnN (M 79) 0) (Or.inl (by decide)) rfl (fun j j0 j1 => i2_1 j j0 (by omega)) ?_
        refine v_iconst (n := 0) ok dX10_joins_21 ?_
        refine v_istore_n ok [(1, iv 0), (0, rf g 78)] dX10_joins_22 rfl (by decide) rfl ?_
        have lp23 : ∀ (fu : Nat) (b : Int) (F O C : Int → Int), (0 ≤ b ∧ b ≤ M 79 20) → (∀ j : Int, j ≠ 13 → C j = M 78 j) → (M 79 20 - b).toNat < fu → V z g 3 (up1 (up1 (up1 (up1 M 84 F) 85 O) 78 C) 86 (jnN (M 79) b.toNat)) [(0, rf g 78), (1, iv b)] [] 23 := by
          intro fu
          induction fu with
          | zero => intro b F O C _ _ hm; exact absurd hm (Nat.not_lt_zero _)
          | succ fu ih23 =>
            intro b F O C i23_0 i23_1 hm23
            refine v_iload_n ok 1 dX10_joins_23 rfl rfl ?_
            refine v_aload_n ok 0 dX10_joins_24 rfl rfl ?_
            refine v_get (T := TX10) (N := 22) (f0 := C) (v := rf g 79) ok mi_X10_joins_10 (kd_lt (show kd 78 = 10 from rfl) (by decide)) rfl rfl (cellF_10 _ (by decide)) 0 (by decide) mk_X10_joins_11 rfl rfl dX10_joins_25 ?_
            refine v_bipush (n := 20) ok rfl dX10_joins_28 ?_
            refine v_iald (n := 90) (f0 := (M 79)) ok (by decide) rfl (by omega) rfl dX10_joins_30 ?_
            refine v_icmp_ge (tgt := 74) ok ⟨by omega, by omega⟩ ⟨by omega, by omega⟩ dX10_joins_31 (by decide) (fun c2 => ?_) (fun c2 => ?_)
            · skip
              have e20 : b = M 79 20 := by omega
              rw [show ((up1 (up1 (up1 (up1 M 84 F) 85 O) 78 C) 86 (jnN (M 79) b.toNat)) : Mem) = (up1 (up1 (up1 (up1 M 84 F) 85 O) 78 C) 86 (jnW (M 79))) from (by rw [e20]; rfl)]
              exact v_vret ok rt dX10_joins_74 (⟨F, O, C, rfl, rfl, i23_1⟩)
            · skip
              refine v_aload_n ok 0 dX10_joins_34 rfl rfl ?_
              refine v_iload_n ok 1 dX10_joins_35 rfl rfl ?_
              refine v_callV (na := 1) (i := 78) (C := RX10) (T := TX10) (N := 22) (f0 := C) ok (ct_X10_goes z.2.1 g (up1 (up1 (up1 (up1 M 84 F) 85 O) 78 C) 86 (jnN (M 79) b.toNat)) b (by omega) hw) gX10_joins_X10_goes (kd_lt (show kd 78 = 10 from rfl) (by decide)) rfl rfl (cellF_10 _ (by decide)) rfl (by decide +kernel) rfl (by decide) [] rfl (Nat.le_of_ble_eq_true rfl) dX10_joins_36 (fun v4 M5 hp3 => ?_)
              obtain ⟨rfl, rfl⟩ := hp3
              show V z g 3 (up1 (up1 (up1 (up1 (up1 (up1 (up1 M 84 F) 85 O) 78 C) 86 (jnN (M 79) b.toNat)) 84 (fl ((M 79)) (bsA ((M 79)) b) 8)) 78 (up (C) 13 (sto (bsK ((M 79)) b) (bsN ((M 79)) b) (fl ((M 79)) (bsA ((M 79)) b) 8) 30))) 85 (otp (bsK ((M 79)) b) (bsN ((M 79)) b) (fl ((M 79)) (bsA ((M 79)) b) 8))) [(0, rf g 78), (1, iv b)] [] 39
              rw [show ((up1 (up1 (up1 (up1 (up1 (up1 (up1 M 84 F) 85 O) 78 C) 86 (jnN (M 79) b.toNat)) 84 (fl ((M 79)) (bsA ((M 79)) b) 8)) 78 (up (C) 13 (sto (bsK ((M 79)) b) (bsN ((M 79)) b) (fl ((M 79)) (bsA ((M 79)) b) 8) 30))) 85 (otp (bsK ((M 79)) b) (bsN ((M 79)) b) (fl ((M 79)) (bsA ((M 79)) b) 8))) : Mem) = (up1 (up1 (up1 (up1 M 84 (fl ((M 79)) (bsA ((M 79)) b) 8)) 85 (otp (bsK ((M 79)) b) (bsN ((M 79)) b) (fl ((M 79)) (bsA ((M 79)) b) 8))) 78 (up (C) 13 (sto (bsK ((M 79)) b) (bsN ((M 79)) b) (fl ((M 79)) (bsA ((M 79)) b) 8) 30))) 86 (jnN (M 79) b.toNat)) from (by
                    funext j
                    by_cases hj0 : j = 84
                    · subst hj0; simp [up1, up1_self]
                    by_cases hj1 : j = 85
                    · subst hj1; simp [up1, up1_self]
                    by_cases hj2 : j = 78
                    · subst hj2; simp [up1, up1_self]
                    by_cases hj3 : j = 86
                    · subst hj3; simp [up1, up1_self]
                    simp [up1, hj0, hj1, hj2, hj3])]
              refine v_iconst (n := 0) ok dX10_joins_39 ?_
              refine v_istore_n ok [(2, iv 0), (0, rf g 78), (1, iv b)] dX10_joins_40 rfl (by decide) rfl ?_
              have lp41 : ∀ (fu : Nat) (k : Int) (J : Int → Int), (0 ≤ k ∧ k ≤ 30) → (∀ j : Int, 0 ≤ j → j < 30 → J j = if j < k then jnN (M 79) b.toNat j + (otp (bsK (M 79) b) (bsN (M 79) b) (fl (M 79) (bsA (M 79) b) 8)) j else jnN (M 79) b.toNat j) → (30 - k).toNat < fu → V z g 3 (up1 (up1 (up1 (up1 M 84 (fl (M 79) (bsA (M 79) b) 8)) 85 (otp (bsK (M 79) b) (bsN (M 79) b) (fl (M 79) (bsA (M 79) b) 8))) 78 (up C 13 (sto (bsK (M 79) b) (bsN (M 79) b) (fl (M 79) (bsA (M 79) b) 8) 30))) 86 J) [(0, rf g 78), (1, iv b), (2, iv k)] [] 41 := by
                intro fu
                induction fu with
                | zero => intro k J _ _ hm; exact absurd hm (Nat.not_lt_zero _)
                | succ fu ih41 =>
                  intro k J i41_0 i41_1 hm41
                  refine v_iload_n ok 2 dX10_joins_41 rfl rfl ?_
                  refine v_bipush (n := 30) ok rfl dX10_joins_42 ?_
                  refine v_icmp_ge (tgt := 68) ok ⟨by omega, by omega⟩ (by decide) dX10_joins_44 (by decide) (fun c6 => ?_) (fun c6 => ?_)
                  · skip
                    refine v_cong (n := 30) (jnN (M 79) (b + 1).toNat) (Or.inl (by decide)) rfl (fun j j0 j1 => by rw [i41_1 j j0 j1, if_pos (by omega)]; exact (jnN_s i23_0.1 j).symm) ?_
                    have hc1 : ∀ j : Int, j ≠ 13 → up C 13 (sto (bsK (M 79) b) (bsN (M 79) b) (fl (M 79) (bsA (M 79) b) 8) 30) j = M 78 j := fun j hj => by rw [up_ne hj]; exact i23_1 j hj
                    refine v_iinc ok 1 [(1, iv (b + 1)), (0, rf g 78), (2, iv k)] dX10_joins_68 rfl (by decide) rfl ?_
                    refine v_goto (tgt := 23) ok dX10_joins_71 (by decide) ?_
                    refine v_lv (ls' := [(0, rf g 78), (1, iv (b + 1))]) ok [1, 0] rfl ?_
                    exact ih23 (b + 1) (fl (M 79) (bsA (M 79) b) 8) (otp (bsK (M 79) b) (bsN (M 79) b) (fl (M 79) (bsA (M 79) b) 8)) (up C 13 (sto (bsK (M 79) b) (bsN (M 79) b) (fl (M 79) (bsA (M 79) b) 8) 30)) (by omega) hc1 (by omega)
                  · skip
                    refine v_aload_n ok 0 dX10_joins_47 rfl rfl ?_
                    refine v_get (T := TX10) (N := 22) (f0 := (up C 13 (sto (bsK (M 79) b) (bsN (M 79) b) (fl (M 79) (bsA (M 79) b) 8) 30))) (v := rf g 86) ok mi_X10_joins_10 (kd_lt (show kd 78 = 10 from rfl) (by decide)) rfl rfl (cellF_10 _ (by decide)) 12 (by decide) mk_X10_joins_33 rfl rfl dX10_joins_48 ?_
                    refine v_iload_n ok 2 dX10_joins_51 rfl rfl ?_
                    refine v_dup2 ok rfl rfl dX10_joins_52 ?_
                    refine v_iald (n := 30) (f0 := J) ok (by decide) rfl (by omega) rfl dX10_joins_53 ?_
                    refine v_aload_n ok 0 dX10_joins_54 rfl rfl ?_
                    refine v_get (T := TX10) (N := 22) (f0 := (up C 13 (sto (bsK (M 79) b) (bsN (M 79) b) (fl (M 79) (bsA (M 79) b) 8) 30))) (v := rf g 85) ok mi_X10_joins_10 (kd_lt (show kd 78 = 10 from rfl) (by decide)) rfl rfl (cellF_10 _ (by decide)) 11 (by decide) mk_X10_joins_30 rfl rfl dX10_joins_55 ?_
                    refine v_iload_n ok 2 dX10_joins_58 rfl rfl ?_
                    refine v_iald (n := 30) (f0 := (otp (bsK (M 79) b) (bsN (M 79) b) (fl (M 79) (bsA (M 79) b) 8))) ok (by decide) rfl (by omega) rfl dX10_joins_59 ?_
                    refine v_iadd ok dX10_joins_60 ?_
                    refine v_iast (n := 30) (f0 := J) ok (by decide) rfl (by omega) rfl dX10_joins_61 ?_
                    rw [up1_up1]
                    refine v_iinc ok 2 [(2, iv (k + 1)), (0, rf g 78), (1, iv b)] dX10_joins_62 rfl (by decide) rfl ?_
                    refine v_goto (tgt := 41) ok dX10_joins_65 (by decide) ?_
                    refine v_lv (ls' := [(0, rf g 78), (1, iv b), (2, iv (k + 1))]) ok [1, 2, 0] rfl ?_
                    exact ih41 (k + 1) (up J k ((J k) + ((otp (bsK (M 79) b) (bsN (M 79) b) (fl (M 79) (bsA (M 79) b) 8)) k))) (by omega) (fun j j0 j1 => by
                        by_cases e : j = k
                        · rw [e, up_same, if_pos (by omega), i41_1 k (by omega) (by omega), if_neg (by omega)]
                        · rw [up_ne e, i41_1 j j0 j1]
                          by_cases c : j < k
                          · rw [if_pos c, if_pos (by omega)]
                          · rw [if_neg c, if_neg (by omega)]) (by omega)
              refine v_lv (ls' := [(0, rf g 78), (1, iv b), (2, iv 0)]) ok [1, 2, 0] rfl ?_
              exact lp41 _ 0 (jnN (M 79) b.toNat) (by omega) (fun j j0 j1 => by rw [if_neg (by omega)]) (Nat.lt_succ_self _)
        rw [show ((up1 M 86 (jnN (M 79) 0)) : Mem) = (up1 (up1 (up1 (up1 M 84 (M 84)) 85 (M 85)) 78 (M 78)) 86 (jnN (M 79) (0 : Int).toNat)) from (by funext j; by_cases hj0 : j = 84 <;> by_cases hj1 : j = 85 <;> by_cases hj2 : j = 78 <;> by_cases hj3 : j = 86 <;> simp_all [up1])]
        refine v_lv (ls' := [(0, rf g 78), (1, iv 0)]) ok [1, 0] rfl ?_
        exact lp23 _ 0 (M 84) (M 85) (M 78) (by omega) (fun j hj => rfl) (Nat.lt_succ_self _)
      · skip
        refine v_aload_n ok 0 dX10_joins_8 rfl rfl ?_
        refine v_get (T := TX10) (N := 22) (f0 := (M 78)) (v := rf g 86) ok mi_X10_joins_10 (kd_lt (show kd 78 = 10 from rfl) (by decide)) rfl rfl (cellF_10 _ (by decide)) 12 (by decide) mk_X10_joins_33 rfl rfl dX10_joins_9 ?_
        refine v_iload_n ok 1 dX10_joins_12 rfl rfl ?_
        refine v_iconst (n := 0) ok dX10_joins_13 ?_
        refine v_iast (n := 30) (f0 := J) ok (by decide) rfl (by omega) rfl dX10_joins_14 ?_
        rw [up1_up1]
        refine v_iinc ok 1 [(1, iv (h + 1)), (0, rf g 78)] dX10_joins_15 rfl (by decide) rfl ?_
        refine v_goto (tgt := 2) ok dX10_joins_18 (by decide) ?_
        refine v_lv (ls' := [(0, rf g 78), (1, iv (h + 1))]) ok [1, 0] rfl ?_
        exact ih2 (h + 1) (up J h 0) (by omega) (up_lt i2_1 rfl) (by omega)
  refine v_lv (ls' := [(0, rf g 78), (1, iv 0)]) ok [1, 0] rfl ?_
  rw [show (M : Mem) = (up1 M 86 (M 86)) from (by
        funext j
        by_cases hj0 : j = 86
        · subst hj0; simp [up1, up1_self]
        simp [up1, hj0])]
  exact lp2 _ 0 (M 86) (by omega) (fun j j0 j1 => by omega) (Nat.lt_succ_self _)

set_option maxRecDepth 100000 in
set_option maxHeartbeats 400000 in
theorem ct_X10_most (l : Launch) (g : Gl) (M : Mem) (a : Nat) (N f n w hi : Int) (ha : kd a = 11) (hN : (ln a : Int) = N) (hf : 0 ≤ f ∧ f + n ≤ N ∧ 0 < n) (hw : 0 ≤ w ∧ w ≤ 2) (hF : bdf (shf (M a) f) n 0 hi) (hhi : hi ≤ 2147483647) : Ct l g yX10_most wsX10_most 0 0 [rf g a, iv f, iv n, iv w] M (fun rv M' => rv = some (iv (msr w (shf (M a) f) n.toNat)) ∧ M' = M) := by
  refine Ct.of (cc := cX10_most) (nL := 7) (ret := (some .int)) (by decide) rfl (Nat.le_of_ble_eq_true rfl) (fun z hz ok rt => ?_)
  have ok : Ok z g cX10_most 7 RX10 wsX10_most 0 0 := ok
  show V z g 7 M [(0, rf g a), (1, iv f), (2, iv n), (3, iv w)] [] 0
  have hn0 := ln_le a
  refine v_iconst (n := 0) ok dX10_most_0 ?_
  refine v_istore ok [(4, iv 0), (0, rf g a), (1, iv f), (2, iv n), (3, iv w)] dX10_most_1 (by decide) rfl ?_
  refine v_iconst (n := 0) ok dX10_most_3 ?_
  refine v_istore ok [(5, iv 0), (4, iv 0), (0, rf g a), (1, iv f), (2, iv n), (3, iv w)] dX10_most_4 (by decide) rfl ?_
  refine v_iconst (n := 0) ok dX10_most_6 ?_
  refine v_istore ok [(6, iv 0), (5, iv 0), (4, iv 0), (0, rf g a), (1, iv f), (2, iv n), (3, iv w)] dX10_most_7 (by decide) rfl ?_
  have lp9 : ∀ (fu : Nat) (k V0 B0 : Int), (0 ≤ k ∧ k ≤ n) → (V0 = sumf (shf (M a) f) k.toNat) → (B0 = bst (shf (M a) f) k.toNat) → (n - k).toNat < fu → V z g 7 M [(0, rf g a), (1, iv f), (2, iv n), (3, iv w), (4, iv V0), (5, iv B0), (6, iv k)] [] 9 := by
    intro fu
    induction fu with
    | zero => intro k V0 B0 _ _ _ hm; exact absurd hm (Nat.not_lt_zero _)
    | succ fu ih9 =>
      intro k V0 B0 i9_0 i9_1 i9_2 hm9
      have hbr := bst_rng (shf (M a) f) k.toNat
      refine v_iload ok 6 dX10_most_9 rfl ?_
      refine v_iload_n ok 2 dX10_most_11 rfl rfl ?_
      refine v_icmp_ge (tgt := 56) ok ⟨by omega, by omega⟩ ⟨by omega, by omega⟩ dX10_most_12 (by decide) (fun c1 => ?_) (fun c1 => ?_)
      · skip
        have ek : k = n := by omega
        rw [ek] at i9_1 i9_2 hbr
        refine v_iload_n ok 3 dX10_most_56 rfl rfl ?_
        refine v_if_ne (tgt := 65) ok ⟨by omega, by omega⟩ dX10_most_57 (by decide) (fun c2 => ?_) (fun c2 => ?_)
        · skip
          refine v_iload_n ok 3 dX10_most_65 rfl rfl ?_
          refine v_iconst (n := 1) ok dX10_most_66 ?_
          refine v_icmp_ne (tgt := 79) ok ⟨by omega, by omega⟩ (by decide) dX10_most_67 (by decide) (fun c3 => ?_) (fun c3 => ?_)
          · skip
            refine v_iload ok 5 dX10_most_79 rfl ?_
            exact v_iret ok rt dX10_most_81 (⟨(congrArg (fun q : Int => some (iv q)) (show B0 = (msr w (shf (M a) f) n.toNat) from by (unfold msr; first | (rw [if_pos (by omega)]; exact i9_1) | (rw [if_neg (by omega), if_pos (by omega), ← i9_2]; rfl) | (rw [if_neg (by omega), if_neg (by omega)]; exact i9_2)))), rfl⟩)
          · skip
            refine v_aload_n ok 0 dX10_most_70 rfl rfl ?_
            refine v_iload_n ok 1 dX10_most_71 rfl rfl ?_
            refine v_iload ok 5 dX10_most_72 rfl ?_
            refine v_iadd ok dX10_most_74 ?_
            refine v_iald (n := N) (f0 := (M a)) ok ha hN (by omega) rfl dX10_most_75 ?_
            refine v_goto (tgt := 81) ok dX10_most_76 (by decide) ?_
            exact v_iret ok rt dX10_most_81 (⟨(congrArg (fun q : Int => some (iv q)) (show (M a (f + B0)) = (msr w (shf (M a) f) n.toNat) from by (unfold msr; first | (rw [if_pos (by omega)]; exact i9_1) | (rw [if_neg (by omega), if_pos (by omega), ← i9_2]; rfl) | (rw [if_neg (by omega), if_neg (by omega)]; exact i9_2)))), rfl⟩)
        · skip
          refine v_iload ok 4 dX10_most_60 rfl ?_
          refine v_goto (tgt := 81) ok dX10_most_62 (by decide) ?_
          exact v_iret ok rt dX10_most_81 (⟨(congrArg (fun q : Int => some (iv q)) (show V0 = (msr w (shf (M a) f) n.toNat) from by (unfold msr; first | (rw [if_pos (by omega)]; exact i9_1) | (rw [if_neg (by omega), if_pos (by omega), ← i9_2]; rfl) | (rw [if_neg (by omega), if_neg (by omega)]; exact i9_2)))), rfl⟩)
      · skip
        have h1 : 0 ≤ M a (f + k) ∧ M a (f + k) ≤ hi := hF k (by omega) (by omega)
        have h2 : 0 ≤ M a (f + B0) ∧ M a (f + B0) ≤ hi := hF B0 (by omega) (by omega)
        refine v_iload ok 4 dX10_most_15 rfl ?_
        refine v_aload_n ok 0 dX10_most_17 rfl rfl ?_
        refine v_iload_n ok 1 dX10_most_18 rfl rfl ?_
        refine v_iload ok 6 dX10_most_19 rfl ?_
        refine v_iadd ok dX10_most_21 ?_
        refine v_iald (n := N) (f0 := (M a)) ok ha hN (by omega) rfl dX10_most_22 ?_
        refine v_iadd ok dX10_most_23 ?_
        refine v_istore ok [(4, iv (V0 + (M a (f + k)))), (0, rf g a), (1, iv f), (2, iv n), (3, iv w), (5, iv B0), (6, iv k)] dX10_most_24 (by decide) rfl ?_
        refine v_aload_n ok 1 dX10_most_26 rfl rfl ?_
        refine v_iload_n ok 2 dX10_most_27 rfl rfl ?_
        refine v_iload ok 6 dX10_most_28 rfl ?_
        refine v_iadd ok dX10_most_30 ?_
        refine v_iald (n := N) (f0 := (M a)) ok ha hN (by omega) rfl dX10_most_31 ?_
        refine v_aload_n ok 1 dX10_most_32 rfl rfl ?_
        refine v_iload_n ok 2 dX10_most_33 rfl rfl ?_
        refine v_iload ok 5 dX10_most_34 rfl ?_
        refine v_iadd ok dX10_most_36 ?_
        refine v_iald (n := N) (f0 := (M a)) ok ha hN (by omega) rfl dX10_most_37 ?_
        refine v_icmp_le (tgt := 46) ok ⟨by omega, by omega⟩ ⟨by omega, by omega⟩ dX10_most_38 (by decide) (fun c4 => ?_) (fun c4 => ?_)
        · skip
          have hb2 : B0 = bst (shf (M a) f) (k + 1).toNat := by
            rw [bst_s i9_0.1, ← i9_2, if_neg (by show ¬ M a (f + B0) < M a (f + k); omega)]
          refine v_iload ok 5 dX10_most_46 rfl ?_
          refine v_istore ok [(5, iv B0), (4, iv (V0 + (M a (f + k)))), (0, rf g a), (1, iv f), (2, iv n), (3, iv w), (6, iv k)] dX10_most_48 (by decide) rfl ?_
          refine v_iinc ok 6 [(6, iv (k + 1)), (5, iv B0), (4, iv (V0 + (M a (f + k)))), (0, rf g a), (1, iv f), (2, iv n), (3, iv w)] dX10_most_50 rfl (by decide) rfl ?_
          refine v_goto (tgt := 9) ok dX10_most_53 (by decide) ?_
          refine v_lv (ls' := [(0, rf g a), (1, iv f), (2, iv n), (3, iv w), (4, iv (V0 + (M a (f + k)))), (5, iv B0), (6, iv (k + 1))]) ok [3, 4, 5, 6, 2, 1, 0] rfl ?_
          exact ih9 (k + 1) (V0 + (M a (f + k))) B0 (by omega) (by rw [sumf_s i9_0.1, i9_1]; rfl) hb2 (by omega)
        · skip
          have hb2 : k = bst (shf (M a) f) (k + 1).toNat := by
            rw [bst_s i9_0.1, ← i9_2, if_pos (by show M a (f + B0) < M a (f + k); omega)]
          refine v_iload ok 6 dX10_most_41 rfl ?_
          refine v_goto (tgt := 48) ok dX10_most_43 (by decide) ?_
          refine v_istore ok [(5, iv k), (4, iv (V0 + (M a (f + k)))), (0, rf g a), (1, iv f), (2, iv n), (3, iv w), (6, iv k)] dX10_most_48 (by decide) rfl ?_
          refine v_iinc ok 6 [(6, iv (k + 1)), (5, iv k), (4, iv (V0 + (M a (f + k)))), (0, rf g a), (1, iv f), (2, iv n), (3, iv w)] dX10_most_50 rfl (by decide) rfl ?_
          refine v_goto (tgt := 9) ok dX10_most_53 (by decide) ?_
          refine v_lv (ls' := [(0, rf g a), (1, iv f), (2, iv n), (3, iv w), (4, iv (V0 + (M a (f + k)))), (5, iv k), (6, iv (k + 1))]) ok [3, 4, 5, 6, 2, 1, 0] rfl ?_
          exact ih9 (k + 1) (V0 + (M a (f + k))) k (by omega) (by rw [sumf_s i9_0.1, i9_1]; rfl) hb2 (by omega)
  refine v_lv (ls' := [(0, rf g a), (1, iv f), (2, iv n), (3, iv w), (4, iv 0), (5, iv 0), (6, iv 0)]) ok [3, 4, 5, 6, 2, 1, 0] rfl ?_
  exact lp9 _ 0 0 0 (by omega) rfl rfl (Nat.lt_succ_self _)

theorem mk_X10_peak_33 : Cond.fieldLink RX10 33 "StormRunoffModel" "joined" "[I" ∈ wsX10_peak := by decide +kernel
theorem mi_X10_peak_10 : ∀ w ∈ wsX100, w ∈ wsX10_peak := by decide +kernel
set_option maxRecDepth 100000 in
set_option maxHeartbeats 400000 in
theorem ct_X10_peak (l : Launch) (g : Gl) (M : Mem)  (hw : WOk (M 79)) : Ct l g yX10_peak wsX10_peak 4 94 [rf g 78] M (fun rv M' => ∃ (F O C : Int → Int), rv = some (iv (pkW (M 79))) ∧ M' = (up1 (up1 (up1 (up1 M 84 F) 85 O) 78 C) 86 (jnW (M 79))) ∧ (∀ j : Int, j ≠ 13 → C j = M 78 j)) := by
  refine Ct.of (cc := cX10_peak) (nL := 1) (ret := (some .int)) (by decide) rfl (Nat.le_of_ble_eq_true rfl) (fun z hz ok rt => ?_)
  have ok : Ok z g cX10_peak 1 RX10 wsX10_peak 4 94 := ok
  show V z g 1 M [(0, rf g 78)] [] 0
  have hJ := jnW_rng hw
  refine v_aload_n ok 0 dX10_peak_0 rfl rfl ?_
  refine v_callV (na := 0) (i := 78) (C := RX10) (T := TX10) (N := 22) (f0 := (M 78)) ok (ct_X10_joins z.2.1 g M  (by first | omega | assumption)) gX10_peak_X10_joins (kd_lt (show kd 78 = 10 from rfl) (by decide)) rfl rfl (cellF_10 _ (by decide)) rfl (by decide +kernel) rfl (by decide) [] rfl (Nat.le_of_ble_eq_true rfl) dX10_peak_1 (fun v2 M3 hp1 => ?_)
  obtain ⟨F4, O5, C6, rfl, rfl, h7⟩ := hp1
  have h7 : ∀ j : Int, j ≠ 13 → C6 j = (M 78) j := h7
  show V z g 1 (up1 (up1 (up1 (up1 M 84 F4) 85 O5) 78 C6) 86 (jnW ((M 79)))) [(0, rf g 78)] [] 4
  have hC := h7
  refine v_aload_n ok 0 dX10_peak_4 rfl rfl ?_
  refine v_get (T := TX10) (N := 22) (f0 := C6) (v := rf g 86) ok mi_X10_peak_10 (kd_lt (show kd 78 = 10 from rfl) (by decide)) rfl rfl (cellF_10 _ (by decide)) 12 (by decide) mk_X10_peak_33 rfl rfl dX10_peak_5 ?_
  refine v_iconst (n := 0) ok dX10_peak_8 ?_
  refine v_bipush (n := 30) ok rfl dX10_peak_9 ?_
  refine v_iconst (n := 1) ok dX10_peak_11 ?_
  refine v_callS (na := 4) ok (ct_X10_most z.2.1 g (up1 (up1 (up1 (up1 M 84 F4) 85 O5) 78 C6) 86 (jnW ((M 79)))) 86 30 0 30 1 129600 (by decide) rfl (by decide) (by first | decide | omega) (by rw [shf_0]; exact hJ) (by decide)) gX10_peak_X10_most rfl (by decide +kernel) rfl (by decide) [] rfl (Nat.le_of_ble_eq_true rfl) dX10_peak_12 (fun v9 M10 hp8 => ?_)
  obtain ⟨rfl, rfl⟩ := hp8
  show V z g 1 (up1 (up1 (up1 (up1 M 84 F4) 85 O5) 78 C6) 86 (jnW ((M 79)))) [(0, rf g 78)] [iv (msr 1 (shf ((jnW ((M 79)))) 0) (30 : Int).toNat)] 15
  rw [show ((msr 1 (shf ((jnW ((M 79)))) 0) (30 : Int).toNat) : Int) = (pkW (M 79)) from (by rw [shf_0]; rfl)]
  exact v_iret ok rt dX10_peak_15 (⟨F4, O5, C6, rfl, rfl, hC⟩)
