theorem mk_X10_read_101 : Cond.fieldLink RX10 101 "StormRunoffModel" "at" "I" ∈ wsX10_read := by decide +kernel
theorem mi_X10_read_10 : ∀ w ∈ wsX100, w ∈ wsX10_read := by decide +kernel
theorem mk_X10_read_98 : Cond.fieldLink RX10 98 "StormRunoffModel" "fault" "I" ∈ wsX10_read := by decide +kernel
theorem mk_X10_read_119 : Cond.fieldLink RX10 119 "StormRunoffModel" "readMany" "I" ∈ wsX10_read := by decide +kernel
theorem mk_X10_read_94 : Cond.fieldLink RX10 94 "StormRunoffModel" "length" "I" ∈ wsX10_read := by decide +kernel
set_option maxRecDepth 100000 in
set_option maxHeartbeats 1000000 in
theorem ct_X10_read (l : Launch) (g : Gl) (M : Mem)  (hL : 0 ≤ M 78 5 ∧ M 78 5 ≤ 100) (hG : bdf (M 82) 100 0 127) (hw : WOk (M 79)) : Ct l g yX10_read wsX10_read 6 131 [rf g 78] M (fun rv M' => (∃ (G X : Int → Int), rv = some (iv (-10 - (ffR (M 82) (M 78 5) 12 0))) ∧ M' = (up1 (up1 M 83 G) 78 X) ∧ (0 ≤ (ffR (M 82) (M 78 5) 12 0)) ∧ (X 5 = 0) ∧ (∀ j : Int, j ≠ 5 → j ≠ 6 → j ≠ 7 → j ≠ 9 → X j = M 78 j)) ∨ (∃ (G X D : Int → Int), rv = some (iv (doN (M 82) (M 78 5) (ncl (M 82) (M 78 5) 12 0) 0 (M 79)).1) ∧ M' = (up1 (up1 (up1 (up1 M 83 G) 78 X) 81 D) 79 ((doN (M 82) (M 78 5) (ncl (M 82) (M 78 5) 12 0) 0 (M 79)).2)) ∧ ((ffR (M 82) (M 78 5) 12 0) = -1) ∧ (X 5 = 0) ∧ (∀ j : Int, j ≠ 5 → j ≠ 6 → j ≠ 7 → j ≠ 9 → X j = M 78 j))) := by
  refine Ct.of (cc := cX10_read) (nL := 4) (ret := (some .int)) (by decide) rfl (Nat.le_of_ble_eq_true rfl) (fun z hz ok rt => ?_)
  have ok : Ok z g cX10_read 4 RX10 wsX10_read 6 131 := ok
  show V z g 4 M [(0, rf g 78)] [] 0
  refine v_aload_n ok 0 dX10_read_0 rfl rfl ?_
  refine v_iconst (n := 0) ok dX10_read_1 ?_
  refine v_put (T := TX10) (N := 22) (f0 := (M 78)) (f' := up (M 78) 6 0) (ty := .int) ok mi_X10_read_10 (kd_lt (show kd 78 = 10 from rfl) (by decide)) rfl rfl (cellF_10 _ (by decide)) tyX10 tyX10_ok nmX10 6 (by decide) mk_X10_read_101 rfl rfl (by decide +kernel) rfl rfl (Nat.le_of_ble_eq_true rfl) ((cellF_10 _ (by decide)).trans rfl) dX10_read_2 ?_
  refine v_aload_n ok 0 dX10_read_5 rfl rfl ?_
  refine v_iconst (n := -1) ok dX10_read_6 ?_
  refine v_put (T := TX10) (N := 22) (f0 := up (M 78) 6 0) (f' := up (up (M 78) 6 0) 7 (-1)) (ty := .int) ok mi_X10_read_10 (kd_lt (show kd 78 = 10 from rfl) (by decide)) rfl rfl (cellF_10 _ (by decide)) tyX10 tyX10_ok nmX10 7 (by decide) mk_X10_read_98 rfl rfl (by decide +kernel) rfl rfl (Nat.le_of_ble_eq_true rfl) ((cellF_10 _ (by decide)).trans rfl) dX10_read_7 ?_
  rw [up1_up1]
  refine v_aload_n ok 0 dX10_read_10 rfl rfl ?_
  refine v_iconst (n := 0) ok dX10_read_11 ?_
  refine v_put (T := TX10) (N := 22) (f0 := up (up (M 78) 6 0) 7 (-1)) (f' := up (up (up (M 78) 6 0) 7 (-1)) 9 0) (ty := .int) ok mi_X10_read_10 (kd_lt (show kd 78 = 10 from rfl) (by decide)) rfl rfl (cellF_10 _ (by decide)) tyX10 tyX10_ok nmX10 9 (by decide) mk_X10_read_119 rfl rfl (by decide +kernel) rfl rfl (Nat.le_of_ble_eq_true rfl) ((cellF_10 _ (by decide)).trans rfl) dX10_read_12 ?_
  rw [up1_up1]
  refine v_iconst (n := 1) ok dX10_read_15 ?_
  refine v_istore_n ok [(1, iv 1), (0, rf g 78)] dX10_read_16 rfl (by decide) rfl ?_
  have lp17 : ∀ (fu : Nat) (m p : Int) (G : Int → Int), (0 ≤ m ∧ m ≤ 11) → (0 ≤ p ∧ p ≤ M 78 5) → ((ffR (M 82) (M 78 5) 12 0) = ffR (M 82) (M 78 5) (12 - m).toNat p) → ((ncl (M 82) (M 78 5) 12 0) = m.toNat + ncl (M 82) (M 78 5) (12 - m).toNat p) → (p = cps (M 82) (M 78 5) m.toNat) → (∀ k : Nat, (k : Int) < m → StC G (M 82) (M 78 5) (cps (M 82) (M 78 5) k) k ∧ (clR (M 82) (M 78 5) (cps (M 82) (M 78 5) k)).1 = 1) → (12 - m).toNat < fu → V z g 4 (up1 (up1 M 83 G) 78 (up (up (up (M 78) 6 p) 7 (-1)) 9 m)) [(0, rf g 78), (1, iv 1)] [] 17 := by
    intro fu
    induction fu with
    | zero => intro m p G _ _ _ _ _ _ hm; exact absurd hm (Nat.not_lt_zero _)
    | succ fu ih17 =>
      intro m p G i17_0 i17_1 i17_2 i17_3 i17_4 i17_5 hm17
      have hcr := clR_rng (T := M 82) i17_1
      have hst := i17_5
      refine v_iload_n ok 1 dX10_read_17 rfl rfl ?_
      refine v_if_eq (tgt := 70) ok (by decide) dX10_read_18 (by decide) (fun c1 => absurd c1 (by decide)) (fun c1 => ?_)
      refine v_aload_n ok 0 dX10_read_21 rfl rfl ?_
      refine v_callV (na := 0) (i := 78) (C := RX10) (T := TX10) (N := 22) (f0 := (up (up (up (M 78) 6 p) 7 (-1)) 9 m)) ok (ct_X10_readsClause z.2.1 g (up1 (up1 M 83 G) 78 (up (up (up (M 78) 6 p) 7 (-1)) 9 m))  (by show 0 ≤ (M 78 5) ∧ (M 78 5) ≤ 100; first | omega | assumption) (by show 0 ≤ p ∧ p ≤ (M 78 5); first | omega | assumption) (by show bdf ((M 82)) 100 0 127; first | omega | assumption) (by show (-1) = -1; first | omega | assumption) (by show 0 ≤ m ∧ m ≤ 11; first | omega | assumption)) gX10_read_X10_readsClause (kd_lt (show kd 78 = 10 from rfl) (by decide)) rfl rfl (cellF_10 _ (by decide)) rfl (by decide +kernel) rfl (by decide) [] rfl (Nat.le_of_ble_eq_true rfl) dX10_read_22 (fun v3 M4 hp2 => ?_)
      rcases hp2 with ⟨rfl, rfl, h5⟩ | ⟨G6, m7, rfl, rfl, h8, h9⟩
      · skip
        have h5 : (clR ((M 82)) ((M 78 5)) (p)).1 = 1 := h5
        show V z g 4 (up1 (up1 (up1 (up1 M 83 G) 78 (up (up (up (M 78) 6 p) 7 (-1)) 9 m)) 83 (clS (G) (m) (sgn ((M 82)) ((M 78 5)) (p)) (clR ((M 82)) ((M 78 5)) (p)).2.2 (clV ((M 82)) ((M 78 5)) (p)))) 78 (up (up ((up (up (up (M 78) 6 p) 7 (-1)) 9 m)) 6 (clR ((M 82)) ((M 78 5)) (p)).2.1) 9 (m + 1))) [(0, rf g 78), (1, iv 1)] [] 25
        rw [show ((up1 (up1 (up1 (up1 M 83 G) 78 (up (up (up (M 78) 6 p) 7 (-1)) 9 m)) 83 (clS (G) (m) (sgn ((M 82)) ((M 78 5)) (p)) (clR ((M 82)) ((M 78 5)) (p)).2.2 (clV ((M 82)) ((M 78 5)) (p)))) 78 (up (up ((up (up (up (M 78) 6 p) 7 (-1)) 9 m)) 6 (clR ((M 82)) ((M 78 5)) (p)).2.1) 9 (m + 1))) : Mem) = (up1 (up1 M 83 (clS (G) (m) (sgn ((M 82)) ((M 78 5)) (p)) (clR ((M 82)) ((M 78 5)) (p)).2.2 (clV ((M 82)) ((M 78 5)) (p)))) 78 (up (up ((up (up (up (M 78) 6 p) 7 (-1)) 9 m)) 6 (clR ((M 82)) ((M 78 5)) (p)).2.1) 9 (m + 1))) from (by
              funext j
              by_cases hj0 : j = 83
              · subst hj0; simp [up1, up1_self]
              by_cases hj1 : j = 78
              · subst hj1; simp [up1, up1_self]
              simp [up1, hj0, hj1])]
        have h1c := h5
        have hcp := i17_4
        rw [show ((up1 (up1 M 83 (clS (G) (m) (sgn ((M 82)) ((M 78 5)) (p)) (clR ((M 82)) ((M 78 5)) (p)).2.2 (clV ((M 82)) ((M 78 5)) (p)))) 78 (up (up ((up (up (up (M 78) 6 p) 7 (-1)) 9 m)) 6 (clR ((M 82)) ((M 78 5)) (p)).2.1) 9 (m + 1))) : Mem) = (up1 (up1 M 83 (clS G m (sgn (M 82) (M 78 5) p) (clR (M 82) (M 78 5) p).2.2 (clV (M 82) (M 78 5) p))) 78 (up (up (up (M 78) 6 (clR (M 82) (M 78 5) p).2.1) 7 (-1)) 9 (m + 1))) from (by rw [up_c4])]
        have hst9 : ∀ k : Nat, (k : Int) < m + 1 → StC (clS G m (sgn (M 82) (M 78 5) p) (clR (M 82) (M 78 5) p).2.2 (clV (M 82) (M 78 5) p)) (M 82) (M 78 5) (cps (M 82) (M 78 5) k) k ∧ (clR (M 82) (M 78 5) (cps (M 82) (M 78 5) k)).1 = 1 := StC_s hst (by omega) h1c i17_4
        refine v_aload_n ok 0 dX10_read_25 rfl rfl ?_
        refine v_callV (na := 0) (i := 78) (C := RX10) (T := TX10) (N := 22) (f0 := (up (up (up (M 78) 6 (clR (M 82) (M 78 5) p).2.1) 7 (-1)) 9 (m + 1))) ok (ct_X10_here z.2.1 g (up1 (up1 M 83 (clS G m (sgn (M 82) (M 78 5) p) (clR (M 82) (M 78 5) p).2.2 (clV (M 82) (M 78 5) p))) 78 (up (up (up (M 78) 6 (clR (M 82) (M 78 5) p).2.1) 7 (-1)) 9 (m + 1)))  (by show 0 ≤ (M 78 5) ∧ (M 78 5) ≤ 100; first | omega | assumption) (by show 0 ≤ ((clR (M 82) (M 78 5) p).2.1) ∧ ((clR (M 82) (M 78 5) p).2.1) ≤ 100; first | omega | assumption) (by show -1 ≤ (-1) ∧ (-1) ≤ 1000; first | omega | assumption) (by show bdf ((M 82)) 100 0 127; first | omega | assumption)) gX10_read_X10_here (kd_lt (show kd 78 = 10 from rfl) (by decide)) rfl rfl (cellF_10 _ (by decide)) rfl (by decide +kernel) rfl (by decide) [] rfl (Nat.le_of_ble_eq_true rfl) dX10_read_26 (fun v11 M12 hp10 => ?_)
        obtain ⟨rfl, rfl, h13⟩ := hp10
        have h13 : -1 ≤ (hrW ((-1)) (((clR (M 82) (M 78 5) p).2.1)) ((M 82)) ((M 78 5))) ∧ (hrW ((-1)) (((clR (M 82) (M 78 5) p).2.1)) ((M 82)) ((M 78 5))) ≤ 127 := h13
        show V z g 4 (up1 (up1 M 83 (clS G m (sgn (M 82) (M 78 5) p) (clR (M 82) (M 78 5) p).2.2 (clV (M 82) (M 78 5) p))) 78 (up (up (up (M 78) 6 (clR (M 82) (M 78 5) p).2.1) 7 (-1)) 9 (m + 1))) [(0, rf g 78), (1, iv 1)] [iv (hrW ((-1)) (((clR (M 82) (M 78 5) p).2.1)) ((M 82)) ((M 78 5)))] 29
        rw [show ((hrW ((-1)) (((clR (M 82) (M 78 5) p).2.1)) ((M 82)) ((M 78 5))) : Int) = (sgn (M 82) (M 78 5) (clR (M 82) (M 78 5) p).2.1) from (by unfold hrW; rw [if_pos (by omega)])]
        have hh8 := sgn_rng (p := (clR (M 82) (M 78 5) p).2.1) hG (show M 78 5 ≤ 100 by omega)
        refine v_bipush (n := 59) ok rfl dX10_read_29 ?_
        refine v_icmp_ne (tgt := 47) ok ⟨by omega, by omega⟩ (by decide) dX10_read_31 (by decide) (fun c14 => ?_) (fun c14 => ?_)
        · skip
          have hx9 : ¬ sgn (M 82) (M 78 5) (clR (M 82) (M 78 5) p).2.1 = 59 := c14
          have hfr : (ffR (M 82) (M 78 5) 12 0) = if M 78 5 ≤ (clR (M 82) (M 78 5) p).2.1 then -1 else (clR (M 82) (M 78 5) p).2.1 := by
            rw [i17_2, show (12 - m).toNat = (11 - m).toNat + 1 by omega, ffR, if_neg (by omega)]
            by_cases x8 : M 78 5 ≤ (clR (M 82) (M 78 5) p).2.1
            · rw [if_pos x8, if_pos x8]
            · rw [if_neg x8, if_neg x8, if_pos (Or.inr hx9)]
          have hnc : M 78 5 ≤ (clR (M 82) (M 78 5) p).2.1 → (ncl (M 82) (M 78 5) 12 0) = (m + 1).toNat := fun x8 => by rw [i17_3, show (12 - m).toNat = (11 - m).toNat + 1 by omega, ncl, if_pos x8]; omega
          refine v_iconst (n := 0) ok dX10_read_47 ?_
          refine v_istore_n ok [(1, iv 0), (0, rf g 78)] dX10_read_48 rfl (by decide) rfl ?_
          refine v_aload_n ok 1 dX10_read_49 rfl rfl ?_
          refine v_dup ok rfl dX10_read_50 ?_
          refine v_get (T := TX10) (N := 22) (f0 := (up (up (up (M 78) 6 (clR (M 82) (M 78 5) p).2.1) 7 (-1)) 9 (m + 1))) (v := iv ((clR (M 82) (M 78 5) p).2.1)) ok mi_X10_read_10 (kd_lt (show kd 78 = 10 from rfl) (by decide)) rfl rfl (cellF_10 _ (by decide)) 6 (by decide) mk_X10_read_101 rfl rfl dX10_read_51 ?_
          refine v_iload_n ok 0 dX10_read_54 rfl rfl ?_
          refine v_if_eq (tgt := 62) ok (by decide) dX10_read_55 (by decide) (fun c15 => ?_) (fun c15 => absurd c15 (by decide))
          refine v_iconst (n := 0) ok dX10_read_62 ?_
          refine v_iadd ok dX10_read_63 ?_
          refine v_put (T := TX10) (N := 22) (f0 := (up (up (up (M 78) 6 (clR (M 82) (M 78 5) p).2.1) 7 (-1)) 9 (m + 1))) (f' := up (up (up (up (M 78) 6 (clR (M 82) (M 78 5) p).2.1) 7 (-1)) 9 (m + 1)) 6 (((clR (M 82) (M 78 5) p).2.1) + 0)) (ty := .int) ok mi_X10_read_10 (kd_lt (show kd 78 = 10 from rfl) (by decide)) rfl rfl (cellF_10 _ (by decide)) tyX10 tyX10_ok nmX10 6 (by decide) mk_X10_read_101 rfl rfl (by decide +kernel) rfl rfl (Nat.le_of_ble_eq_true rfl) ((cellF_10 _ (by decide)).trans rfl) dX10_read_64 ?_
          rw [up1_up1]
          rw [show ((up1 (up1 M 83 (clS G m (sgn (M 82) (M 78 5) p) (clR (M 82) (M 78 5) p).2.2 (clV (M 82) (M 78 5) p))) 78 (up (up (up (up (M 78) 6 (clR (M 82) (M 78 5) p).2.1) 7 (-1)) 9 (m + 1)) 6 (((clR (M 82) (M 78 5) p).2.1) + 0))) : Mem) = (up1 (up1 M 83 (clS G m (sgn (M 82) (M 78 5) p) (clR (M 82) (M 78 5) p).2.2 (clV (M 82) (M 78 5) p))) 78 (up (up (up (M 78) 6 (clR (M 82) (M 78 5) p).2.1) 7 (-1)) 9 (m + 1))) from (by rw [up_c3, Int.add_zero])]
          refine v_goto (tgt := 17) ok dX10_read_67 (by decide) ?_
          refine v_iload_n ok 0 dX10_read_17 rfl rfl ?_
          refine v_if_eq (tgt := 70) ok (by decide) dX10_read_18 (by decide) (fun c16 => ?_) (fun c16 => absurd c16 (by decide))
          refine v_aload_n ok 1 dX10_read_70 rfl rfl ?_
          refine v_get (T := TX10) (N := 22) (f0 := (up (up (up (M 78) 6 (clR (M 82) (M 78 5) p).2.1) 7 (-1)) 9 (m + 1))) (v := iv (-1)) ok mi_X10_read_10 (kd_lt (show kd 78 = 10 from rfl) (by decide)) rfl rfl (cellF_10 _ (by decide)) 7 (by decide) mk_X10_read_98 rfl rfl dX10_read_71 ?_
          refine v_if_ge (tgt := 96) ok (by decide) dX10_read_74 (by decide) (fun c17 => absurd c17 (by decide)) (fun c17 => ?_)
          refine v_aload_n ok 1 dX10_read_77 rfl rfl ?_
          refine v_get (T := TX10) (N := 22) (f0 := (up (up (up (M 78) 6 (clR (M 82) (M 78 5) p).2.1) 7 (-1)) 9 (m + 1))) (v := iv ((clR (M 82) (M 78 5) p).2.1)) ok mi_X10_read_10 (kd_lt (show kd 78 = 10 from rfl) (by decide)) rfl rfl (cellF_10 _ (by decide)) 6 (by decide) mk_X10_read_101 rfl rfl dX10_read_78 ?_
          refine v_aload_n ok 1 dX10_read_81 rfl rfl ?_
          refine v_get (T := TX10) (N := 22) (f0 := (up (up (up (M 78) 6 (clR (M 82) (M 78 5) p).2.1) 7 (-1)) 9 (m + 1))) (v := iv (M 78 5)) ok mi_X10_read_10 (kd_lt (show kd 78 = 10 from rfl) (by decide)) rfl rfl (cellF_10 _ (by decide)) 5 (by decide) mk_X10_read_94 rfl rfl dX10_read_82 ?_
          refine v_icmp_ge (tgt := 96) ok ⟨by omega, by omega⟩ ⟨by omega, by omega⟩ dX10_read_85 (by decide) (fun c18 => ?_) (fun c18 => ?_)
          · skip
            have hfe : (ffR (M 82) (M 78 5) 12 0) = -1 := by rw [hfr, if_pos c18]
            have hnc9 := hnc c18
            refine v_aload_n ok 1 dX10_read_96 rfl rfl ?_
            refine v_iconst (n := 0) ok dX10_read_97 ?_
            refine v_put (T := TX10) (N := 22) (f0 := (up (up (up (M 78) 6 (clR (M 82) (M 78 5) p).2.1) 7 (-1)) 9 (m + 1))) (f' := up (up (up (up (M 78) 6 (clR (M 82) (M 78 5) p).2.1) 7 (-1)) 9 (m + 1)) 5 0) (ty := .int) ok mi_X10_read_10 (kd_lt (show kd 78 = 10 from rfl) (by decide)) rfl rfl (cellF_10 _ (by decide)) tyX10 tyX10_ok nmX10 5 (by decide) mk_X10_read_94 rfl rfl (by decide +kernel) rfl rfl (Nat.le_of_ble_eq_true rfl) ((cellF_10 _ (by decide)).trans rfl) dX10_read_98 ?_
            rw [up1_up1]
            refine v_aload_n ok 1 dX10_read_101 rfl rfl ?_
            refine v_get (T := TX10) (N := 22) (f0 := up (up (up (up (M 78) 6 (clR (M 82) (M 78 5) p).2.1) 7 (-1)) 9 (m + 1)) 5 0) (v := iv (-1)) ok mi_X10_read_10 (kd_lt (show kd 78 = 10 from rfl) (by decide)) rfl rfl (cellF_10 _ (by decide)) 7 (by decide) mk_X10_read_98 rfl rfl dX10_read_102 ?_
            refine v_if_lt (tgt := 116) ok (by decide) dX10_read_105 (by decide) (fun c19 => ?_) (fun c19 => absurd c19 (by decide))
            refine v_iconst (n := 0) ok dX10_read_116 ?_
            refine v_istore_n ok [(2, iv 0), (1, iv 0), (0, rf g 78)] dX10_read_117 rfl (by decide) rfl ?_
            refine v_iconst (n := 0) ok dX10_read_118 ?_
            refine v_istore_n ok [(3, iv 0), (2, iv 0), (1, iv 0), (0, rf g 78)] dX10_read_119 rfl (by decide) rfl ?_
            have lp120 : ∀ (fu : Nat) (k d : Int) (D Q : Int → Int), (0 ≤ k ∧ k ≤ m + 1) → (WOk Q) → ((doN (M 82) (M 78 5) (ncl (M 82) (M 78 5) 12 0) 0 (M 79)) = (d + (doN (M 82) (M 78 5) (m + 1 - k).toNat (cps (M 82) (M 78 5) k.toNat) Q).1, (doN (M 82) (M 78 5) (m + 1 - k).toNat (cps (M 82) (M 78 5) k.toNat) Q).2)) → (m + 1 - k).toNat < fu → V z g 4 (up1 (up1 (up1 (up1 M 83 (clS G m (sgn (M 82) (M 78 5) p) (clR (M 82) (M 78 5) p).2.2 (clV (M 82) (M 78 5) p))) 78 (up (up (up (up (M 78) 6 (clR (M 82) (M 78 5) p).2.1) 7 (-1)) 9 (m + 1)) 5 0)) 81 D) 79 Q) [(0, rf g 78), (2, iv d), (3, iv k)] [] 120 := by
              intro fu
              induction fu with
              | zero => intro k d D Q _ _ _ hm; exact absurd hm (Nat.not_lt_zero _)
              | succ fu ih120 =>
                intro k d D Q i120_0 i120_1 i120_2 hm120
                refine v_iload_n ok 2 dX10_read_120 rfl rfl ?_
                refine v_aload_n ok 0 dX10_read_121 rfl rfl ?_
                refine v_get (T := TX10) (N := 22) (f0 := up (up (up (up (M 78) 6 (clR (M 82) (M 78 5) p).2.1) 7 (-1)) 9 (m + 1)) 5 0) (v := iv (m + 1)) ok mi_X10_read_10 (kd_lt (show kd 78 = 10 from rfl) (by decide)) rfl rfl (cellF_10 _ (by decide)) 9 (by decide) mk_X10_read_119 rfl rfl dX10_read_122 ?_
                refine v_icmp_ge (tgt := 153) ok ⟨by omega, by omega⟩ ⟨by omega, by omega⟩ dX10_read_125 (by decide) (fun c20 => ?_) (fun c20 => ?_)
                · skip
                  have hfin : (doN (M 82) (M 78 5) (ncl (M 82) (M 78 5) 12 0) 0 (M 79)) = (d, Q) := by rw [i120_2, show (m + 1 - k).toNat = 0 by omega]; show (d + 0, Q) = _; rw [Int.add_zero]
                  refine v_iload_n ok 1 dX10_read_153 rfl rfl ?_
                  rw [show ((up1 (up1 (up1 (up1 M 83 (clS G m (sgn (M 82) (M 78 5) p) (clR (M 82) (M 78 5) p).2.2 (clV (M 82) (M 78 5) p))) 78 (up (up (up (up (M 78) 6 (clR (M 82) (M 78 5) p).2.1) 7 (-1)) 9 (m + 1)) 5 0)) 81 D) 79 Q) : Mem) = (up1 (up1 (up1 (up1 M 83 (clS G m (sgn (M 82) (M 78 5) p) (clR (M 82) (M 78 5) p).2.2 (clV (M 82) (M 78 5) p))) 78 (up (up (up (up (M 78) 6 (clR (M 82) (M 78 5) p).2.1) 7 (-1)) 9 (m + 1)) 5 0)) 81 D) 79 ((doN (M 82) (M 78 5) (ncl (M 82) (M 78 5) 12 0) 0 (M 79)).2)) from (by rw [hfin])]
                  exact v_iret ok rt dX10_read_154 (Or.inr (⟨(clS G m (sgn (M 82) (M 78 5) p) (clR (M 82) (M 78 5) p).2.2 (clV (M 82) (M 78 5) p)), (up (up (up (up (M 78) 6 (clR (M 82) (M 78 5) p).2.1) 7 (-1)) 9 (m + 1)) 5 0), D, (congrArg (fun q : Int => some (iv q)) (show d = (doN (M 82) (M 78 5) (ncl (M 82) (M 78 5) 12 0) 0 (M 79)).1 from by (rw [hfin]))), rfl, hfe, rfl, (fun j q5 q6 q7 q9 => by simp [up, q5, q6, q7, q9])⟩))
                · skip
                  have hck := (hst9 k.toNat (by omega)).2
                  have hsk := (hst9 k.toNat (by omega)).1
                  rw [show ((k.toNat : Nat) : Int) = k by omega] at hsk
                  have hok := clR_ok hck
                  have hlc := hsk.1
                  have hcl9 : ClOk ((clS G m (sgn (M 82) (M 78 5) p) (clR (M 82) (M 78 5) p).2.2 (clV (M 82) (M 78 5) p)) (14 * k)) ((clS G m (sgn (M 82) (M 78 5) p) (clR (M 82) (M 78 5) p).2.2 (clV (M 82) (M 78 5) p)) (14 * k + 1)) (rdV (clS G m (sgn (M 82) (M 78 5) p) (clR (M 82) (M 78 5) p).2.2 (clV (M 82) (M 78 5) p)) (14 * k)) := by rw [hsk.1, hsk.2.1]; exact ClOk_cg hok (fun j j0 j1 => (hsk.2.2 j j0 j1).symm)
                  have hdc : dcW ((clS G m (sgn (M 82) (M 78 5) p) (clR (M 82) (M 78 5) p).2.2 (clV (M 82) (M 78 5) p)) (14 * k)) ((clS G m (sgn (M 82) (M 78 5) p) (clR (M 82) (M 78 5) p).2.2 (clV (M 82) (M 78 5) p)) (14 * k + 1)) (rdV (clS G m (sgn (M 82) (M 78 5) p) (clR (M 82) (M 78 5) p).2.2 (clV (M 82) (M 78 5) p)) (14 * k)) Q = dcW (sgn (M 82) (M 78 5) (cps (M 82) (M 78 5) k.toNat)) (clR (M 82) (M 78 5) (cps (M 82) (M 78 5) k.toNat)).2.2 (clV (M 82) (M 78 5) (cps (M 82) (M 78 5) k.toNat)) Q := by rw [hsk.1, hsk.2.1]; exact (dcW_cg hok (fun j j0 j1 => (hsk.2.2 j j0 j1).symm)).symm
                  have hb8 := doN_s (T := M 82) (L := M 78 5) (p := cps (M 82) (M 78 5) k.toNat) (Q := Q) (n := (m + 1 - (k + 1)).toNat) (d := d)
                  have h01 := dcW_01 ((clS G m (sgn (M 82) (M 78 5) p) (clR (M 82) (M 78 5) p).2.2 (clV (M 82) (M 78 5) p)) (14 * k)) ((clS G m (sgn (M 82) (M 78 5) p) (clR (M 82) (M 78 5) p).2.2 (clV (M 82) (M 78 5) p)) (14 * k + 1)) (rdV (clS G m (sgn (M 82) (M 78 5) p) (clR (M 82) (M 78 5) p).2.2 (clV (M 82) (M 78 5) p)) (14 * k)) Q
                  have hwq := dcW_WOk i120_1 hcl9
                  refine v_iload_n ok 1 dX10_read_128 rfl rfl ?_
                  refine v_aload_n ok 0 dX10_read_129 rfl rfl ?_
                  refine v_bipush (n := 14) ok rfl dX10_read_130 ?_
                  refine v_iload_n ok 2 dX10_read_132 rfl rfl ?_
                  refine v_imul ok dX10_read_133 ?_
                  refine v_callV (na := 1) (i := 78) (C := RX10) (T := TX10) (N := 22) (f0 := up (up (up (up (M 78) 6 (clR (M 82) (M 78 5) p).2.1) 7 (-1)) 9 (m + 1)) 5 0) ok (ct_X10_isDone z.2.1 g (up1 (up1 (up1 (up1 M 83 (clS G m (sgn (M 82) (M 78 5) p) (clR (M 82) (M 78 5) p).2.2 (clV (M 82) (M 78 5) p))) 78 (up (up (up (up (M 78) 6 (clR (M 82) (M 78 5) p).2.1) 7 (-1)) 9 (m + 1)) 5 0)) 81 D) 79 Q) (14 * k) (by omega) hcl9 i120_1) gX10_read_X10_isDone (kd_lt (show kd 78 = 10 from rfl) (by decide)) rfl rfl (cellF_10 _ (by decide)) rfl (by decide +kernel) rfl (by decide) [iv d] rfl (Nat.le_of_ble_eq_true rfl) dX10_read_134 (fun v22 M23 hp21 => ?_)
                  obtain ⟨D24, rfl, rfl⟩ := hp21
                  show V z g 4 (up1 (up1 (up1 (up1 (up1 (up1 M 83 (clS G m (sgn (M 82) (M 78 5) p) (clR (M 82) (M 78 5) p).2.2 (clV (M 82) (M 78 5) p))) 78 (up (up (up (up (M 78) 6 (clR (M 82) (M 78 5) p).2.1) 7 (-1)) 9 (m + 1)) 5 0)) 81 D) 79 Q) 81 D24) 79 ((dcW ((clS G m (sgn (M 82) (M 78 5) p) (clR (M 82) (M 78 5) p).2.2 (clV (M 82) (M 78 5) p)) (14 * k)) ((clS G m (sgn (M 82) (M 78 5) p) (clR (M 82) (M 78 5) p).2.2 (clV (M 82) (M 78 5) p)) ((14 * k) + 1)) (rdV ((clS G m (sgn (M 82) (M 78 5) p) (clR (M 82) (M 78 5) p).2.2 (clV (M 82) (M 78 5) p))) (14 * k)) (Q)).2)) [(0, rf g 78), (2, iv d), (3, iv k)] [iv ((dcW ((clS G m (sgn (M 82) (M 78 5) p) (clR (M 82) (M 78 5) p).2.2 (clV (M 82) (M 78 5) p)) (14 * k)) ((clS G m (sgn (M 82) (M 78 5) p) (clR (M 82) (M 78 5) p).2.2 (clV (M 82) (M 78 5) p)) ((14 * k) + 1)) (rdV ((clS G m (sgn (M 82) (M 78 5) p) (clR (M 82) (M 78 5) p).2.2 (clV (M 82) (M 78 5) p))) (14 * k)) (Q)).1), iv d] 137
                  rw [show ((up1 (up1 (up1 (up1 (up1 (up1 M 83 (clS G m (sgn (M 82) (M 78 5) p) (clR (M 82) (M 78 5) p).2.2 (clV (M 82) (M 78 5) p))) 78 (up (up (up (up (M 78) 6 (clR (M 82) (M 78 5) p).2.1) 7 (-1)) 9 (m + 1)) 5 0)) 81 D) 79 Q) 81 D24) 79 ((dcW ((clS G m (sgn (M 82) (M 78 5) p) (clR (M 82) (M 78 5) p).2.2 (clV (M 82) (M 78 5) p)) (14 * k)) ((clS G m (sgn (M 82) (M 78 5) p) (clR (M 82) (M 78 5) p).2.2 (clV (M 82) (M 78 5) p)) ((14 * k) + 1)) (rdV ((clS G m (sgn (M 82) (M 78 5) p) (clR (M 82) (M 78 5) p).2.2 (clV (M 82) (M 78 5) p))) (14 * k)) (Q)).2)) : Mem) = (up1 (up1 (up1 (up1 M 83 (clS G m (sgn (M 82) (M 78 5) p) (clR (M 82) (M 78 5) p).2.2 (clV (M 82) (M 78 5) p))) 78 (up (up (up (up (M 78) 6 (clR (M 82) (M 78 5) p).2.1) 7 (-1)) 9 (m + 1)) 5 0)) 81 D24) 79 ((dcW ((clS G m (sgn (M 82) (M 78 5) p) (clR (M 82) (M 78 5) p).2.2 (clV (M 82) (M 78 5) p)) (14 * k)) ((clS G m (sgn (M 82) (M 78 5) p) (clR (M 82) (M 78 5) p).2.2 (clV (M 82) (M 78 5) p)) ((14 * k) + 1)) (rdV ((clS G m (sgn (M 82) (M 78 5) p) (clR (M 82) (M 78 5) p).2.2 (clV (M 82) (M 78 5) p))) (14 * k)) (Q)).2)) from (by
                        funext j
                        by_cases hj0 : j = 83
                        · subst hj0; simp [up1, up1_self]
                        by_cases hj1 : j = 78
                        · subst hj1; simp [up1, up1_self]
                        by_cases hj2 : j = 81
                        · subst hj2; simp [up1, up1_self]
                        by_cases hj3 : j = 79
                        · subst hj3; simp [up1, up1_self]
                        simp [up1, hj0, hj1, hj2, hj3])]
                  refine v_if_eq (tgt := 144) ok ⟨by omega, by omega⟩ dX10_read_137 (by decide) (fun c25 => ?_) (fun c25 => ?_)
                  · skip
                    refine v_iconst (n := 0) ok dX10_read_144 ?_
                    refine v_iadd ok dX10_read_145 ?_
                    refine v_istore_n ok [(2, iv (d + 0)), (0, rf g 78), (3, iv k)] dX10_read_146 rfl (by decide) rfl ?_
                    have hb9 : (doN (M 82) (M 78 5) (ncl (M 82) (M 78 5) 12 0) 0 (M 79)) = ((d + 0) + (doN (M 82) (M 78 5) (m + 1 - (k + 1)).toNat (cps (M 82) (M 78 5) (k + 1).toNat) (dcW ((clS G m (sgn (M 82) (M 78 5) p) (clR (M 82) (M 78 5) p).2.2 (clV (M 82) (M 78 5) p)) (14 * k)) ((clS G m (sgn (M 82) (M 78 5) p) (clR (M 82) (M 78 5) p).2.2 (clV (M 82) (M 78 5) p)) (14 * k + 1)) (rdV (clS G m (sgn (M 82) (M 78 5) p) (clR (M 82) (M 78 5) p).2.2 (clV (M 82) (M 78 5) p)) (14 * k)) Q).2).1, (doN (M 82) (M 78 5) (m + 1 - (k + 1)).toNat (cps (M 82) (M 78 5) (k + 1).toNat) (dcW ((clS G m (sgn (M 82) (M 78 5) p) (clR (M 82) (M 78 5) p).2.2 (clV (M 82) (M 78 5) p)) (14 * k)) ((clS G m (sgn (M 82) (M 78 5) p) (clR (M 82) (M 78 5) p).2.2 (clV (M 82) (M 78 5) p)) (14 * k + 1)) (rdV (clS G m (sgn (M 82) (M 78 5) p) (clR (M 82) (M 78 5) p).2.2 (clV (M 82) (M 78 5) p)) (14 * k)) Q).2).2) := by
                      rw [i120_2, show (m + 1 - k).toNat = (m + 1 - (k + 1)).toNat + 1 by omega, hb8, ← hdc, show (k + 1).toNat = k.toNat + 1 by omega, cps]
                      congr 1; omega
                    refine v_iinc ok 2 [(3, iv (k + 1)), (2, iv (d + 0)), (0, rf g 78)] dX10_read_147 rfl (by decide) rfl ?_
                    refine v_goto (tgt := 120) ok dX10_read_150 (by decide) ?_
                    refine v_lv (ls' := [(0, rf g 78), (2, iv (d + 0)), (3, iv (k + 1))]) ok [2, 1, 0] rfl ?_
                    exact ih120 (k + 1) (d + 0) D24 ((dcW ((clS G m (sgn (M 82) (M 78 5) p) (clR (M 82) (M 78 5) p).2.2 (clV (M 82) (M 78 5) p)) (14 * k)) ((clS G m (sgn (M 82) (M 78 5) p) (clR (M 82) (M 78 5) p).2.2 (clV (M 82) (M 78 5) p)) ((14 * k) + 1)) (rdV ((clS G m (sgn (M 82) (M 78 5) p) (clR (M 82) (M 78 5) p).2.2 (clV (M 82) (M 78 5) p))) (14 * k)) (Q)).2) (by omega) hwq hb9 (by omega)
                  · skip
                    refine v_iconst (n := 1) ok dX10_read_140 ?_
                    refine v_goto (tgt := 145) ok dX10_read_141 (by decide) ?_
                    refine v_iadd ok dX10_read_145 ?_
                    refine v_istore_n ok [(2, iv (d + 1)), (0, rf g 78), (3, iv k)] dX10_read_146 rfl (by decide) rfl ?_
                    have hb9 : (doN (M 82) (M 78 5) (ncl (M 82) (M 78 5) 12 0) 0 (M 79)) = ((d + 1) + (doN (M 82) (M 78 5) (m + 1 - (k + 1)).toNat (cps (M 82) (M 78 5) (k + 1).toNat) (dcW ((clS G m (sgn (M 82) (M 78 5) p) (clR (M 82) (M 78 5) p).2.2 (clV (M 82) (M 78 5) p)) (14 * k)) ((clS G m (sgn (M 82) (M 78 5) p) (clR (M 82) (M 78 5) p).2.2 (clV (M 82) (M 78 5) p)) (14 * k + 1)) (rdV (clS G m (sgn (M 82) (M 78 5) p) (clR (M 82) (M 78 5) p).2.2 (clV (M 82) (M 78 5) p)) (14 * k)) Q).2).1, (doN (M 82) (M 78 5) (m + 1 - (k + 1)).toNat (cps (M 82) (M 78 5) (k + 1).toNat) (dcW ((clS G m (sgn (M 82) (M 78 5) p) (clR (M 82) (M 78 5) p).2.2 (clV (M 82) (M 78 5) p)) (14 * k)) ((clS G m (sgn (M 82) (M 78 5) p) (clR (M 82) (M 78 5) p).2.2 (clV (M 82) (M 78 5) p)) (14 * k + 1)) (rdV (clS G m (sgn (M 82) (M 78 5) p) (clR (M 82) (M 78 5) p).2.2 (clV (M 82) (M 78 5) p)) (14 * k)) Q).2).2) := by
                      rw [i120_2, show (m + 1 - k).toNat = (m + 1 - (k + 1)).toNat + 1 by omega, hb8, ← hdc, show (k + 1).toNat = k.toNat + 1 by omega, cps]
                      congr 1; omega
                    refine v_iinc ok 2 [(3, iv (k + 1)), (2, iv (d + 1)), (0, rf g 78)] dX10_read_147 rfl (by decide) rfl ?_
                    refine v_goto (tgt := 120) ok dX10_read_150 (by decide) ?_
                    refine v_lv (ls' := [(0, rf g 78), (2, iv (d + 1)), (3, iv (k + 1))]) ok [2, 1, 0] rfl ?_
                    exact ih120 (k + 1) (d + 1) D24 ((dcW ((clS G m (sgn (M 82) (M 78 5) p) (clR (M 82) (M 78 5) p).2.2 (clV (M 82) (M 78 5) p)) (14 * k)) ((clS G m (sgn (M 82) (M 78 5) p) (clR (M 82) (M 78 5) p).2.2 (clV (M 82) (M 78 5) p)) ((14 * k) + 1)) (rdV ((clS G m (sgn (M 82) (M 78 5) p) (clR (M 82) (M 78 5) p).2.2 (clV (M 82) (M 78 5) p))) (14 * k)) (Q)).2) (by omega) hwq hb9 (by omega)
            rw [show ((up1 (up1 M 83 (clS G m (sgn (M 82) (M 78 5) p) (clR (M 82) (M 78 5) p).2.2 (clV (M 82) (M 78 5) p))) 78 (up (up (up (up (M 78) 6 (clR (M 82) (M 78 5) p).2.1) 7 (-1)) 9 (m + 1)) 5 0)) : Mem) = (up1 (up1 (up1 (up1 M 83 (clS G m (sgn (M 82) (M 78 5) p) (clR (M 82) (M 78 5) p).2.2 (clV (M 82) (M 78 5) p))) 78 (up (up (up (up (M 78) 6 (clR (M 82) (M 78 5) p).2.1) 7 (-1)) 9 (m + 1)) 5 0)) 81 (M 81)) 79 (M 79)) from zz_k]
            refine v_lv (ls' := [(0, rf g 78), (2, iv 0), (3, iv 0)]) ok [3, 1, 0] rfl ?_
            exact lp120 _ 0 0 (M 81) (M 79) (by omega) hw (by rw [hnc9, Int.sub_zero, Int.zero_add]; rfl) (Nat.lt_succ_self _)
          · skip
            have hfe : (ffR (M 82) (M 78 5) 12 0) = (clR (M 82) (M 78 5) p).2.1 := by rw [hfr, if_neg c18]
            refine v_aload_n ok 1 dX10_read_88 rfl rfl ?_
            refine v_aload_n ok 1 dX10_read_89 rfl rfl ?_
            refine v_get (T := TX10) (N := 22) (f0 := (up (up (up (M 78) 6 (clR (M 82) (M 78 5) p).2.1) 7 (-1)) 9 (m + 1))) (v := iv ((clR (M 82) (M 78 5) p).2.1)) ok mi_X10_read_10 (kd_lt (show kd 78 = 10 from rfl) (by decide)) rfl rfl (cellF_10 _ (by decide)) 6 (by decide) mk_X10_read_101 rfl rfl dX10_read_90 ?_
            refine v_put (T := TX10) (N := 22) (f0 := (up (up (up (M 78) 6 (clR (M 82) (M 78 5) p).2.1) 7 (-1)) 9 (m + 1))) (f' := up (up (up (up (M 78) 6 (clR (M 82) (M 78 5) p).2.1) 7 (-1)) 9 (m + 1)) 7 ((clR (M 82) (M 78 5) p).2.1)) (ty := .int) ok mi_X10_read_10 (kd_lt (show kd 78 = 10 from rfl) (by decide)) rfl rfl (cellF_10 _ (by decide)) tyX10 tyX10_ok nmX10 7 (by decide) mk_X10_read_98 rfl rfl (by decide +kernel) rfl rfl (Nat.le_of_ble_eq_true rfl) ((cellF_10 _ (by decide)).trans rfl) dX10_read_93 ?_
            rw [up1_up1]
            refine v_aload_n ok 1 dX10_read_96 rfl rfl ?_
            refine v_iconst (n := 0) ok dX10_read_97 ?_
            refine v_put (T := TX10) (N := 22) (f0 := up (up (up (up (M 78) 6 (clR (M 82) (M 78 5) p).2.1) 7 (-1)) 9 (m + 1)) 7 ((clR (M 82) (M 78 5) p).2.1)) (f' := up (up (up (up (up (M 78) 6 (clR (M 82) (M 78 5) p).2.1) 7 (-1)) 9 (m + 1)) 7 ((clR (M 82) (M 78 5) p).2.1)) 5 0) (ty := .int) ok mi_X10_read_10 (kd_lt (show kd 78 = 10 from rfl) (by decide)) rfl rfl (cellF_10 _ (by decide)) tyX10 tyX10_ok nmX10 5 (by decide) mk_X10_read_94 rfl rfl (by decide +kernel) rfl rfl (Nat.le_of_ble_eq_true rfl) ((cellF_10 _ (by decide)).trans rfl) dX10_read_98 ?_
            rw [up1_up1]
            refine v_aload_n ok 1 dX10_read_101 rfl rfl ?_
            refine v_get (T := TX10) (N := 22) (f0 := up (up (up (up (up (M 78) 6 (clR (M 82) (M 78 5) p).2.1) 7 (-1)) 9 (m + 1)) 7 ((clR (M 82) (M 78 5) p).2.1)) 5 0) (v := iv ((clR (M 82) (M 78 5) p).2.1)) ok mi_X10_read_10 (kd_lt (show kd 78 = 10 from rfl) (by decide)) rfl rfl (cellF_10 _ (by decide)) 7 (by decide) mk_X10_read_98 rfl rfl dX10_read_102 ?_
            refine v_if_lt (tgt := 116) ok ⟨by omega, by omega⟩ dX10_read_105 (by decide) (fun c26 => absurd c26 (by omega)) (fun c26 => ?_)
            refine v_bipush (n := -10) ok rfl dX10_read_108 ?_
            refine v_aload_n ok 1 dX10_read_110 rfl rfl ?_
            refine v_get (T := TX10) (N := 22) (f0 := up (up (up (up (up (M 78) 6 (clR (M 82) (M 78 5) p).2.1) 7 (-1)) 9 (m + 1)) 7 ((clR (M 82) (M 78 5) p).2.1)) 5 0) (v := iv ((clR (M 82) (M 78 5) p).2.1)) ok mi_X10_read_10 (kd_lt (show kd 78 = 10 from rfl) (by decide)) rfl rfl (cellF_10 _ (by decide)) 7 (by decide) mk_X10_read_98 rfl rfl dX10_read_111 ?_
            refine v_isub ok dX10_read_114 ?_
            exact v_iret ok rt dX10_read_115 (Or.inl (⟨(clS G m (sgn (M 82) (M 78 5) p) (clR (M 82) (M 78 5) p).2.2 (clV (M 82) (M 78 5) p)), (up (up (up (up (up (M 78) 6 (clR (M 82) (M 78 5) p).2.1) 7 (-1)) 9 (m + 1)) 7 ((clR (M 82) (M 78 5) p).2.1)) 5 0), (congrArg (fun q : Int => some (iv q)) (show ((-10) - ((clR (M 82) (M 78 5) p).2.1)) = (-10 - (ffR (M 82) (M 78 5) 12 0)) from by first | (rw [hfe]) | (rw [hfr]))), rfl, (by first | (rw [hfe]; exact hcr.2.1) | (rw [hfr]; exact hcr.2.1)), rfl, (fun j q5 q6 q7 q9 => by simp [up, q5, q6, q7, q9])⟩))
        · skip
          have hx9 : sgn (M 82) (M 78 5) (clR (M 82) (M 78 5) p).2.1 = 59 := by omega
          have hl9 := sgn_lt (T := M 82) (L := M 78 5) (p := (clR (M 82) (M 78 5) p).2.1) (by omega)
          refine v_aload_n ok 0 dX10_read_34 rfl rfl ?_
          refine v_get (T := TX10) (N := 22) (f0 := (up (up (up (M 78) 6 (clR (M 82) (M 78 5) p).2.1) 7 (-1)) 9 (m + 1))) (v := iv (m + 1)) ok mi_X10_read_10 (kd_lt (show kd 78 = 10 from rfl) (by decide)) rfl rfl (cellF_10 _ (by decide)) 9 (by decide) mk_X10_read_119 rfl rfl dX10_read_35 ?_
          refine v_bipush (n := 12) ok rfl dX10_read_38 ?_
          refine v_icmp_ge (tgt := 47) ok ⟨by omega, by omega⟩ (by decide) dX10_read_40 (by decide) (fun c27 => ?_) (fun c27 => ?_)
          · skip
            have em : m = 11 := by omega
            have hfr : (ffR (M 82) (M 78 5) 12 0) = if M 78 5 ≤ (clR (M 82) (M 78 5) p).2.1 then -1 else (clR (M 82) (M 78 5) p).2.1 := by
              rw [i17_2, show (12 - m).toNat = 0 + 1 by omega, ffR, if_neg (by omega), if_neg (by omega), if_pos (Or.inl rfl), if_neg (by omega)]
            have hnc : M 78 5 ≤ (clR (M 82) (M 78 5) p).2.1 → (ncl (M 82) (M 78 5) 12 0) = (m + 1).toNat := fun x8 => by omega
            refine v_iconst (n := 0) ok dX10_read_47 ?_
            refine v_istore_n ok [(1, iv 0), (0, rf g 78)] dX10_read_48 rfl (by decide) rfl ?_
            refine v_aload_n ok 1 dX10_read_49 rfl rfl ?_
            refine v_dup ok rfl dX10_read_50 ?_
            refine v_get (T := TX10) (N := 22) (f0 := (up (up (up (M 78) 6 (clR (M 82) (M 78 5) p).2.1) 7 (-1)) 9 (m + 1))) (v := iv ((clR (M 82) (M 78 5) p).2.1)) ok mi_X10_read_10 (kd_lt (show kd 78 = 10 from rfl) (by decide)) rfl rfl (cellF_10 _ (by decide)) 6 (by decide) mk_X10_read_101 rfl rfl dX10_read_51 ?_
            refine v_iload_n ok 0 dX10_read_54 rfl rfl ?_
            refine v_if_eq (tgt := 62) ok (by decide) dX10_read_55 (by decide) (fun c28 => ?_) (fun c28 => absurd c28 (by decide))
            refine v_iconst (n := 0) ok dX10_read_62 ?_
            refine v_iadd ok dX10_read_63 ?_
            refine v_put (T := TX10) (N := 22) (f0 := (up (up (up (M 78) 6 (clR (M 82) (M 78 5) p).2.1) 7 (-1)) 9 (m + 1))) (f' := up (up (up (up (M 78) 6 (clR (M 82) (M 78 5) p).2.1) 7 (-1)) 9 (m + 1)) 6 (((clR (M 82) (M 78 5) p).2.1) + 0)) (ty := .int) ok mi_X10_read_10 (kd_lt (show kd 78 = 10 from rfl) (by decide)) rfl rfl (cellF_10 _ (by decide)) tyX10 tyX10_ok nmX10 6 (by decide) mk_X10_read_101 rfl rfl (by decide +kernel) rfl rfl (Nat.le_of_ble_eq_true rfl) ((cellF_10 _ (by decide)).trans rfl) dX10_read_64 ?_
            rw [up1_up1]
            rw [show ((up1 (up1 M 83 (clS G m (sgn (M 82) (M 78 5) p) (clR (M 82) (M 78 5) p).2.2 (clV (M 82) (M 78 5) p))) 78 (up (up (up (up (M 78) 6 (clR (M 82) (M 78 5) p).2.1) 7 (-1)) 9 (m + 1)) 6 (((clR (M 82) (M 78 5) p).2.1) + 0))) : Mem) = (up1 (up1 M 83 (clS G m (sgn (M 82) (M 78 5) p) (clR (M 82) (M 78 5) p).2.2 (clV (M 82) (M 78 5) p))) 78 (up (up (up (M 78) 6 (clR (M 82) (M 78 5) p).2.1) 7 (-1)) 9 (m + 1))) from (by rw [up_c3, Int.add_zero])]
            refine v_goto (tgt := 17) ok dX10_read_67 (by decide) ?_
            refine v_iload_n ok 0 dX10_read_17 rfl rfl ?_
            refine v_if_eq (tgt := 70) ok (by decide) dX10_read_18 (by decide) (fun c29 => ?_) (fun c29 => absurd c29 (by decide))
            refine v_aload_n ok 1 dX10_read_70 rfl rfl ?_
            refine v_get (T := TX10) (N := 22) (f0 := (up (up (up (M 78) 6 (clR (M 82) (M 78 5) p).2.1) 7 (-1)) 9 (m + 1))) (v := iv (-1)) ok mi_X10_read_10 (kd_lt (show kd 78 = 10 from rfl) (by decide)) rfl rfl (cellF_10 _ (by decide)) 7 (by decide) mk_X10_read_98 rfl rfl dX10_read_71 ?_
            refine v_if_ge (tgt := 96) ok (by decide) dX10_read_74 (by decide) (fun c30 => absurd c30 (by decide)) (fun c30 => ?_)
            refine v_aload_n ok 1 dX10_read_77 rfl rfl ?_
            refine v_get (T := TX10) (N := 22) (f0 := (up (up (up (M 78) 6 (clR (M 82) (M 78 5) p).2.1) 7 (-1)) 9 (m + 1))) (v := iv ((clR (M 82) (M 78 5) p).2.1)) ok mi_X10_read_10 (kd_lt (show kd 78 = 10 from rfl) (by decide)) rfl rfl (cellF_10 _ (by decide)) 6 (by decide) mk_X10_read_101 rfl rfl dX10_read_78 ?_
            refine v_aload_n ok 1 dX10_read_81 rfl rfl ?_
            refine v_get (T := TX10) (N := 22) (f0 := (up (up (up (M 78) 6 (clR (M 82) (M 78 5) p).2.1) 7 (-1)) 9 (m + 1))) (v := iv (M 78 5)) ok mi_X10_read_10 (kd_lt (show kd 78 = 10 from rfl) (by decide)) rfl rfl (cellF_10 _ (by decide)) 5 (by decide) mk_X10_read_94 rfl rfl dX10_read_82 ?_
            refine v_icmp_ge (tgt := 96) ok ⟨by omega, by omega⟩ ⟨by omega, by omega⟩ dX10_read_85 (by decide) (fun c31 => ?_) (fun c31 => ?_)
            · skip
              have hfe : (ffR (M 82) (M 78 5) 12 0) = -1 := by rw [hfr, if_pos c31]
              have hnc9 := hnc c31
              refine v_aload_n ok 1 dX10_read_96 rfl rfl ?_
              refine v_iconst (n := 0) ok dX10_read_97 ?_
              refine v_put (T := TX10) (N := 22) (f0 := (up (up (up (M 78) 6 (clR (M 82) (M 78 5) p).2.1) 7 (-1)) 9 (m + 1))) (f' := up (up (up (up (M 78) 6 (clR (M 82) (M 78 5) p).2.1) 7 (-1)) 9 (m + 1)) 5 0) (ty := .int) ok mi_X10_read_10 (kd_lt (show kd 78 = 10 from rfl) (by decide)) rfl rfl (cellF_10 _ (by decide)) tyX10 tyX10_ok nmX10 5 (by decide) mk_X10_read_94 rfl rfl (by decide +kernel) rfl rfl (Nat.le_of_ble_eq_true rfl) ((cellF_10 _ (by decide)).trans rfl) dX10_read_98 ?_
              rw [up1_up1]
              refine v_aload_n ok 1 dX10_read_101 rfl rfl ?_
              refine v_get (T := TX10) (N := 22) (f0 := up (up (up (up (M 78) 6 (clR (M 82) (M 78 5) p).2.1) 7 (-1)) 9 (m + 1)) 5 0) (v := iv (-1)) ok mi_X10_read_10 (kd_lt (show kd 78 = 10 from rfl) (by decide)) rfl rfl (cellF_10 _ (by decide)) 7 (by decide) mk_X10_read_98 rfl rfl dX10_read_102 ?_
              refine v_if_lt (tgt := 116) ok (by decide) dX10_read_105 (by decide) (fun c32 => ?_) (fun c32 => absurd c32 (by decide))
              refine v_iconst (n := 0) ok dX10_read_116 ?_
              refine v_istore_n ok [(2, iv 0), (1, iv 0), (0, rf g 78)] dX10_read_117 rfl (by decide) rfl ?_
              refine v_iconst (n := 0) ok dX10_read_118 ?_
              refine v_istore_n ok [(3, iv 0), (2, iv 0), (1, iv 0), (0, rf g 78)] dX10_read_119 rfl (by decide) rfl ?_
              have lp120x : ∀ (fu : Nat) (k d : Int) (D Q : Int → Int), (0 ≤ k ∧ k ≤ m + 1) → (WOk Q) → ((doN (M 82) (M 78 5) (ncl (M 82) (M 78 5) 12 0) 0 (M 79)) = (d + (doN (M 82) (M 78 5) (m + 1 - k).toNat (cps (M 82) (M 78 5) k.toNat) Q).1, (doN (M 82) (M 78 5) (m + 1 - k).toNat (cps (M 82) (M 78 5) k.toNat) Q).2)) → (m + 1 - k).toNat < fu → V z g 4 (up1 (up1 (up1 (up1 M 83 (clS G m (sgn (M 82) (M 78 5) p) (clR (M 82) (M 78 5) p).2.2 (clV (M 82) (M 78 5) p))) 78 (up (up (up (up (M 78) 6 (clR (M 82) (M 78 5) p).2.1) 7 (-1)) 9 (m + 1)) 5 0)) 81 D) 79 Q) [(0, rf g 78), (2, iv d), (3, iv k)] [] 120 := by
                intro fu
                induction fu with
                | zero => intro k d D Q _ _ _ hm; exact absurd hm (Nat.not_lt_zero _)
                | succ fu ih120 =>
                  intro k d D Q i120_0 i120_1 i120_2 hm120
                  refine v_iload_n ok 2 dX10_read_120 rfl rfl ?_
                  refine v_aload_n ok 0 dX10_read_121 rfl rfl ?_
                  refine v_get (T := TX10) (N := 22) (f0 := up (up (up (up (M 78) 6 (clR (M 82) (M 78 5) p).2.1) 7 (-1)) 9 (m + 1)) 5 0) (v := iv (m + 1)) ok mi_X10_read_10 (kd_lt (show kd 78 = 10 from rfl) (by decide)) rfl rfl (cellF_10 _ (by decide)) 9 (by decide) mk_X10_read_119 rfl rfl dX10_read_122 ?_
                  refine v_icmp_ge (tgt := 153) ok ⟨by omega, by omega⟩ ⟨by omega, by omega⟩ dX10_read_125 (by decide) (fun c33 => ?_) (fun c33 => ?_)
                  · skip
                    have hfin : (doN (M 82) (M 78 5) (ncl (M 82) (M 78 5) 12 0) 0 (M 79)) = (d, Q) := by rw [i120_2, show (m + 1 - k).toNat = 0 by omega]; show (d + 0, Q) = _; rw [Int.add_zero]
                    refine v_iload_n ok 1 dX10_read_153 rfl rfl ?_
                    rw [show ((up1 (up1 (up1 (up1 M 83 (clS G m (sgn (M 82) (M 78 5) p) (clR (M 82) (M 78 5) p).2.2 (clV (M 82) (M 78 5) p))) 78 (up (up (up (up (M 78) 6 (clR (M 82) (M 78 5) p).2.1) 7 (-1)) 9 (m + 1)) 5 0)) 81 D) 79 Q) : Mem) = (up1 (up1 (up1 (up1 M 83 (clS G m (sgn (M 82) (M 78 5) p) (clR (M 82) (M 78 5) p).2.2 (clV (M 82) (M 78 5) p))) 78 (up (up (up (up (M 78) 6 (clR (M 82) (M 78 5) p).2.1) 7 (-1)) 9 (m + 1)) 5 0)) 81 D) 79 ((doN (M 82) (M 78 5) (ncl (M 82) (M 78 5) 12 0) 0 (M 79)).2)) from (by rw [hfin])]
                    exact v_iret ok rt dX10_read_154 (Or.inr (⟨(clS G m (sgn (M 82) (M 78 5) p) (clR (M 82) (M 78 5) p).2.2 (clV (M 82) (M 78 5) p)), (up (up (up (up (M 78) 6 (clR (M 82) (M 78 5) p).2.1) 7 (-1)) 9 (m + 1)) 5 0), D, (congrArg (fun q : Int => some (iv q)) (show d = (doN (M 82) (M 78 5) (ncl (M 82) (M 78 5) 12 0) 0 (M 79)).1 from by (rw [hfin]))), rfl, hfe, rfl, (fun j q5 q6 q7 q9 => by simp [up, q5, q6, q7, q9])⟩))
                  · skip
                    have hck := (hst9 k.toNat (by omega)).2
                    have hsk := (hst9 k.toNat (by omega)).1
                    rw [show ((k.toNat : Nat) : Int) = k by omega] at hsk
                    have hok := clR_ok hck
                    have hlc := hsk.1
                    have hcl9 : ClOk ((clS G m (sgn (M 82) (M 78 5) p) (clR (M 82) (M 78 5) p).2.2 (clV (M 82) (M 78 5) p)) (14 * k)) ((clS G m (sgn (M 82) (M 78 5) p) (clR (M 82) (M 78 5) p).2.2 (clV (M 82) (M 78 5) p)) (14 * k + 1)) (rdV (clS G m (sgn (M 82) (M 78 5) p) (clR (M 82) (M 78 5) p).2.2 (clV (M 82) (M 78 5) p)) (14 * k)) := by rw [hsk.1, hsk.2.1]; exact ClOk_cg hok (fun j j0 j1 => (hsk.2.2 j j0 j1).symm)
                    have hdc : dcW ((clS G m (sgn (M 82) (M 78 5) p) (clR (M 82) (M 78 5) p).2.2 (clV (M 82) (M 78 5) p)) (14 * k)) ((clS G m (sgn (M 82) (M 78 5) p) (clR (M 82) (M 78 5) p).2.2 (clV (M 82) (M 78 5) p)) (14 * k + 1)) (rdV (clS G m (sgn (M 82) (M 78 5) p) (clR (M 82) (M 78 5) p).2.2 (clV (M 82) (M 78 5) p)) (14 * k)) Q = dcW (sgn (M 82) (M 78 5) (cps (M 82) (M 78 5) k.toNat)) (clR (M 82) (M 78 5) (cps (M 82) (M 78 5) k.toNat)).2.2 (clV (M 82) (M 78 5) (cps (M 82) (M 78 5) k.toNat)) Q := by rw [hsk.1, hsk.2.1]; exact (dcW_cg hok (fun j j0 j1 => (hsk.2.2 j j0 j1).symm)).symm
                    have hb8 := doN_s (T := M 82) (L := M 78 5) (p := cps (M 82) (M 78 5) k.toNat) (Q := Q) (n := (m + 1 - (k + 1)).toNat) (d := d)
                    have h01 := dcW_01 ((clS G m (sgn (M 82) (M 78 5) p) (clR (M 82) (M 78 5) p).2.2 (clV (M 82) (M 78 5) p)) (14 * k)) ((clS G m (sgn (M 82) (M 78 5) p) (clR (M 82) (M 78 5) p).2.2 (clV (M 82) (M 78 5) p)) (14 * k + 1)) (rdV (clS G m (sgn (M 82) (M 78 5) p) (clR (M 82) (M 78 5) p).2.2 (clV (M 82) (M 78 5) p)) (14 * k)) Q
                    have hwq := dcW_WOk i120_1 hcl9
                    refine v_iload_n ok 1 dX10_read_128 rfl rfl ?_
                    refine v_aload_n ok 0 dX10_read_129 rfl rfl ?_
                    refine v_bipush (n := 14) ok rfl dX10_read_130 ?_
                    refine v_iload_n ok 2 dX10_read_132 rfl rfl ?_
                    refine v_imul ok dX10_read_133 ?_
                    refine v_callV (na := 1) (i := 78) (C := RX10) (T := TX10) (N := 22) (f0 := up (up (up (up (M 78) 6 (clR (M 82) (M 78 5) p).2.1) 7 (-1)) 9 (m + 1)) 5 0) ok (ct_X10_isDone z.2.1 g (up1 (up1 (up1 (up1 M 83 (clS G m (sgn (M 82) (M 78 5) p) (clR (M 82) (M 78 5) p).2.2 (clV (M 82) (M 78 5) p))) 78 (up (up (up (up (M 78) 6 (clR (M 82) (M 78 5) p).2.1) 7 (-1)) 9 (m + 1)) 5 0)) 81 D) 79 Q) (14 * k) (by omega) hcl9 i120_1) gX10_read_X10_isDone (kd_lt (show kd 78 = 10 from rfl) (by decide)) rfl rfl (cellF_10 _ (by decide)) rfl (by decide +kernel) rfl (by decide) [iv d] rfl (Nat.le_of_ble_eq_true rfl) dX10_read_134 (fun v35 M36 hp34 => ?_)
                    obtain ⟨D37, rfl, rfl⟩ := hp34
                    show V z g 4 (up1 (up1 (up1 (up1 (up1 (up1 M 83 (clS G m (sgn (M 82) (M 78 5) p) (clR (M 82) (M 78 5) p).2.2 (clV (M 82) (M 78 5) p))) 78 (up (up (up (up (M 78) 6 (clR (M 82) (M 78 5) p).2.1) 7 (-1)) 9 (m + 1)) 5 0)) 81 D) 79 Q) 81 D37) 79 ((dcW ((clS G m (sgn (M 82) (M 78 5) p) (clR (M 82) (M 78 5) p).2.2 (clV (M 82) (M 78 5) p)) (14 * k)) ((clS G m (sgn (M 82) (M 78 5) p) (clR (M 82) (M 78 5) p).2.2 (clV (M 82) (M 78 5) p)) ((14 * k) + 1)) (rdV ((clS G m (sgn (M 82) (M 78 5) p) (clR (M 82) (M 78 5) p).2.2 (clV (M 82) (M 78 5) p))) (14 * k)) (Q)).2)) [(0, rf g 78), (2, iv d), (3, iv k)] [iv ((dcW ((clS G m (sgn (M 82) (M 78 5) p) (clR (M 82) (M 78 5) p).2.2 (clV (M 82) (M 78 5) p)) (14 * k)) ((clS G m (sgn (M 82) (M 78 5) p) (clR (M 82) (M 78 5) p).2.2 (clV (M 82) (M 78 5) p)) ((14 * k) + 1)) (rdV ((clS G m (sgn (M 82) (M 78 5) p) (clR (M 82) (M 78 5) p).2.2 (clV (M 82) (M 78 5) p))) (14 * k)) (Q)).1), iv d] 137
                    rw [show ((up1 (up1 (up1 (up1 (up1 (up1 M 83 (clS G m (sgn (M 82) (M 78 5) p) (clR (M 82) (M 78 5) p).2.2 (clV (M 82) (M 78 5) p))) 78 (up (up (up (up (M 78) 6 (clR (M 82) (M 78 5) p).2.1) 7 (-1)) 9 (m + 1)) 5 0)) 81 D) 79 Q) 81 D37) 79 ((dcW ((clS G m (sgn (M 82) (M 78 5) p) (clR (M 82) (M 78 5) p).2.2 (clV (M 82) (M 78 5) p)) (14 * k)) ((clS G m (sgn (M 82) (M 78 5) p) (clR (M 82) (M 78 5) p).2.2 (clV (M 82) (M 78 5) p)) ((14 * k) + 1)) (rdV ((clS G m (sgn (M 82) (M 78 5) p) (clR (M 82) (M 78 5) p).2.2 (clV (M 82) (M 78 5) p))) (14 * k)) (Q)).2)) : Mem) = (up1 (up1 (up1 (up1 M 83 (clS G m (sgn (M 82) (M 78 5) p) (clR (M 82) (M 78 5) p).2.2 (clV (M 82) (M 78 5) p))) 78 (up (up (up (up (M 78) 6 (clR (M 82) (M 78 5) p).2.1) 7 (-1)) 9 (m + 1)) 5 0)) 81 D37) 79 ((dcW ((clS G m (sgn (M 82) (M 78 5) p) (clR (M 82) (M 78 5) p).2.2 (clV (M 82) (M 78 5) p)) (14 * k)) ((clS G m (sgn (M 82) (M 78 5) p) (clR (M 82) (M 78 5) p).2.2 (clV (M 82) (M 78 5) p)) ((14 * k) + 1)) (rdV ((clS G m (sgn (M 82) (M 78 5) p) (clR (M 82) (M 78 5) p).2.2 (clV (M 82) (M 78 5) p))) (14 * k)) (Q)).2)) from (by
                          funext j
                          by_cases hj0 : j = 83
                          · subst hj0; simp [up1, up1_self]
                          by_cases hj1 : j = 78
                          · subst hj1; simp [up1, up1_self]
                          by_cases hj2 : j = 81
                          · subst hj2; simp [up1, up1_self]
                          by_cases hj3 : j = 79
                          · subst hj3; simp [up1, up1_self]
                          simp [up1, hj0, hj1, hj2, hj3])]
                    refine v_if_eq (tgt := 144) ok ⟨by omega, by omega⟩ dX10_read_137 (by decide) (fun c38 => ?_) (fun c38 => ?_)
                    · skip
                      refine v_iconst (n := 0) ok dX10_read_144 ?_
                      refine v_iadd ok dX10_read_145 ?_
                      refine v_istore_n ok [(2, iv (d + 0)), (0, rf g 78), (3, iv k)] dX10_read_146 rfl (by decide) rfl ?_
                      have hb9 : (doN (M 82) (M 78 5) (ncl (M 82) (M 78 5) 12 0) 0 (M 79)) = ((d + 0) + (doN (M 82) (M 78 5) (m + 1 - (k + 1)).toNat (cps (M 82) (M 78 5) (k + 1).toNat) (dcW ((clS G m (sgn (M 82) (M 78 5) p) (clR (M 82) (M 78 5) p).2.2 (clV (M 82) (M 78 5) p)) (14 * k)) ((clS G m (sgn (M 82) (M 78 5) p) (clR (M 82) (M 78 5) p).2.2 (clV (M 82) (M 78 5) p)) (14 * k + 1)) (rdV (clS G m (sgn (M 82) (M 78 5) p) (clR (M 82) (M 78 5) p).2.2 (clV (M 82) (M 78 5) p)) (14 * k)) Q).2).1, (doN (M 82) (M 78 5) (m + 1 - (k + 1)).toNat (cps (M 82) (M 78 5) (k + 1).toNat) (dcW ((clS G m (sgn (M 82) (M 78 5) p) (clR (M 82) (M 78 5) p).2.2 (clV (M 82) (M 78 5) p)) (14 * k)) ((clS G m (sgn (M 82) (M 78 5) p) (clR (M 82) (M 78 5) p).2.2 (clV (M 82) (M 78 5) p)) (14 * k + 1)) (rdV (clS G m (sgn (M 82) (M 78 5) p) (clR (M 82) (M 78 5) p).2.2 (clV (M 82) (M 78 5) p)) (14 * k)) Q).2).2) := by
                        rw [i120_2, show (m + 1 - k).toNat = (m + 1 - (k + 1)).toNat + 1 by omega, hb8, ← hdc, show (k + 1).toNat = k.toNat + 1 by omega, cps]
                        congr 1; omega
                      refine v_iinc ok 2 [(3, iv (k + 1)), (2, iv (d + 0)), (0, rf g 78)] dX10_read_147 rfl (by decide) rfl ?_
                      refine v_goto (tgt := 120) ok dX10_read_150 (by decide) ?_
                      refine v_lv (ls' := [(0, rf g 78), (2, iv (d + 0)), (3, iv (k + 1))]) ok [2, 1, 0] rfl ?_
                      exact ih120 (k + 1) (d + 0) D37 ((dcW ((clS G m (sgn (M 82) (M 78 5) p) (clR (M 82) (M 78 5) p).2.2 (clV (M 82) (M 78 5) p)) (14 * k)) ((clS G m (sgn (M 82) (M 78 5) p) (clR (M 82) (M 78 5) p).2.2 (clV (M 82) (M 78 5) p)) ((14 * k) + 1)) (rdV ((clS G m (sgn (M 82) (M 78 5) p) (clR (M 82) (M 78 5) p).2.2 (clV (M 82) (M 78 5) p))) (14 * k)) (Q)).2) (by omega) hwq hb9 (by omega)
                    · skip
                      refine v_iconst (n := 1) ok dX10_read_140 ?_
                      refine v_goto (tgt := 145) ok dX10_read_141 (by decide) ?_
                      refine v_iadd ok dX10_read_145 ?_
                      refine v_istore_n ok [(2, iv (d + 1)), (0, rf g 78), (3, iv k)] dX10_read_146 rfl (by decide) rfl ?_
                      have hb9 : (doN (M 82) (M 78 5) (ncl (M 82) (M 78 5) 12 0) 0 (M 79)) = ((d + 1) + (doN (M 82) (M 78 5) (m + 1 - (k + 1)).toNat (cps (M 82) (M 78 5) (k + 1).toNat) (dcW ((clS G m (sgn (M 82) (M 78 5) p) (clR (M 82) (M 78 5) p).2.2 (clV (M 82) (M 78 5) p)) (14 * k)) ((clS G m (sgn (M 82) (M 78 5) p) (clR (M 82) (M 78 5) p).2.2 (clV (M 82) (M 78 5) p)) (14 * k + 1)) (rdV (clS G m (sgn (M 82) (M 78 5) p) (clR (M 82) (M 78 5) p).2.2 (clV (M 82) (M 78 5) p)) (14 * k)) Q).2).1, (doN (M 82) (M 78 5) (m + 1 - (k + 1)).toNat (cps (M 82) (M 78 5) (k + 1).toNat) (dcW ((clS G m (sgn (M 82) (M 78 5) p) (clR (M 82) (M 78 5) p).2.2 (clV (M 82) (M 78 5) p)) (14 * k)) ((clS G m (sgn (M 82) (M 78 5) p) (clR (M 82) (M 78 5) p).2.2 (clV (M 82) (M 78 5) p)) (14 * k + 1)) (rdV (clS G m (sgn (M 82) (M 78 5) p) (clR (M 82) (M 78 5) p).2.2 (clV (M 82) (M 78 5) p)) (14 * k)) Q).2).2) := by
                        rw [i120_2, show (m + 1 - k).toNat = (m + 1 - (k + 1)).toNat + 1 by omega, hb8, ← hdc, show (k + 1).toNat = k.toNat + 1 by omega, cps]
                        congr 1; omega
                      refine v_iinc ok 2 [(3, iv (k + 1)), (2, iv (d + 1)), (0, rf g 78)] dX10_read_147 rfl (by decide) rfl ?_
                      refine v_goto (tgt := 120) ok dX10_read_150 (by decide) ?_
                      refine v_lv (ls' := [(0, rf g 78), (2, iv (d + 1)), (3, iv (k + 1))]) ok [2, 1, 0] rfl ?_
                      exact ih120 (k + 1) (d + 1) D37 ((dcW ((clS G m (sgn (M 82) (M 78 5) p) (clR (M 82) (M 78 5) p).2.2 (clV (M 82) (M 78 5) p)) (14 * k)) ((clS G m (sgn (M 82) (M 78 5) p) (clR (M 82) (M 78 5) p).2.2 (clV (M 82) (M 78 5) p)) ((14 * k) + 1)) (rdV ((clS G m (sgn (M 82) (M 78 5) p) (clR (M 82) (M 78 5) p).2.2 (clV (M 82) (M 78 5) p))) (14 * k)) (Q)).2) (by omega) hwq hb9 (by omega)
              rw [show ((up1 (up1 M 83 (clS G m (sgn (M 82) (M 78 5) p) (clR (M 82) (M 78 5) p).2.2 (clV (M 82) (M 78 5) p))) 78 (up (up (up (up (M 78) 6 (clR (M 82) (M 78 5) p).2.1) 7 (-1)) 9 (m + 1)) 5 0)) : Mem) = (up1 (up1 (up1 (up1 M 83 (clS G m (sgn (M 82) (M 78 5) p) (clR (M 82) (M 78 5) p).2.2 (clV (M 82) (M 78 5) p))) 78 (up (up (up (up (M 78) 6 (clR (M 82) (M 78 5) p).2.1) 7 (-1)) 9 (m + 1)) 5 0)) 81 (M 81)) 79 (M 79)) from zz_k]
              refine v_lv (ls' := [(0, rf g 78), (2, iv 0), (3, iv 0)]) ok [3, 1, 0] rfl ?_
              exact lp120x _ 0 0 (M 81) (M 79) (by omega) hw (by rw [hnc9, Int.sub_zero, Int.zero_add]; rfl) (Nat.lt_succ_self _)
            · skip
              have hfe : (ffR (M 82) (M 78 5) 12 0) = (clR (M 82) (M 78 5) p).2.1 := by rw [hfr, if_neg c31]
              refine v_aload_n ok 1 dX10_read_88 rfl rfl ?_
              refine v_aload_n ok 1 dX10_read_89 rfl rfl ?_
              refine v_get (T := TX10) (N := 22) (f0 := (up (up (up (M 78) 6 (clR (M 82) (M 78 5) p).2.1) 7 (-1)) 9 (m + 1))) (v := iv ((clR (M 82) (M 78 5) p).2.1)) ok mi_X10_read_10 (kd_lt (show kd 78 = 10 from rfl) (by decide)) rfl rfl (cellF_10 _ (by decide)) 6 (by decide) mk_X10_read_101 rfl rfl dX10_read_90 ?_
              refine v_put (T := TX10) (N := 22) (f0 := (up (up (up (M 78) 6 (clR (M 82) (M 78 5) p).2.1) 7 (-1)) 9 (m + 1))) (f' := up (up (up (up (M 78) 6 (clR (M 82) (M 78 5) p).2.1) 7 (-1)) 9 (m + 1)) 7 ((clR (M 82) (M 78 5) p).2.1)) (ty := .int) ok mi_X10_read_10 (kd_lt (show kd 78 = 10 from rfl) (by decide)) rfl rfl (cellF_10 _ (by decide)) tyX10 tyX10_ok nmX10 7 (by decide) mk_X10_read_98 rfl rfl (by decide +kernel) rfl rfl (Nat.le_of_ble_eq_true rfl) ((cellF_10 _ (by decide)).trans rfl) dX10_read_93 ?_
              rw [up1_up1]
              refine v_aload_n ok 1 dX10_read_96 rfl rfl ?_
              refine v_iconst (n := 0) ok dX10_read_97 ?_
              refine v_put (T := TX10) (N := 22) (f0 := up (up (up (up (M 78) 6 (clR (M 82) (M 78 5) p).2.1) 7 (-1)) 9 (m + 1)) 7 ((clR (M 82) (M 78 5) p).2.1)) (f' := up (up (up (up (up (M 78) 6 (clR (M 82) (M 78 5) p).2.1) 7 (-1)) 9 (m + 1)) 7 ((clR (M 82) (M 78 5) p).2.1)) 5 0) (ty := .int) ok mi_X10_read_10 (kd_lt (show kd 78 = 10 from rfl) (by decide)) rfl rfl (cellF_10 _ (by decide)) tyX10 tyX10_ok nmX10 5 (by decide) mk_X10_read_94 rfl rfl (by decide +kernel) rfl rfl (Nat.le_of_ble_eq_true rfl) ((cellF_10 _ (by decide)).trans rfl) dX10_read_98 ?_
              rw [up1_up1]
              refine v_aload_n ok 1 dX10_read_101 rfl rfl ?_
              refine v_get (T := TX10) (N := 22) (f0 := up (up (up (up (up (M 78) 6 (clR (M 82) (M 78 5) p).2.1) 7 (-1)) 9 (m + 1)) 7 ((clR (M 82) (M 78 5) p).2.1)) 5 0) (v := iv ((clR (M 82) (M 78 5) p).2.1)) ok mi_X10_read_10 (kd_lt (show kd 78 = 10 from rfl) (by decide)) rfl rfl (cellF_10 _ (by decide)) 7 (by decide) mk_X10_read_98 rfl rfl dX10_read_102 ?_
              refine v_if_lt (tgt := 116) ok ⟨by omega, by omega⟩ dX10_read_105 (by decide) (fun c39 => absurd c39 (by omega)) (fun c39 => ?_)
              refine v_bipush (n := -10) ok rfl dX10_read_108 ?_
              refine v_aload_n ok 1 dX10_read_110 rfl rfl ?_
              refine v_get (T := TX10) (N := 22) (f0 := up (up (up (up (up (M 78) 6 (clR (M 82) (M 78 5) p).2.1) 7 (-1)) 9 (m + 1)) 7 ((clR (M 82) (M 78 5) p).2.1)) 5 0) (v := iv ((clR (M 82) (M 78 5) p).2.1)) ok mi_X10_read_10 (kd_lt (show kd 78 = 10 from rfl) (by decide)) rfl rfl (cellF_10 _ (by decide)) 7 (by decide) mk_X10_read_98 rfl rfl dX10_read_111 ?_
              refine v_isub ok dX10_read_114 ?_
              exact v_iret ok rt dX10_read_115 (Or.inl (⟨(clS G m (sgn (M 82) (M 78 5) p) (clR (M 82) (M 78 5) p).2.2 (clV (M 82) (M 78 5) p)), (up (up (up (up (up (M 78) 6 (clR (M 82) (M 78 5) p).2.1) 7 (-1)) 9 (m + 1)) 7 ((clR (M 82) (M 78 5) p).2.1)) 5 0), (congrArg (fun q : Int => some (iv q)) (show ((-10) - ((clR (M 82) (M 78 5) p).2.1)) = (-10 - (ffR (M 82) (M 78 5) 12 0)) from by first | (rw [hfe]) | (rw [hfr]))), rfl, (by first | (rw [hfe]; exact hcr.2.1) | (rw [hfr]; exact hcr.2.1)), rfl, (fun j q5 q6 q7 q9 => by simp [up, q5, q6, q7, q9])⟩))
          · skip
            have hb2 : (ffR (M 82) (M 78 5) 12 0) = ffR (M 82) (M 78 5) (12 - (m + 1)).toNat ((clR (M 82) (M 78 5) p).2.1 + 1) := by rw [i17_2, show (12 - m).toNat = (12 - (m + 1)).toNat + 1 by omega, ffR, if_neg (by omega), if_neg (by omega), if_neg (by omega)]
            have hb3 : (ncl (M 82) (M 78 5) 12 0) = (m + 1).toNat + ncl (M 82) (M 78 5) (12 - (m + 1)).toNat ((clR (M 82) (M 78 5) p).2.1 + 1) := by rw [i17_3, show (12 - m).toNat = (12 - (m + 1)).toNat + 1 by omega, ncl, if_neg (by omega)]; omega
            have hb4 : (clR (M 82) (M 78 5) p).2.1 + 1 = cps (M 82) (M 78 5) (m + 1).toNat := by rw [show (m + 1).toNat = m.toNat + 1 by omega, cps, ← hcp]
            refine v_iconst (n := 1) ok dX10_read_43 ?_
            refine v_goto (tgt := 48) ok dX10_read_44 (by decide) ?_
            refine v_istore_n ok [(1, iv 1), (0, rf g 78)] dX10_read_48 rfl (by decide) rfl ?_
            refine v_aload_n ok 1 dX10_read_49 rfl rfl ?_
            refine v_dup ok rfl dX10_read_50 ?_
            refine v_get (T := TX10) (N := 22) (f0 := (up (up (up (M 78) 6 (clR (M 82) (M 78 5) p).2.1) 7 (-1)) 9 (m + 1))) (v := iv ((clR (M 82) (M 78 5) p).2.1)) ok mi_X10_read_10 (kd_lt (show kd 78 = 10 from rfl) (by decide)) rfl rfl (cellF_10 _ (by decide)) 6 (by decide) mk_X10_read_101 rfl rfl dX10_read_51 ?_
            refine v_iload_n ok 0 dX10_read_54 rfl rfl ?_
            refine v_if_eq (tgt := 62) ok (by decide) dX10_read_55 (by decide) (fun c40 => absurd c40 (by decide)) (fun c40 => ?_)
            refine v_iconst (n := 1) ok dX10_read_58 ?_
            refine v_goto (tgt := 63) ok dX10_read_59 (by decide) ?_
            refine v_iadd ok dX10_read_63 ?_
            refine v_put (T := TX10) (N := 22) (f0 := (up (up (up (M 78) 6 (clR (M 82) (M 78 5) p).2.1) 7 (-1)) 9 (m + 1))) (f' := up (up (up (up (M 78) 6 (clR (M 82) (M 78 5) p).2.1) 7 (-1)) 9 (m + 1)) 6 (((clR (M 82) (M 78 5) p).2.1) + 1)) (ty := .int) ok mi_X10_read_10 (kd_lt (show kd 78 = 10 from rfl) (by decide)) rfl rfl (cellF_10 _ (by decide)) tyX10 tyX10_ok nmX10 6 (by decide) mk_X10_read_101 rfl rfl (by decide +kernel) rfl rfl (Nat.le_of_ble_eq_true rfl) ((cellF_10 _ (by decide)).trans rfl) dX10_read_64 ?_
            rw [up1_up1]
            rw [show ((up1 (up1 M 83 (clS G m (sgn (M 82) (M 78 5) p) (clR (M 82) (M 78 5) p).2.2 (clV (M 82) (M 78 5) p))) 78 (up (up (up (up (M 78) 6 (clR (M 82) (M 78 5) p).2.1) 7 (-1)) 9 (m + 1)) 6 (((clR (M 82) (M 78 5) p).2.1) + 1))) : Mem) = (up1 (up1 M 83 (clS G m (sgn (M 82) (M 78 5) p) (clR (M 82) (M 78 5) p).2.2 (clV (M 82) (M 78 5) p))) 78 (up (up (up (M 78) 6 ((clR (M 82) (M 78 5) p).2.1 + 1)) 7 (-1)) 9 (m + 1))) from (by rw [up_c3])]
            refine v_goto (tgt := 17) ok dX10_read_67 (by decide) ?_
            refine v_lv (ls' := [(0, rf g 78), (1, iv 1)]) ok [1, 0] rfl ?_
            exact ih17 (m + 1) ((clR (M 82) (M 78 5) p).2.1 + 1) (clS G m (sgn (M 82) (M 78 5) p) (clR (M 82) (M 78 5) p).2.2 (clV (M 82) (M 78 5) p)) (by omega) (by omega) hb2 hb3 hb4 hst9 (by omega)
      · skip
        have h8 : (clR ((M 82)) ((M 78 5)) (p)).1 = 0 := h8
        show V z g 4 (up1 (up1 (up1 (up1 M 83 G) 78 (up (up (up (M 78) 6 p) 7 (-1)) 9 m)) 83 G6) 78 (up (up (up ((up (up (up (M 78) 6 p) 7 (-1)) 9 m)) 6 (clR ((M 82)) ((M 78 5)) (p)).2.1) 7 (clR ((M 82)) ((M 78 5)) (p)).2.1) 9 m7)) [(0, rf g 78), (1, iv 1)] [] 25
        rw [show ((up1 (up1 (up1 (up1 M 83 G) 78 (up (up (up (M 78) 6 p) 7 (-1)) 9 m)) 83 G6) 78 (up (up (up ((up (up (up (M 78) 6 p) 7 (-1)) 9 m)) 6 (clR ((M 82)) ((M 78 5)) (p)).2.1) 7 (clR ((M 82)) ((M 78 5)) (p)).2.1) 9 m7)) : Mem) = (up1 (up1 M 83 G6) 78 (up (up (up ((up (up (up (M 78) 6 p) 7 (-1)) 9 m)) 6 (clR ((M 82)) ((M 78 5)) (p)).2.1) 7 (clR ((M 82)) ((M 78 5)) (p)).2.1) 9 m7)) from (by
              funext j
              by_cases hj0 : j = 83
              · subst hj0; simp [up1, up1_self]
              by_cases hj1 : j = 78
              · subst hj1; simp [up1, up1_self]
              simp [up1, hj0, hj1])]
        have h1c := h8
        have h1m := h9
        rw [show ((up1 (up1 M 83 G6) 78 (up (up (up ((up (up (up (M 78) 6 p) 7 (-1)) 9 m)) 6 (clR ((M 82)) ((M 78 5)) (p)).2.1) 7 (clR ((M 82)) ((M 78 5)) (p)).2.1) 9 m7)) : Mem) = (up1 (up1 M 83 G6) 78 (up (up (up (M 78) 6 (clR (M 82) (M 78 5) p).2.1) 7 (clR (M 82) (M 78 5) p).2.1) 9 m7)) from (by rw [up_c5])]
        have hfr : (ffR (M 82) (M 78 5) 12 0) = (clR (M 82) (M 78 5) p).2.1 := by rw [i17_2, show (12 - m).toNat = (11 - m).toNat + 1 by omega, ffR, if_pos h1c]
        refine v_aload_n ok 0 dX10_read_25 rfl rfl ?_
        refine v_callV (na := 0) (i := 78) (C := RX10) (T := TX10) (N := 22) (f0 := (up (up (up (M 78) 6 (clR (M 82) (M 78 5) p).2.1) 7 (clR (M 82) (M 78 5) p).2.1) 9 m7)) ok (ct_X10_here z.2.1 g (up1 (up1 M 83 G6) 78 (up (up (up (M 78) 6 (clR (M 82) (M 78 5) p).2.1) 7 (clR (M 82) (M 78 5) p).2.1) 9 m7))  (by show 0 ≤ (M 78 5) ∧ (M 78 5) ≤ 100; first | omega | assumption) (by show 0 ≤ ((clR (M 82) (M 78 5) p).2.1) ∧ ((clR (M 82) (M 78 5) p).2.1) ≤ 100; first | omega | assumption) (by show -1 ≤ ((clR (M 82) (M 78 5) p).2.1) ∧ ((clR (M 82) (M 78 5) p).2.1) ≤ 1000; first | omega | assumption) (by show bdf ((M 82)) 100 0 127; first | omega | assumption)) gX10_read_X10_here (kd_lt (show kd 78 = 10 from rfl) (by decide)) rfl rfl (cellF_10 _ (by decide)) rfl (by decide +kernel) rfl (by decide) [] rfl (Nat.le_of_ble_eq_true rfl) dX10_read_26 (fun v42 M43 hp41 => ?_)
        obtain ⟨rfl, rfl, h44⟩ := hp41
        have h44 : -1 ≤ (hrW (((clR (M 82) (M 78 5) p).2.1)) (((clR (M 82) (M 78 5) p).2.1)) ((M 82)) ((M 78 5))) ∧ (hrW (((clR (M 82) (M 78 5) p).2.1)) (((clR (M 82) (M 78 5) p).2.1)) ((M 82)) ((M 78 5))) ≤ 127 := h44
        show V z g 4 (up1 (up1 M 83 G6) 78 (up (up (up (M 78) 6 (clR (M 82) (M 78 5) p).2.1) 7 (clR (M 82) (M 78 5) p).2.1) 9 m7)) [(0, rf g 78), (1, iv 1)] [iv (hrW (((clR (M 82) (M 78 5) p).2.1)) (((clR (M 82) (M 78 5) p).2.1)) ((M 82)) ((M 78 5)))] 29
        rw [show ((hrW (((clR (M 82) (M 78 5) p).2.1)) (((clR (M 82) (M 78 5) p).2.1)) ((M 82)) ((M 78 5))) : Int) = (-1) from (by unfold hrW; rw [if_neg (by omega)])]
        refine v_bipush (n := 59) ok rfl dX10_read_29 ?_
        refine v_icmp_ne (tgt := 47) ok (by decide) (by decide) dX10_read_31 (by decide) (fun c45 => ?_) (fun c45 => absurd c45 (by decide))
        refine v_iconst (n := 0) ok dX10_read_47 ?_
        refine v_istore_n ok [(1, iv 0), (0, rf g 78)] dX10_read_48 rfl (by decide) rfl ?_
        refine v_aload_n ok 1 dX10_read_49 rfl rfl ?_
        refine v_dup ok rfl dX10_read_50 ?_
        refine v_get (T := TX10) (N := 22) (f0 := (up (up (up (M 78) 6 (clR (M 82) (M 78 5) p).2.1) 7 (clR (M 82) (M 78 5) p).2.1) 9 m7)) (v := iv ((clR (M 82) (M 78 5) p).2.1)) ok mi_X10_read_10 (kd_lt (show kd 78 = 10 from rfl) (by decide)) rfl rfl (cellF_10 _ (by decide)) 6 (by decide) mk_X10_read_101 rfl rfl dX10_read_51 ?_
        refine v_iload_n ok 0 dX10_read_54 rfl rfl ?_
        refine v_if_eq (tgt := 62) ok (by decide) dX10_read_55 (by decide) (fun c46 => ?_) (fun c46 => absurd c46 (by decide))
        refine v_iconst (n := 0) ok dX10_read_62 ?_
        refine v_iadd ok dX10_read_63 ?_
        refine v_put (T := TX10) (N := 22) (f0 := (up (up (up (M 78) 6 (clR (M 82) (M 78 5) p).2.1) 7 (clR (M 82) (M 78 5) p).2.1) 9 m7)) (f' := up (up (up (up (M 78) 6 (clR (M 82) (M 78 5) p).2.1) 7 (clR (M 82) (M 78 5) p).2.1) 9 m7) 6 (((clR (M 82) (M 78 5) p).2.1) + 0)) (ty := .int) ok mi_X10_read_10 (kd_lt (show kd 78 = 10 from rfl) (by decide)) rfl rfl (cellF_10 _ (by decide)) tyX10 tyX10_ok nmX10 6 (by decide) mk_X10_read_101 rfl rfl (by decide +kernel) rfl rfl (Nat.le_of_ble_eq_true rfl) ((cellF_10 _ (by decide)).trans rfl) dX10_read_64 ?_
        rw [up1_up1]
        rw [show ((up1 (up1 M 83 G6) 78 (up (up (up (up (M 78) 6 (clR (M 82) (M 78 5) p).2.1) 7 (clR (M 82) (M 78 5) p).2.1) 9 m7) 6 (((clR (M 82) (M 78 5) p).2.1) + 0))) : Mem) = (up1 (up1 M 83 G6) 78 (up (up (up (M 78) 6 (clR (M 82) (M 78 5) p).2.1) 7 (clR (M 82) (M 78 5) p).2.1) 9 m7)) from (by rw [up_c3, Int.add_zero])]
        refine v_goto (tgt := 17) ok dX10_read_67 (by decide) ?_
        refine v_iload_n ok 0 dX10_read_17 rfl rfl ?_
        refine v_if_eq (tgt := 70) ok (by decide) dX10_read_18 (by decide) (fun c47 => ?_) (fun c47 => absurd c47 (by decide))
        refine v_aload_n ok 1 dX10_read_70 rfl rfl ?_
        refine v_get (T := TX10) (N := 22) (f0 := (up (up (up (M 78) 6 (clR (M 82) (M 78 5) p).2.1) 7 (clR (M 82) (M 78 5) p).2.1) 9 m7)) (v := iv ((clR (M 82) (M 78 5) p).2.1)) ok mi_X10_read_10 (kd_lt (show kd 78 = 10 from rfl) (by decide)) rfl rfl (cellF_10 _ (by decide)) 7 (by decide) mk_X10_read_98 rfl rfl dX10_read_71 ?_
        refine v_if_ge (tgt := 96) ok ⟨by omega, by omega⟩ dX10_read_74 (by decide) (fun c48 => ?_) (fun c48 => absurd c48 (by omega))
        refine v_aload_n ok 1 dX10_read_96 rfl rfl ?_
        refine v_iconst (n := 0) ok dX10_read_97 ?_
        refine v_put (T := TX10) (N := 22) (f0 := (up (up (up (M 78) 6 (clR (M 82) (M 78 5) p).2.1) 7 (clR (M 82) (M 78 5) p).2.1) 9 m7)) (f' := up (up (up (up (M 78) 6 (clR (M 82) (M 78 5) p).2.1) 7 (clR (M 82) (M 78 5) p).2.1) 9 m7) 5 0) (ty := .int) ok mi_X10_read_10 (kd_lt (show kd 78 = 10 from rfl) (by decide)) rfl rfl (cellF_10 _ (by decide)) tyX10 tyX10_ok nmX10 5 (by decide) mk_X10_read_94 rfl rfl (by decide +kernel) rfl rfl (Nat.le_of_ble_eq_true rfl) ((cellF_10 _ (by decide)).trans rfl) dX10_read_98 ?_
        rw [up1_up1]
        refine v_aload_n ok 1 dX10_read_101 rfl rfl ?_
        refine v_get (T := TX10) (N := 22) (f0 := up (up (up (up (M 78) 6 (clR (M 82) (M 78 5) p).2.1) 7 (clR (M 82) (M 78 5) p).2.1) 9 m7) 5 0) (v := iv ((clR (M 82) (M 78 5) p).2.1)) ok mi_X10_read_10 (kd_lt (show kd 78 = 10 from rfl) (by decide)) rfl rfl (cellF_10 _ (by decide)) 7 (by decide) mk_X10_read_98 rfl rfl dX10_read_102 ?_
        refine v_if_lt (tgt := 116) ok ⟨by omega, by omega⟩ dX10_read_105 (by decide) (fun c49 => absurd c49 (by omega)) (fun c49 => ?_)
        refine v_bipush (n := -10) ok rfl dX10_read_108 ?_
        refine v_aload_n ok 1 dX10_read_110 rfl rfl ?_
        refine v_get (T := TX10) (N := 22) (f0 := up (up (up (up (M 78) 6 (clR (M 82) (M 78 5) p).2.1) 7 (clR (M 82) (M 78 5) p).2.1) 9 m7) 5 0) (v := iv ((clR (M 82) (M 78 5) p).2.1)) ok mi_X10_read_10 (kd_lt (show kd 78 = 10 from rfl) (by decide)) rfl rfl (cellF_10 _ (by decide)) 7 (by decide) mk_X10_read_98 rfl rfl dX10_read_111 ?_
        refine v_isub ok dX10_read_114 ?_
        exact v_iret ok rt dX10_read_115 (Or.inl (⟨G6, (up (up (up (up (M 78) 6 (clR (M 82) (M 78 5) p).2.1) 7 (clR (M 82) (M 78 5) p).2.1) 9 m7) 5 0), (congrArg (fun q : Int => some (iv q)) (show ((-10) - ((clR (M 82) (M 78 5) p).2.1)) = (-10 - (ffR (M 82) (M 78 5) 12 0)) from by first | (rw [hfe]) | (rw [hfr]))), rfl, (by first | (rw [hfe]; exact hcr.2.1) | (rw [hfr]; exact hcr.2.1)), rfl, (fun j q5 q6 q7 q9 => by simp [up, q5, q6, q7, q9])⟩))
  rw [show ((up1 M 78 (up (up (up (M 78) 6 0) 7 (-1)) 9 0)) : Mem) = (up1 (up1 M 83 (M 83)) 78 (up (up (up (M 78) 6 0) 7 (-1)) 9 0)) from (by rw [up1_self])]
  refine v_lv (ls' := [(0, rf g 78), (1, iv 1)]) ok [1, 0] rfl ?_
  rw [show ((up1 (up1 M 83 (M 83)) 78 (up (up (up (M 78) 6 0) 7 (-1)) 9 0)) : Mem) = (up1 (up1 M 83 (M 83)) 78 (up (up (up (M 78) 6 (0 : Int)) 7 (-1)) 9 (0 : Int))) from (by
        funext j
        by_cases hj0 : j = 83
        · subst hj0; simp [up1, up1_self]
        by_cases hj1 : j = 78
        · subst hj1; simp [up1, up1_self]
        simp [up1, hj0, hj1])]
  exact lp17 _ 0 0 (M 83) (by omega) (by omega) rfl (by show _ = 0 + _; rw [Nat.zero_add]; rfl) rfl (fun k hk => by omega) (Nat.lt_succ_self _)
