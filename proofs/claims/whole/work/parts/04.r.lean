theorem mk_X10_readsClause_119 : Cond.fieldLink RX10 119 "StormRunoffModel" "readMany" "I" ∈ wsX10_readsClause := by decide +kernel
theorem mi_X10_readsClause_10 : ∀ w ∈ wsX100, w ∈ wsX10_readsClause := by decide +kernel
theorem mk_X10_readsClause_24 : Cond.fieldLink RX10 24 "StormRunoffModel" "read" "[I" ∈ wsX10_readsClause := by decide +kernel
theorem mk_X10_readsClause_101 : Cond.fieldLink RX10 101 "StormRunoffModel" "at" "I" ∈ wsX10_readsClause := by decide +kernel
theorem mk_X10_readsClause_98 : Cond.fieldLink RX10 98 "StormRunoffModel" "fault" "I" ∈ wsX10_readsClause := by decide +kernel
set_option maxRecDepth 100000 in
set_option maxHeartbeats 400000 in
theorem ct_X10_readsClause (l : Launch) (g : Gl) (M : Mem)  (hL : 0 ≤ M 78 5 ∧ M 78 5 ≤ 100) (hp : 0 ≤ M 78 6 ∧ M 78 6 ≤ M 78 5) (hG : bdf (M 82) 100 0 127) (hf0 : M 78 7 = -1) (hm : 0 ≤ M 78 9 ∧ M 78 9 ≤ 11) : Ct l g yX10_readsClause wsX10_readsClause 5 109 [rf g 78] M (fun rv M' => (rv = none ∧ M' = (up1 (up1 M 83 (clS (M 83) (M 78 9) (sgn (M 82) (M 78 5) (M 78 6)) (clR (M 82) (M 78 5) (M 78 6)).2.2 (clV (M 82) (M 78 5) (M 78 6)))) 78 (up (up (M 78) 6 (clR (M 82) (M 78 5) (M 78 6)).2.1) 9 (M 78 9 + 1))) ∧ ((clR (M 82) (M 78 5) (M 78 6)).1 = 1)) ∨ (∃ (G : Int → Int) (m : Int), rv = none ∧ M' = (up1 (up1 M 83 G) 78 (up (up (up (M 78) 6 (clR (M 82) (M 78 5) (M 78 6)).2.1) 7 (clR (M 82) (M 78 5) (M 78 6)).2.1) 9 m)) ∧ ((clR (M 82) (M 78 5) (M 78 6)).1 = 0) ∧ (0 ≤ m ∧ m ≤ 12))) := by
  refine Ct.of (cc := cX10_readsClause) (nL := 3) (ret := none) (by decide) rfl (Nat.le_of_ble_eq_true rfl) (fun z hz ok rt => ?_)
  have ok : Ok z g cX10_readsClause 3 RX10 wsX10_readsClause 5 109 := ok
  show V z g 3 M [(0, rf g 78)] [] 0
  refine v_aload_n ok 0 dX10_readsClause_0 rfl rfl ?_
  refine v_callV (na := 0) (i := 78) (C := RX10) (T := TX10) (N := 22) (f0 := (M 78)) ok (ct_X10_here z.2.1 g M  (by first | omega | assumption) (by first | omega | assumption) (by first | omega | assumption) (by first | omega | assumption)) gX10_readsClause_X10_here (kd_lt (show kd 78 = 10 from rfl) (by decide)) rfl rfl (cellF_10 _ (by decide)) rfl (by decide +kernel) rfl (by decide) [] rfl (Nat.le_of_ble_eq_true rfl) dX10_readsClause_1 (fun v2 M3 hp1 => ?_)
  obtain ⟨rfl, eM3, h4⟩ := hp1
  subst M3
  have h4 : -1 ≤ (hrW ((M 78) 7) ((M 78) 6) ((M 82)) ((M 78) 5)) ∧ (hrW ((M 78) 7) ((M 78) 6) ((M 82)) ((M 78) 5)) ≤ 127 := h4
  show V z g 3 M [(0, rf g 78)] [iv (hrW ((M 78) 7) ((M 78) 6) ((M 82)) ((M 78) 5))] 4
  rw [show ((hrW ((M 78) 7) ((M 78) 6) ((M 82)) ((M 78) 5)) : Int) = (sgn (M 82) (M 78 5) (M 78 6)) from (by unfold hrW; rw [if_pos (by omega)])]
  have hh8 := sgn_rng (p := M 78 6) hG (show M 78 5 ≤ 100 by omega)
  refine v_istore_n ok [(1, iv (sgn (M 82) (M 78 5) (M 78 6))), (0, rf g 78)] dX10_readsClause_4 rfl (by decide) rfl ?_
  refine v_bipush (n := 14) ok rfl dX10_readsClause_5 ?_
  refine v_aload_n ok 1 dX10_readsClause_7 rfl rfl ?_
  refine v_get (T := TX10) (N := 22) (f0 := (M 78)) (v := iv (M 78 9)) ok mi_X10_readsClause_10 (kd_lt (show kd 78 = 10 from rfl) (by decide)) rfl rfl (cellF_10 _ (by decide)) 9 (by decide) mk_X10_readsClause_119 rfl rfl dX10_readsClause_8 ?_
  refine v_imul ok dX10_readsClause_11 ?_
  refine v_istore_n ok [(2, iv (14 * (M 78 9))), (1, iv (sgn (M 82) (M 78 5) (M 78 6))), (0, rf g 78)] dX10_readsClause_12 rfl (by decide) rfl ?_
  refine v_aload_n ok 2 dX10_readsClause_13 rfl rfl ?_
  refine v_get (T := TX10) (N := 22) (f0 := (M 78)) (v := rf g 83) ok mi_X10_readsClause_10 (kd_lt (show kd 78 = 10 from rfl) (by decide)) rfl rfl (cellF_10 _ (by decide)) 8 (by decide) mk_X10_readsClause_24 rfl rfl dX10_readsClause_14 ?_
  refine v_iload_n ok 0 dX10_readsClause_17 rfl rfl ?_
  refine v_iload_n ok 1 dX10_readsClause_18 rfl rfl ?_
  refine v_iast (n := 168) (f0 := (M 83)) ok (by decide) rfl (by omega) rfl dX10_readsClause_19 ?_
  refine v_aload_n ok 2 dX10_readsClause_20 rfl rfl ?_
  refine v_get (T := TX10) (N := 22) (f0 := (M 78)) (v := rf g 83) ok mi_X10_readsClause_10 (kd_lt (show kd 78 = 10 from rfl) (by decide)) rfl rfl (cellF_10 _ (by decide)) 8 (by decide) mk_X10_readsClause_24 rfl rfl dX10_readsClause_21 ?_
  refine v_iload_n ok 0 dX10_readsClause_24 rfl rfl ?_
  refine v_iconst (n := 1) ok dX10_readsClause_25 ?_
  refine v_iadd ok dX10_readsClause_26 ?_
  refine v_iconst (n := 0) ok dX10_readsClause_27 ?_
  refine v_iast (n := 168) (f0 := up (M 83) (14 * (M 78 9)) (sgn (M 82) (M 78 5) (M 78 6))) ok (by decide) rfl (by omega) rfl dX10_readsClause_28 ?_
  rw [up1_up1]
  refine v_iload_n ok 1 dX10_readsClause_29 rfl rfl ?_
  refine v_bipush (n := 98) ok rfl dX10_readsClause_30 ?_
  refine v_icmp_eq (tgt := 76) ok ⟨by omega, by omega⟩ (by decide) dX10_readsClause_32 (by decide) (fun c5 => ?_) (fun c5 => ?_)
  · skip
    rw [show ((sgn (M 82) (M 78 5) (M 78 6)) : Int) = 98 from c5]
    have hs9 : (sgn (M 82) (M 78 5) (M 78 6)) = 98 := c5
    have hl9 := sgn_lt (T := M 82) (L := M 78 5) (p := M 78 6) (by omega)
    refine v_aload_n ok 2 dX10_readsClause_76 rfl rfl ?_
    refine v_dup ok rfl dX10_readsClause_77 ?_
    refine v_get (T := TX10) (N := 22) (f0 := (M 78)) (v := iv (M 78 6)) ok mi_X10_readsClause_10 (kd_lt (show kd 78 = 10 from rfl) (by decide)) rfl rfl (cellF_10 _ (by decide)) 6 (by decide) mk_X10_readsClause_101 rfl rfl dX10_readsClause_78 ?_
    refine v_iconst (n := 1) ok dX10_readsClause_81 ?_
    refine v_iadd ok dX10_readsClause_82 ?_
    refine v_put (T := TX10) (N := 22) (f0 := (M 78)) (f' := up (M 78) 6 ((M 78 6) + 1)) (ty := .int) ok mi_X10_readsClause_10 (kd_lt (show kd 78 = 10 from rfl) (by decide)) rfl rfl (cellF_10 _ (by decide)) tyX10 tyX10_ok nmX10 6 (by decide) mk_X10_readsClause_101 rfl rfl (by decide +kernel) rfl rfl (Nat.le_of_ble_eq_true rfl) ((cellF_10 _ (by decide)).trans rfl) dX10_readsClause_83 ?_
    refine v_iload_n ok 1 dX10_readsClause_86 rfl rfl ?_
    refine v_bipush (n := 98) ok rfl dX10_readsClause_87 ?_
    refine v_icmp_ne (tgt := 101) ok (by decide) (by decide) dX10_readsClause_89 (by decide) (fun c6 => absurd c6 (by decide)) (fun c6 => ?_)
    refine v_aload_n ok 2 dX10_readsClause_92 rfl rfl ?_
    refine v_iconst (n := 1) ok dX10_readsClause_93 ?_
    refine v_iconst (n := 5) ok dX10_readsClause_94 ?_
    rw [show ((up1 (up1 M 83 (up (up (M 83) (14 * (M 78 9)) 98) ((14 * (M 78 9)) + 1) 0)) 78 (up (M 78) 6 ((M 78 6) + 1))) : Mem) = (up1 (up1 M 83 (clS (M 83) (M 78 9) (sgn (M 82) (M 78 5) (M 78 6)) 0 (dgV (M 82) (M 78 6 + 1)))) 78 (up (M 78) 6 ((M 78 6) + 1))) from (by rw [clS_0 _ _ _ (dgV (M 82) (M 78 6 + 1)), hs9])]
    refine v_callV (na := 2) (i := 78) (C := RX10) (T := TX10) (N := 22) (f0 := up (M 78) 6 ((M 78 6) + 1)) ok (ct_X10_readsDigits_1_5 z.2.1 g (up1 (up1 M 83 (clS (M 83) (M 78 9) (sgn (M 82) (M 78 5) (M 78 6)) 0 (dgV (M 82) (M 78 6 + 1)))) 78 (up (M 78) 6 ((M 78 6) + 1))) (M 83) (sgn (M 82) (M 78 5) (M 78 6)) (by show 0 ≤ (M 78 5) ∧ (M 78 5) ≤ 100; first | omega | assumption) (by show 0 ≤ ((M 78 6) + 1) ∧ ((M 78 6) + 1) ≤ (M 78 5); first | omega | assumption) (by show bdf ((M 82)) 100 0 127; first | omega | assumption) (by show (M 78 7) = -1; first | omega | assumption) (by show 0 ≤ (M 78 9) ∧ (M 78 9) ≤ 11; first | omega | assumption) rfl) gX10_readsClause_X10_readsDigits (kd_lt (show kd 78 = 10 from rfl) (by decide)) rfl rfl (cellF_10 _ (by decide)) rfl (by decide +kernel) rfl (by decide) [] rfl (Nat.le_of_ble_eq_true rfl) dX10_readsClause_95 (fun v8 M9 hp7 => ?_)
    rcases hp7 with ⟨rfl, rfl, h10⟩ | ⟨G11, rfl, rfl, h12⟩
    · skip
      have h10 : 1 ≤ (dgs ((M 82)) ((M 78 5)) 5 (((M 78 6) + 1))) := h10
      show V z g 3 (up1 (up1 (up1 (up1 M 83 (clS (M 83) (M 78 9) (sgn (M 82) (M 78 5) (M 78 6)) 0 (dgV (M 82) (M 78 6 + 1)))) 78 (up (M 78) 6 ((M 78 6) + 1))) 83 (clS (M 83) ((M 78 9)) (sgn (M 82) (M 78 5) (M 78 6)) (dgs ((M 82)) ((M 78 5)) 5 (((M 78 6) + 1))) (dgV ((M 82)) (((M 78 6) + 1))))) 78 (up (up (M 78) 6 ((M 78 6) + 1)) 6 (((M 78 6) + 1) + (dgs ((M 82)) ((M 78 5)) 5 (((M 78 6) + 1)))))) [(2, iv (14 * (M 78 9))), (1, iv 98), (0, rf g 78)] [] 98
      rw [show ((up1 (up1 (up1 (up1 M 83 (clS (M 83) (M 78 9) (sgn (M 82) (M 78 5) (M 78 6)) 0 (dgV (M 82) (M 78 6 + 1)))) 78 (up (M 78) 6 ((M 78 6) + 1))) 83 (clS (M 83) ((M 78 9)) (sgn (M 82) (M 78 5) (M 78 6)) (dgs ((M 82)) ((M 78 5)) 5 (((M 78 6) + 1))) (dgV ((M 82)) (((M 78 6) + 1))))) 78 (up (up (M 78) 6 ((M 78 6) + 1)) 6 (((M 78 6) + 1) + (dgs ((M 82)) ((M 78 5)) 5 (((M 78 6) + 1)))))) : Mem) = (up1 (up1 M 83 (clS (M 83) ((M 78 9)) (sgn (M 82) (M 78 5) (M 78 6)) (dgs ((M 82)) ((M 78 5)) 5 (((M 78 6) + 1))) (dgV ((M 82)) (((M 78 6) + 1))))) 78 (up (up (M 78) 6 ((M 78 6) + 1)) 6 (((M 78 6) + 1) + (dgs ((M 82)) ((M 78 5)) 5 (((M 78 6) + 1)))))) from (by
            funext j
            by_cases hj0 : j = 83
            · subst hj0; simp [up1, up1_self]
            by_cases hj1 : j = 78
            · subst hj1; simp [up1, up1_self]
            simp [up1, hj0, hj1])]
      have hok9 := h10
      have hC9 : (clR (M 82) (M 78 5) (M 78 6)) = (1, M 78 6 + 1 + dgs (M 82) (M 78 5) 5 (M 78 6 + 1), dgs (M 82) (M 78 5) 5 (M 78 6 + 1)) := by unfold clR; rw [if_pos hs9, if_pos (by omega)]
      have he9 : M 78 6 + 1 + dgs (M 82) (M 78 5) 5 (M 78 6 + 1) = (clR (M 82) (M 78 5) (M 78 6)).2.1 := by rw [hC9]
      have hq9 : (clS (M 83) (M 78 9) (sgn (M 82) (M 78 5) (M 78 6)) (dgs (M 82) (M 78 5) 5 (M 78 6 + 1)) (dgV (M 82) (M 78 6 + 1))) = (clS (M 83) (M 78 9) (sgn (M 82) (M 78 5) (M 78 6)) (clR (M 82) (M 78 5) (M 78 6)).2.2 (clV (M 82) (M 78 5) (M 78 6))) := by rw [hC9]; exact clS_cg (fun j j0 j1 => by unfold clV dgV; rw [if_pos (Or.inl hs9)])
      refine v_goto (tgt := 133) ok dX10_readsClause_98 (by decide) ?_
      refine v_aload_n ok 2 dX10_readsClause_133 rfl rfl ?_
      refine v_dup ok rfl dX10_readsClause_134 ?_
      refine v_get (T := TX10) (N := 22) (f0 := (up (up (M 78) 6 ((M 78 6) + 1)) 6 (((M 78 6) + 1) + (dgs ((M 82)) ((M 78 5)) 5 (((M 78 6) + 1)))))) (v := iv (M 78 9)) ok mi_X10_readsClause_10 (kd_lt (show kd 78 = 10 from rfl) (by decide)) rfl rfl (cellF_10 _ (by decide)) 9 (by decide) mk_X10_readsClause_119 rfl rfl dX10_readsClause_135 ?_
      refine v_iconst (n := 1) ok dX10_readsClause_138 ?_
      refine v_iadd ok dX10_readsClause_139 ?_
      refine v_put (T := TX10) (N := 22) (f0 := (up (up (M 78) 6 ((M 78 6) + 1)) 6 (((M 78 6) + 1) + (dgs ((M 82)) ((M 78 5)) 5 (((M 78 6) + 1)))))) (f' := up (up (up (M 78) 6 ((M 78 6) + 1)) 6 (((M 78 6) + 1) + (dgs ((M 82)) ((M 78 5)) 5 (((M 78 6) + 1))))) 9 ((M 78 9) + 1)) (ty := .int) ok mi_X10_readsClause_10 (kd_lt (show kd 78 = 10 from rfl) (by decide)) rfl rfl (cellF_10 _ (by decide)) tyX10 tyX10_ok nmX10 9 (by decide) mk_X10_readsClause_119 rfl rfl (by decide +kernel) rfl rfl (Nat.le_of_ble_eq_true rfl) ((cellF_10 _ (by decide)).trans rfl) dX10_readsClause_140 ?_
      rw [up1_up1]
      rw [show ((up1 (up1 M 83 (clS (M 83) ((M 78 9)) (sgn (M 82) (M 78 5) (M 78 6)) (dgs ((M 82)) ((M 78 5)) 5 (((M 78 6) + 1))) (dgV ((M 82)) (((M 78 6) + 1))))) 78 (up (up (up (M 78) 6 ((M 78 6) + 1)) 6 (((M 78 6) + 1) + (dgs ((M 82)) ((M 78 5)) 5 (((M 78 6) + 1))))) 9 ((M 78 9) + 1))) : Mem) = (up1 (up1 M 83 (clS (M 83) (M 78 9) (sgn (M 82) (M 78 5) (M 78 6)) (clR (M 82) (M 78 5) (M 78 6)).2.2 (clV (M 82) (M 78 5) (M 78 6)))) 78 (up (up (M 78) 6 (clR (M 82) (M 78 5) (M 78 6)).2.1) 9 (M 78 9 + 1))) from (by rw [up_up, hq9, he9])]
      exact v_vret ok rt dX10_readsClause_143 (Or.inl (⟨rfl, rfl, (by first | (rw [hC9]; done) | (rw [hC9]; exact hok9))⟩))
    · skip
      have h12 : (dgs ((M 82)) ((M 78 5)) 5 (((M 78 6) + 1))) < 1 := h12
      show V z g 3 (up1 (up1 (up1 (up1 M 83 (clS (M 83) (M 78 9) (sgn (M 82) (M 78 5) (M 78 6)) 0 (dgV (M 82) (M 78 6 + 1)))) 78 (up (M 78) 6 ((M 78 6) + 1))) 83 G11) 78 (up (up (up (M 78) 6 ((M 78 6) + 1)) 6 (((M 78 6) + 1) + (dgs ((M 82)) ((M 78 5)) 5 (((M 78 6) + 1))))) 7 (((M 78 6) + 1) + (dgs ((M 82)) ((M 78 5)) 5 (((M 78 6) + 1)))))) [(2, iv (14 * (M 78 9))), (1, iv 98), (0, rf g 78)] [] 98
      rw [show ((up1 (up1 (up1 (up1 M 83 (clS (M 83) (M 78 9) (sgn (M 82) (M 78 5) (M 78 6)) 0 (dgV (M 82) (M 78 6 + 1)))) 78 (up (M 78) 6 ((M 78 6) + 1))) 83 G11) 78 (up (up (up (M 78) 6 ((M 78 6) + 1)) 6 (((M 78 6) + 1) + (dgs ((M 82)) ((M 78 5)) 5 (((M 78 6) + 1))))) 7 (((M 78 6) + 1) + (dgs ((M 82)) ((M 78 5)) 5 (((M 78 6) + 1)))))) : Mem) = (up1 (up1 M 83 G11) 78 (up (up (up (M 78) 6 ((M 78 6) + 1)) 6 (((M 78 6) + 1) + (dgs ((M 82)) ((M 78 5)) 5 (((M 78 6) + 1))))) 7 (((M 78 6) + 1) + (dgs ((M 82)) ((M 78 5)) 5 (((M 78 6) + 1)))))) from (by
            funext j
            by_cases hj0 : j = 83
            · subst hj0; simp [up1, up1_self]
            by_cases hj1 : j = 78
            · subst hj1; simp [up1, up1_self]
            simp [up1, hj0, hj1])]
      have hok9 := h12
      have hC9 : (clR (M 82) (M 78 5) (M 78 6)) = (0, M 78 6 + 1 + dgs (M 82) (M 78 5) 5 (M 78 6 + 1), dgs (M 82) (M 78 5) 5 (M 78 6 + 1)) := by unfold clR; rw [if_pos hs9, if_neg (by omega)]
      have he9 : M 78 6 + 1 + dgs (M 82) (M 78 5) 5 (M 78 6 + 1) = (clR (M 82) (M 78 5) (M 78 6)).2.1 := by rw [hC9]
      refine v_goto (tgt := 133) ok dX10_readsClause_98 (by decide) ?_
      refine v_aload_n ok 2 dX10_readsClause_133 rfl rfl ?_
      refine v_dup ok rfl dX10_readsClause_134 ?_
      refine v_get (T := TX10) (N := 22) (f0 := (up (up (up (M 78) 6 ((M 78 6) + 1)) 6 (((M 78 6) + 1) + (dgs ((M 82)) ((M 78 5)) 5 (((M 78 6) + 1))))) 7 (((M 78 6) + 1) + (dgs ((M 82)) ((M 78 5)) 5 (((M 78 6) + 1)))))) (v := iv (M 78 9)) ok mi_X10_readsClause_10 (kd_lt (show kd 78 = 10 from rfl) (by decide)) rfl rfl (cellF_10 _ (by decide)) 9 (by decide) mk_X10_readsClause_119 rfl rfl dX10_readsClause_135 ?_
      refine v_iconst (n := 1) ok dX10_readsClause_138 ?_
      refine v_iadd ok dX10_readsClause_139 ?_
      refine v_put (T := TX10) (N := 22) (f0 := (up (up (up (M 78) 6 ((M 78 6) + 1)) 6 (((M 78 6) + 1) + (dgs ((M 82)) ((M 78 5)) 5 (((M 78 6) + 1))))) 7 (((M 78 6) + 1) + (dgs ((M 82)) ((M 78 5)) 5 (((M 78 6) + 1)))))) (f' := up (up (up (up (M 78) 6 ((M 78 6) + 1)) 6 (((M 78 6) + 1) + (dgs ((M 82)) ((M 78 5)) 5 (((M 78 6) + 1))))) 7 (((M 78 6) + 1) + (dgs ((M 82)) ((M 78 5)) 5 (((M 78 6) + 1))))) 9 ((M 78 9) + 1)) (ty := .int) ok mi_X10_readsClause_10 (kd_lt (show kd 78 = 10 from rfl) (by decide)) rfl rfl (cellF_10 _ (by decide)) tyX10 tyX10_ok nmX10 9 (by decide) mk_X10_readsClause_119 rfl rfl (by decide +kernel) rfl rfl (Nat.le_of_ble_eq_true rfl) ((cellF_10 _ (by decide)).trans rfl) dX10_readsClause_140 ?_
      rw [up1_up1]
      rw [show ((up1 (up1 M 83 G11) 78 (up (up (up (up (M 78) 6 ((M 78 6) + 1)) 6 (((M 78 6) + 1) + (dgs ((M 82)) ((M 78 5)) 5 (((M 78 6) + 1))))) 7 (((M 78 6) + 1) + (dgs ((M 82)) ((M 78 5)) 5 (((M 78 6) + 1))))) 9 ((M 78 9) + 1))) : Mem) = (up1 (up1 M 83 G11) 78 (up (up (up (M 78) 6 (clR (M 82) (M 78 5) (M 78 6)).2.1) 7 (clR (M 82) (M 78 5) (M 78 6)).2.1) 9 (M 78 9 + 1))) from (by rw [up_up, he9])]
      exact v_vret ok rt dX10_readsClause_143 (Or.inr (⟨G11, (M 78 9 + 1), rfl, rfl, (by first | (rw [hC9]; done) | (rw [hC9]; exact hok9)), (by omega)⟩))
  · skip
    refine v_iload_n ok 1 dX10_readsClause_35 rfl rfl ?_
    refine v_bipush (n := 119) ok rfl dX10_readsClause_36 ?_
    refine v_icmp_eq (tgt := 76) ok ⟨by omega, by omega⟩ (by decide) dX10_readsClause_38 (by decide) (fun c13 => ?_) (fun c13 => ?_)
    · skip
      rw [show ((sgn (M 82) (M 78 5) (M 78 6)) : Int) = 119 from c13]
      have hs9 : (sgn (M 82) (M 78 5) (M 78 6)) = 119 := c13
      have hl9 := sgn_lt (T := M 82) (L := M 78 5) (p := M 78 6) (by omega)
      refine v_aload_n ok 2 dX10_readsClause_76 rfl rfl ?_
      refine v_dup ok rfl dX10_readsClause_77 ?_
      refine v_get (T := TX10) (N := 22) (f0 := (M 78)) (v := iv (M 78 6)) ok mi_X10_readsClause_10 (kd_lt (show kd 78 = 10 from rfl) (by decide)) rfl rfl (cellF_10 _ (by decide)) 6 (by decide) mk_X10_readsClause_101 rfl rfl dX10_readsClause_78 ?_
      refine v_iconst (n := 1) ok dX10_readsClause_81 ?_
      refine v_iadd ok dX10_readsClause_82 ?_
      refine v_put (T := TX10) (N := 22) (f0 := (M 78)) (f' := up (M 78) 6 ((M 78 6) + 1)) (ty := .int) ok mi_X10_readsClause_10 (kd_lt (show kd 78 = 10 from rfl) (by decide)) rfl rfl (cellF_10 _ (by decide)) tyX10 tyX10_ok nmX10 6 (by decide) mk_X10_readsClause_101 rfl rfl (by decide +kernel) rfl rfl (Nat.le_of_ble_eq_true rfl) ((cellF_10 _ (by decide)).trans rfl) dX10_readsClause_83 ?_
      refine v_iload_n ok 1 dX10_readsClause_86 rfl rfl ?_
      refine v_bipush (n := 98) ok rfl dX10_readsClause_87 ?_
      refine v_icmp_ne (tgt := 101) ok (by decide) (by decide) dX10_readsClause_89 (by decide) (fun c14 => ?_) (fun c14 => absurd c14 (by decide))
      refine v_iload_n ok 1 dX10_readsClause_101 rfl rfl ?_
      refine v_bipush (n := 107) ok rfl dX10_readsClause_102 ?_
      refine v_icmp_ne (tgt := 116) ok (by decide) (by decide) dX10_readsClause_104 (by decide) (fun c15 => ?_) (fun c15 => absurd c15 (by decide))
      refine v_aload_n ok 2 dX10_readsClause_116 rfl rfl ?_
      refine v_iload_n ok 1 dX10_readsClause_117 rfl rfl ?_
      refine v_bipush (n := 119) ok rfl dX10_readsClause_118 ?_
      refine v_icmp_ne (tgt := 128) ok (by decide) (by decide) dX10_readsClause_120 (by decide) (fun c16 => absurd c16 (by decide)) (fun c16 => ?_)
      refine v_bipush (n := 8) ok rfl dX10_readsClause_123 ?_
      refine v_goto (tgt := 130) ok dX10_readsClause_125 (by decide) ?_
      rw [show ((up1 (up1 M 83 (up (up (M 83) (14 * (M 78 9)) 119) ((14 * (M 78 9)) + 1) 0)) 78 (up (M 78) 6 ((M 78 6) + 1))) : Mem) = (up1 (up1 M 83 (clS (M 83) (M 78 9) (sgn (M 82) (M 78 5) (M 78 6)) 0 (nbV (M 82) (M 78 5) (M 78 6 + 1)))) 78 (up (M 78) 6 ((M 78 6) + 1))) from (by rw [clS_0 _ _ _ (nbV (M 82) (M 78 5) (M 78 6 + 1)), hs9])]
      refine v_callV (na := 1) (i := 78) (C := RX10) (T := TX10) (N := 22) (f0 := up (M 78) 6 ((M 78 6) + 1)) ok (ct_X10_readsNumbers_8 z.2.1 g (up1 (up1 M 83 (clS (M 83) (M 78 9) (sgn (M 82) (M 78 5) (M 78 6)) 0 (nbV (M 82) (M 78 5) (M 78 6 + 1)))) 78 (up (M 78) 6 ((M 78 6) + 1))) (M 83) (sgn (M 82) (M 78 5) (M 78 6)) (by show 0 ≤ (M 78 5) ∧ (M 78 5) ≤ 100; first | omega | assumption) (by show 0 ≤ ((M 78 6) + 1) ∧ ((M 78 6) + 1) ≤ (M 78 5); first | omega | assumption) (by show bdf ((M 82)) 100 0 127; first | omega | assumption) (by show (M 78 7) = -1; first | omega | assumption) (by show 0 ≤ (M 78 9) ∧ (M 78 9) ≤ 11; first | omega | assumption) rfl) gX10_readsClause_X10_readsNumbers (kd_lt (show kd 78 = 10 from rfl) (by decide)) rfl rfl (cellF_10 _ (by decide)) rfl (by decide +kernel) rfl (by decide) [] rfl (Nat.le_of_ble_eq_true rfl) dX10_readsClause_130 (fun v18 M19 hp17 => ?_)
      rcases hp17 with ⟨rfl, rfl, h20⟩ | ⟨G21, rfl, rfl, h22⟩
      · skip
        have h20 : (nrd ((M 82)) ((M 78 5)) (((M 78 6) + 1)) 8 0).1 = 1 := h20
        show V z g 3 (up1 (up1 (up1 (up1 M 83 (clS (M 83) (M 78 9) (sgn (M 82) (M 78 5) (M 78 6)) 0 (nbV (M 82) (M 78 5) (M 78 6 + 1)))) 78 (up (M 78) 6 ((M 78 6) + 1))) 83 (clS (M 83) ((M 78 9)) (sgn (M 82) (M 78 5) (M 78 6)) (nrd ((M 82)) ((M 78 5)) (((M 78 6) + 1)) 8 0).2.2 (nbV ((M 82)) ((M 78 5)) (((M 78 6) + 1))))) 78 (up (up (M 78) 6 ((M 78 6) + 1)) 6 (nrd ((M 82)) ((M 78 5)) (((M 78 6) + 1)) 8 0).2.1)) [(2, iv (14 * (M 78 9))), (1, iv 119), (0, rf g 78)] [] 133
        rw [show ((up1 (up1 (up1 (up1 M 83 (clS (M 83) (M 78 9) (sgn (M 82) (M 78 5) (M 78 6)) 0 (nbV (M 82) (M 78 5) (M 78 6 + 1)))) 78 (up (M 78) 6 ((M 78 6) + 1))) 83 (clS (M 83) ((M 78 9)) (sgn (M 82) (M 78 5) (M 78 6)) (nrd ((M 82)) ((M 78 5)) (((M 78 6) + 1)) 8 0).2.2 (nbV ((M 82)) ((M 78 5)) (((M 78 6) + 1))))) 78 (up (up (M 78) 6 ((M 78 6) + 1)) 6 (nrd ((M 82)) ((M 78 5)) (((M 78 6) + 1)) 8 0).2.1)) : Mem) = (up1 (up1 M 83 (clS (M 83) ((M 78 9)) (sgn (M 82) (M 78 5) (M 78 6)) (nrd ((M 82)) ((M 78 5)) (((M 78 6) + 1)) 8 0).2.2 (nbV ((M 82)) ((M 78 5)) (((M 78 6) + 1))))) 78 (up (up (M 78) 6 ((M 78 6) + 1)) 6 (nrd ((M 82)) ((M 78 5)) (((M 78 6) + 1)) 8 0).2.1)) from (by
              funext j
              by_cases hj0 : j = 83
              · subst hj0; simp [up1, up1_self]
              by_cases hj1 : j = 78
              · subst hj1; simp [up1, up1_self]
              simp [up1, hj0, hj1])]
        have hok9 := h20
        have hC9 : (clR (M 82) (M 78 5) (M 78 6)) = nrd (M 82) (M 78 5) (M 78 6 + 1) 8 0 := by unfold clR; rw [if_neg (by omega), if_neg (by omega), if_pos hs9]
        have he9 : (nrd (M 82) (M 78 5) (M 78 6 + 1) 8 0).2.1 = (clR (M 82) (M 78 5) (M 78 6)).2.1 := by rw [hC9]
        have hq9 : (clS (M 83) (M 78 9) (sgn (M 82) (M 78 5) (M 78 6)) (nrd (M 82) (M 78 5) (M 78 6 + 1) 8 0).2.2 (nbV (M 82) (M 78 5) (M 78 6 + 1))) = (clS (M 83) (M 78 9) (sgn (M 82) (M 78 5) (M 78 6)) (clR (M 82) (M 78 5) (M 78 6)).2.2 (clV (M 82) (M 78 5) (M 78 6))) := by rw [hC9]; exact clS_cg (fun j j0 j1 => by unfold clV nbV; rw [if_neg (by omega)])
        refine v_aload_n ok 2 dX10_readsClause_133 rfl rfl ?_
        refine v_dup ok rfl dX10_readsClause_134 ?_
        refine v_get (T := TX10) (N := 22) (f0 := (up (up (M 78) 6 ((M 78 6) + 1)) 6 (nrd ((M 82)) ((M 78 5)) (((M 78 6) + 1)) 8 0).2.1)) (v := iv (M 78 9)) ok mi_X10_readsClause_10 (kd_lt (show kd 78 = 10 from rfl) (by decide)) rfl rfl (cellF_10 _ (by decide)) 9 (by decide) mk_X10_readsClause_119 rfl rfl dX10_readsClause_135 ?_
        refine v_iconst (n := 1) ok dX10_readsClause_138 ?_
        refine v_iadd ok dX10_readsClause_139 ?_
        refine v_put (T := TX10) (N := 22) (f0 := (up (up (M 78) 6 ((M 78 6) + 1)) 6 (nrd ((M 82)) ((M 78 5)) (((M 78 6) + 1)) 8 0).2.1)) (f' := up (up (up (M 78) 6 ((M 78 6) + 1)) 6 (nrd ((M 82)) ((M 78 5)) (((M 78 6) + 1)) 8 0).2.1) 9 ((M 78 9) + 1)) (ty := .int) ok mi_X10_readsClause_10 (kd_lt (show kd 78 = 10 from rfl) (by decide)) rfl rfl (cellF_10 _ (by decide)) tyX10 tyX10_ok nmX10 9 (by decide) mk_X10_readsClause_119 rfl rfl (by decide +kernel) rfl rfl (Nat.le_of_ble_eq_true rfl) ((cellF_10 _ (by decide)).trans rfl) dX10_readsClause_140 ?_
        rw [up1_up1]
        rw [show ((up1 (up1 M 83 (clS (M 83) ((M 78 9)) (sgn (M 82) (M 78 5) (M 78 6)) (nrd ((M 82)) ((M 78 5)) (((M 78 6) + 1)) 8 0).2.2 (nbV ((M 82)) ((M 78 5)) (((M 78 6) + 1))))) 78 (up (up (up (M 78) 6 ((M 78 6) + 1)) 6 (nrd ((M 82)) ((M 78 5)) (((M 78 6) + 1)) 8 0).2.1) 9 ((M 78 9) + 1))) : Mem) = (up1 (up1 M 83 (clS (M 83) (M 78 9) (sgn (M 82) (M 78 5) (M 78 6)) (clR (M 82) (M 78 5) (M 78 6)).2.2 (clV (M 82) (M 78 5) (M 78 6)))) 78 (up (up (M 78) 6 (clR (M 82) (M 78 5) (M 78 6)).2.1) 9 (M 78 9 + 1))) from (by rw [up_up, hq9, he9])]
        exact v_vret ok rt dX10_readsClause_143 (Or.inl (⟨rfl, rfl, (by first | (rw [hC9]; done) | (rw [hC9]; exact hok9))⟩))
      · skip
        have h22 : (nrd ((M 82)) ((M 78 5)) (((M 78 6) + 1)) 8 0).1 = 0 := h22
        show V z g 3 (up1 (up1 (up1 (up1 M 83 (clS (M 83) (M 78 9) (sgn (M 82) (M 78 5) (M 78 6)) 0 (nbV (M 82) (M 78 5) (M 78 6 + 1)))) 78 (up (M 78) 6 ((M 78 6) + 1))) 83 G21) 78 (up (up (up (M 78) 6 ((M 78 6) + 1)) 6 (nrd ((M 82)) ((M 78 5)) (((M 78 6) + 1)) 8 0).2.1) 7 (nrd ((M 82)) ((M 78 5)) (((M 78 6) + 1)) 8 0).2.1)) [(2, iv (14 * (M 78 9))), (1, iv 119), (0, rf g 78)] [] 133
        rw [show ((up1 (up1 (up1 (up1 M 83 (clS (M 83) (M 78 9) (sgn (M 82) (M 78 5) (M 78 6)) 0 (nbV (M 82) (M 78 5) (M 78 6 + 1)))) 78 (up (M 78) 6 ((M 78 6) + 1))) 83 G21) 78 (up (up (up (M 78) 6 ((M 78 6) + 1)) 6 (nrd ((M 82)) ((M 78 5)) (((M 78 6) + 1)) 8 0).2.1) 7 (nrd ((M 82)) ((M 78 5)) (((M 78 6) + 1)) 8 0).2.1)) : Mem) = (up1 (up1 M 83 G21) 78 (up (up (up (M 78) 6 ((M 78 6) + 1)) 6 (nrd ((M 82)) ((M 78 5)) (((M 78 6) + 1)) 8 0).2.1) 7 (nrd ((M 82)) ((M 78 5)) (((M 78 6) + 1)) 8 0).2.1)) from (by
              funext j
              by_cases hj0 : j = 83
              · subst hj0; simp [up1, up1_self]
              by_cases hj1 : j = 78
              · subst hj1; simp [up1, up1_self]
              simp [up1, hj0, hj1])]
        have hok9 := h22
        have hC9 : (clR (M 82) (M 78 5) (M 78 6)) = nrd (M 82) (M 78 5) (M 78 6 + 1) 8 0 := by unfold clR; rw [if_neg (by omega), if_neg (by omega), if_pos hs9]
        have he9 : (nrd (M 82) (M 78 5) (M 78 6 + 1) 8 0).2.1 = (clR (M 82) (M 78 5) (M 78 6)).2.1 := by rw [hC9]
        refine v_aload_n ok 2 dX10_readsClause_133 rfl rfl ?_
        refine v_dup ok rfl dX10_readsClause_134 ?_
        refine v_get (T := TX10) (N := 22) (f0 := (up (up (up (M 78) 6 ((M 78 6) + 1)) 6 (nrd ((M 82)) ((M 78 5)) (((M 78 6) + 1)) 8 0).2.1) 7 (nrd ((M 82)) ((M 78 5)) (((M 78 6) + 1)) 8 0).2.1)) (v := iv (M 78 9)) ok mi_X10_readsClause_10 (kd_lt (show kd 78 = 10 from rfl) (by decide)) rfl rfl (cellF_10 _ (by decide)) 9 (by decide) mk_X10_readsClause_119 rfl rfl dX10_readsClause_135 ?_
        refine v_iconst (n := 1) ok dX10_readsClause_138 ?_
        refine v_iadd ok dX10_readsClause_139 ?_
        refine v_put (T := TX10) (N := 22) (f0 := (up (up (up (M 78) 6 ((M 78 6) + 1)) 6 (nrd ((M 82)) ((M 78 5)) (((M 78 6) + 1)) 8 0).2.1) 7 (nrd ((M 82)) ((M 78 5)) (((M 78 6) + 1)) 8 0).2.1)) (f' := up (up (up (up (M 78) 6 ((M 78 6) + 1)) 6 (nrd ((M 82)) ((M 78 5)) (((M 78 6) + 1)) 8 0).2.1) 7 (nrd ((M 82)) ((M 78 5)) (((M 78 6) + 1)) 8 0).2.1) 9 ((M 78 9) + 1)) (ty := .int) ok mi_X10_readsClause_10 (kd_lt (show kd 78 = 10 from rfl) (by decide)) rfl rfl (cellF_10 _ (by decide)) tyX10 tyX10_ok nmX10 9 (by decide) mk_X10_readsClause_119 rfl rfl (by decide +kernel) rfl rfl (Nat.le_of_ble_eq_true rfl) ((cellF_10 _ (by decide)).trans rfl) dX10_readsClause_140 ?_
        rw [up1_up1]
        rw [show ((up1 (up1 M 83 G21) 78 (up (up (up (up (M 78) 6 ((M 78 6) + 1)) 6 (nrd ((M 82)) ((M 78 5)) (((M 78 6) + 1)) 8 0).2.1) 7 (nrd ((M 82)) ((M 78 5)) (((M 78 6) + 1)) 8 0).2.1) 9 ((M 78 9) + 1))) : Mem) = (up1 (up1 M 83 G21) 78 (up (up (up (M 78) 6 (clR (M 82) (M 78 5) (M 78 6)).2.1) 7 (clR (M 82) (M 78 5) (M 78 6)).2.1) 9 (M 78 9 + 1))) from (by rw [up_up, he9])]
        exact v_vret ok rt dX10_readsClause_143 (Or.inr (⟨G21, (M 78 9 + 1), rfl, rfl, (by first | (rw [hC9]; done) | (rw [hC9]; exact hok9)), (by omega)⟩))
    · skip
      refine v_iload_n ok 1 dX10_readsClause_41 rfl rfl ?_
      refine v_bipush (n := 107) ok rfl dX10_readsClause_42 ?_
      refine v_icmp_eq (tgt := 76) ok ⟨by omega, by omega⟩ (by decide) dX10_readsClause_44 (by decide) (fun c23 => ?_) (fun c23 => ?_)
      · skip
        rw [show ((sgn (M 82) (M 78 5) (M 78 6)) : Int) = 107 from c23]
        have hs9 : (sgn (M 82) (M 78 5) (M 78 6)) = 107 := c23
        have hl9 := sgn_lt (T := M 82) (L := M 78 5) (p := M 78 6) (by omega)
        refine v_aload_n ok 2 dX10_readsClause_76 rfl rfl ?_
        refine v_dup ok rfl dX10_readsClause_77 ?_
        refine v_get (T := TX10) (N := 22) (f0 := (M 78)) (v := iv (M 78 6)) ok mi_X10_readsClause_10 (kd_lt (show kd 78 = 10 from rfl) (by decide)) rfl rfl (cellF_10 _ (by decide)) 6 (by decide) mk_X10_readsClause_101 rfl rfl dX10_readsClause_78 ?_
        refine v_iconst (n := 1) ok dX10_readsClause_81 ?_
        refine v_iadd ok dX10_readsClause_82 ?_
        refine v_put (T := TX10) (N := 22) (f0 := (M 78)) (f' := up (M 78) 6 ((M 78 6) + 1)) (ty := .int) ok mi_X10_readsClause_10 (kd_lt (show kd 78 = 10 from rfl) (by decide)) rfl rfl (cellF_10 _ (by decide)) tyX10 tyX10_ok nmX10 6 (by decide) mk_X10_readsClause_101 rfl rfl (by decide +kernel) rfl rfl (Nat.le_of_ble_eq_true rfl) ((cellF_10 _ (by decide)).trans rfl) dX10_readsClause_83 ?_
        refine v_iload_n ok 1 dX10_readsClause_86 rfl rfl ?_
        refine v_bipush (n := 98) ok rfl dX10_readsClause_87 ?_
        refine v_icmp_ne (tgt := 101) ok (by decide) (by decide) dX10_readsClause_89 (by decide) (fun c24 => ?_) (fun c24 => absurd c24 (by decide))
        refine v_iload_n ok 1 dX10_readsClause_101 rfl rfl ?_
        refine v_bipush (n := 107) ok rfl dX10_readsClause_102 ?_
        refine v_icmp_ne (tgt := 116) ok (by decide) (by decide) dX10_readsClause_104 (by decide) (fun c25 => absurd c25 (by decide)) (fun c25 => ?_)
        refine v_aload_n ok 2 dX10_readsClause_107 rfl rfl ?_
        refine v_iconst (n := 3) ok dX10_readsClause_108 ?_
        refine v_iconst (n := 3) ok dX10_readsClause_109 ?_
        rw [show ((up1 (up1 M 83 (up (up (M 83) (14 * (M 78 9)) 107) ((14 * (M 78 9)) + 1) 0)) 78 (up (M 78) 6 ((M 78 6) + 1))) : Mem) = (up1 (up1 M 83 (clS (M 83) (M 78 9) (sgn (M 82) (M 78 5) (M 78 6)) 0 (dgV (M 82) (M 78 6 + 1)))) 78 (up (M 78) 6 ((M 78 6) + 1))) from (by rw [clS_0 _ _ _ (dgV (M 82) (M 78 6 + 1)), hs9])]
        refine v_callV (na := 2) (i := 78) (C := RX10) (T := TX10) (N := 22) (f0 := up (M 78) 6 ((M 78 6) + 1)) ok (ct_X10_readsDigits_3_3 z.2.1 g (up1 (up1 M 83 (clS (M 83) (M 78 9) (sgn (M 82) (M 78 5) (M 78 6)) 0 (dgV (M 82) (M 78 6 + 1)))) 78 (up (M 78) 6 ((M 78 6) + 1))) (M 83) (sgn (M 82) (M 78 5) (M 78 6)) (by show 0 ≤ (M 78 5) ∧ (M 78 5) ≤ 100; first | omega | assumption) (by show 0 ≤ ((M 78 6) + 1) ∧ ((M 78 6) + 1) ≤ (M 78 5); first | omega | assumption) (by show bdf ((M 82)) 100 0 127; first | omega | assumption) (by show (M 78 7) = -1; first | omega | assumption) (by show 0 ≤ (M 78 9) ∧ (M 78 9) ≤ 11; first | omega | assumption) rfl) gX10_readsClause_X10_readsDigits (kd_lt (show kd 78 = 10 from rfl) (by decide)) rfl rfl (cellF_10 _ (by decide)) rfl (by decide +kernel) rfl (by decide) [] rfl (Nat.le_of_ble_eq_true rfl) dX10_readsClause_110 (fun v27 M28 hp26 => ?_)
        rcases hp26 with ⟨rfl, rfl, h29⟩ | ⟨G30, rfl, rfl, h31⟩
        · skip
          have h29 : 3 ≤ (dgs ((M 82)) ((M 78 5)) 3 (((M 78 6) + 1))) := h29
          show V z g 3 (up1 (up1 (up1 (up1 M 83 (clS (M 83) (M 78 9) (sgn (M 82) (M 78 5) (M 78 6)) 0 (dgV (M 82) (M 78 6 + 1)))) 78 (up (M 78) 6 ((M 78 6) + 1))) 83 (clS (M 83) ((M 78 9)) (sgn (M 82) (M 78 5) (M 78 6)) (dgs ((M 82)) ((M 78 5)) 3 (((M 78 6) + 1))) (dgV ((M 82)) (((M 78 6) + 1))))) 78 (up (up (M 78) 6 ((M 78 6) + 1)) 6 (((M 78 6) + 1) + (dgs ((M 82)) ((M 78 5)) 3 (((M 78 6) + 1)))))) [(2, iv (14 * (M 78 9))), (1, iv 107), (0, rf g 78)] [] 113
          rw [show ((up1 (up1 (up1 (up1 M 83 (clS (M 83) (M 78 9) (sgn (M 82) (M 78 5) (M 78 6)) 0 (dgV (M 82) (M 78 6 + 1)))) 78 (up (M 78) 6 ((M 78 6) + 1))) 83 (clS (M 83) ((M 78 9)) (sgn (M 82) (M 78 5) (M 78 6)) (dgs ((M 82)) ((M 78 5)) 3 (((M 78 6) + 1))) (dgV ((M 82)) (((M 78 6) + 1))))) 78 (up (up (M 78) 6 ((M 78 6) + 1)) 6 (((M 78 6) + 1) + (dgs ((M 82)) ((M 78 5)) 3 (((M 78 6) + 1)))))) : Mem) = (up1 (up1 M 83 (clS (M 83) ((M 78 9)) (sgn (M 82) (M 78 5) (M 78 6)) (dgs ((M 82)) ((M 78 5)) 3 (((M 78 6) + 1))) (dgV ((M 82)) (((M 78 6) + 1))))) 78 (up (up (M 78) 6 ((M 78 6) + 1)) 6 (((M 78 6) + 1) + (dgs ((M 82)) ((M 78 5)) 3 (((M 78 6) + 1)))))) from (by
                funext j
                by_cases hj0 : j = 83
                · subst hj0; simp [up1, up1_self]
                by_cases hj1 : j = 78
                · subst hj1; simp [up1, up1_self]
                simp [up1, hj0, hj1])]
          have hok9 := h29
          have hC9 : (clR (M 82) (M 78 5) (M 78 6)) = (1, M 78 6 + 1 + dgs (M 82) (M 78 5) 3 (M 78 6 + 1), dgs (M 82) (M 78 5) 3 (M 78 6 + 1)) := by unfold clR; rw [if_neg (by omega), if_pos hs9, if_pos (by omega)]
          have he9 : M 78 6 + 1 + dgs (M 82) (M 78 5) 3 (M 78 6 + 1) = (clR (M 82) (M 78 5) (M 78 6)).2.1 := by rw [hC9]
          have hq9 : (clS (M 83) (M 78 9) (sgn (M 82) (M 78 5) (M 78 6)) (dgs (M 82) (M 78 5) 3 (M 78 6 + 1)) (dgV (M 82) (M 78 6 + 1))) = (clS (M 83) (M 78 9) (sgn (M 82) (M 78 5) (M 78 6)) (clR (M 82) (M 78 5) (M 78 6)).2.2 (clV (M 82) (M 78 5) (M 78 6))) := by rw [hC9]; exact clS_cg (fun j j0 j1 => by unfold clV dgV; rw [if_pos (Or.inr hs9)])
          refine v_goto (tgt := 133) ok dX10_readsClause_113 (by decide) ?_
          refine v_aload_n ok 2 dX10_readsClause_133 rfl rfl ?_
          refine v_dup ok rfl dX10_readsClause_134 ?_
          refine v_get (T := TX10) (N := 22) (f0 := (up (up (M 78) 6 ((M 78 6) + 1)) 6 (((M 78 6) + 1) + (dgs ((M 82)) ((M 78 5)) 3 (((M 78 6) + 1)))))) (v := iv (M 78 9)) ok mi_X10_readsClause_10 (kd_lt (show kd 78 = 10 from rfl) (by decide)) rfl rfl (cellF_10 _ (by decide)) 9 (by decide) mk_X10_readsClause_119 rfl rfl dX10_readsClause_135 ?_
          refine v_iconst (n := 1) ok dX10_readsClause_138 ?_
          refine v_iadd ok dX10_readsClause_139 ?_
          refine v_put (T := TX10) (N := 22) (f0 := (up (up (M 78) 6 ((M 78 6) + 1)) 6 (((M 78 6) + 1) + (dgs ((M 82)) ((M 78 5)) 3 (((M 78 6) + 1)))))) (f' := up (up (up (M 78) 6 ((M 78 6) + 1)) 6 (((M 78 6) + 1) + (dgs ((M 82)) ((M 78 5)) 3 (((M 78 6) + 1))))) 9 ((M 78 9) + 1)) (ty := .int) ok mi_X10_readsClause_10 (kd_lt (show kd 78 = 10 from rfl) (by decide)) rfl rfl (cellF_10 _ (by decide)) tyX10 tyX10_ok nmX10 9 (by decide) mk_X10_readsClause_119 rfl rfl (by decide +kernel) rfl rfl (Nat.le_of_ble_eq_true rfl) ((cellF_10 _ (by decide)).trans rfl) dX10_readsClause_140 ?_
          rw [up1_up1]
          rw [show ((up1 (up1 M 83 (clS (M 83) ((M 78 9)) (sgn (M 82) (M 78 5) (M 78 6)) (dgs ((M 82)) ((M 78 5)) 3 (((M 78 6) + 1))) (dgV ((M 82)) (((M 78 6) + 1))))) 78 (up (up (up (M 78) 6 ((M 78 6) + 1)) 6 (((M 78 6) + 1) + (dgs ((M 82)) ((M 78 5)) 3 (((M 78 6) + 1))))) 9 ((M 78 9) + 1))) : Mem) = (up1 (up1 M 83 (clS (M 83) (M 78 9) (sgn (M 82) (M 78 5) (M 78 6)) (clR (M 82) (M 78 5) (M 78 6)).2.2 (clV (M 82) (M 78 5) (M 78 6)))) 78 (up (up (M 78) 6 (clR (M 82) (M 78 5) (M 78 6)).2.1) 9 (M 78 9 + 1))) from (by rw [up_up, hq9, he9])]
          exact v_vret ok rt dX10_readsClause_143 (Or.inl (⟨rfl, rfl, (by first | (rw [hC9]; done) | (rw [hC9]; exact hok9))⟩))
        · skip
          have h31 : (dgs ((M 82)) ((M 78 5)) 3 (((M 78 6) + 1))) < 3 := h31
          show V z g 3 (up1 (up1 (up1 (up1 M 83 (clS (M 83) (M 78 9) (sgn (M 82) (M 78 5) (M 78 6)) 0 (dgV (M 82) (M 78 6 + 1)))) 78 (up (M 78) 6 ((M 78 6) + 1))) 83 G30) 78 (up (up (up (M 78) 6 ((M 78 6) + 1)) 6 (((M 78 6) + 1) + (dgs ((M 82)) ((M 78 5)) 3 (((M 78 6) + 1))))) 7 (((M 78 6) + 1) + (dgs ((M 82)) ((M 78 5)) 3 (((M 78 6) + 1)))))) [(2, iv (14 * (M 78 9))), (1, iv 107), (0, rf g 78)] [] 113
          rw [show ((up1 (up1 (up1 (up1 M 83 (clS (M 83) (M 78 9) (sgn (M 82) (M 78 5) (M 78 6)) 0 (dgV (M 82) (M 78 6 + 1)))) 78 (up (M 78) 6 ((M 78 6) + 1))) 83 G30) 78 (up (up (up (M 78) 6 ((M 78 6) + 1)) 6 (((M 78 6) + 1) + (dgs ((M 82)) ((M 78 5)) 3 (((M 78 6) + 1))))) 7 (((M 78 6) + 1) + (dgs ((M 82)) ((M 78 5)) 3 (((M 78 6) + 1)))))) : Mem) = (up1 (up1 M 83 G30) 78 (up (up (up (M 78) 6 ((M 78 6) + 1)) 6 (((M 78 6) + 1) + (dgs ((M 82)) ((M 78 5)) 3 (((M 78 6) + 1))))) 7 (((M 78 6) + 1) + (dgs ((M 82)) ((M 78 5)) 3 (((M 78 6) + 1)))))) from (by
                funext j
                by_cases hj0 : j = 83
                · subst hj0; simp [up1, up1_self]
                by_cases hj1 : j = 78
                · subst hj1; simp [up1, up1_self]
                simp [up1, hj0, hj1])]
          have hok9 := h31
          have hC9 : (clR (M 82) (M 78 5) (M 78 6)) = (0, M 78 6 + 1 + dgs (M 82) (M 78 5) 3 (M 78 6 + 1), dgs (M 82) (M 78 5) 3 (M 78 6 + 1)) := by unfold clR; rw [if_neg (by omega), if_pos hs9, if_neg (by omega)]
          have he9 : M 78 6 + 1 + dgs (M 82) (M 78 5) 3 (M 78 6 + 1) = (clR (M 82) (M 78 5) (M 78 6)).2.1 := by rw [hC9]
          refine v_goto (tgt := 133) ok dX10_readsClause_113 (by decide) ?_
          refine v_aload_n ok 2 dX10_readsClause_133 rfl rfl ?_
          refine v_dup ok rfl dX10_readsClause_134 ?_
          refine v_get (T := TX10) (N := 22) (f0 := (up (up (up (M 78) 6 ((M 78 6) + 1)) 6 (((M 78 6) + 1) + (dgs ((M 82)) ((M 78 5)) 3 (((M 78 6) + 1))))) 7 (((M 78 6) + 1) + (dgs ((M 82)) ((M 78 5)) 3 (((M 78 6) + 1)))))) (v := iv (M 78 9)) ok mi_X10_readsClause_10 (kd_lt (show kd 78 = 10 from rfl) (by decide)) rfl rfl (cellF_10 _ (by decide)) 9 (by decide) mk_X10_readsClause_119 rfl rfl dX10_readsClause_135 ?_
          refine v_iconst (n := 1) ok dX10_readsClause_138 ?_
          refine v_iadd ok dX10_readsClause_139 ?_
          refine v_put (T := TX10) (N := 22) (f0 := (up (up (up (M 78) 6 ((M 78 6) + 1)) 6 (((M 78 6) + 1) + (dgs ((M 82)) ((M 78 5)) 3 (((M 78 6) + 1))))) 7 (((M 78 6) + 1) + (dgs ((M 82)) ((M 78 5)) 3 (((M 78 6) + 1)))))) (f' := up (up (up (up (M 78) 6 ((M 78 6) + 1)) 6 (((M 78 6) + 1) + (dgs ((M 82)) ((M 78 5)) 3 (((M 78 6) + 1))))) 7 (((M 78 6) + 1) + (dgs ((M 82)) ((M 78 5)) 3 (((M 78 6) + 1))))) 9 ((M 78 9) + 1)) (ty := .int) ok mi_X10_readsClause_10 (kd_lt (show kd 78 = 10 from rfl) (by decide)) rfl rfl (cellF_10 _ (by decide)) tyX10 tyX10_ok nmX10 9 (by decide) mk_X10_readsClause_119 rfl rfl (by decide +kernel) rfl rfl (Nat.le_of_ble_eq_true rfl) ((cellF_10 _ (by decide)).trans rfl) dX10_readsClause_140 ?_
          rw [up1_up1]
          rw [show ((up1 (up1 M 83 G30) 78 (up (up (up (up (M 78) 6 ((M 78 6) + 1)) 6 (((M 78 6) + 1) + (dgs ((M 82)) ((M 78 5)) 3 (((M 78 6) + 1))))) 7 (((M 78 6) + 1) + (dgs ((M 82)) ((M 78 5)) 3 (((M 78 6) + 1))))) 9 ((M 78 9) + 1))) : Mem) = (up1 (up1 M 83 G30) 78 (up (up (up (M 78) 6 (clR (M 82) (M 78 5) (M 78 6)).2.1) 7 (clR (M 82) (M 78 5) (M 78 6)).2.1) 9 (M 78 9 + 1))) from (by rw [up_up, he9])]
          exact v_vret ok rt dX10_readsClause_143 (Or.inr (⟨G30, (M 78 9 + 1), rfl, rfl, (by first | (rw [hC9]; done) | (rw [hC9]; exact hok9)), (by omega)⟩))
      · skip
        refine v_iload_n ok 1 dX10_readsClause_47 rfl rfl ?_
        refine v_bipush (n := 116) ok rfl dX10_readsClause_48 ?_
        refine v_icmp_eq (tgt := 76) ok ⟨by omega, by omega⟩ (by decide) dX10_readsClause_50 (by decide) (fun c32 => ?_) (fun c32 => ?_)
        · skip
          rw [show ((sgn (M 82) (M 78 5) (M 78 6)) : Int) = 116 from c32]
          have hs9 : (sgn (M 82) (M 78 5) (M 78 6)) = 116 := c32
          have hl9 := sgn_lt (T := M 82) (L := M 78 5) (p := M 78 6) (by omega)
          refine v_aload_n ok 2 dX10_readsClause_76 rfl rfl ?_
          refine v_dup ok rfl dX10_readsClause_77 ?_
          refine v_get (T := TX10) (N := 22) (f0 := (M 78)) (v := iv (M 78 6)) ok mi_X10_readsClause_10 (kd_lt (show kd 78 = 10 from rfl) (by decide)) rfl rfl (cellF_10 _ (by decide)) 6 (by decide) mk_X10_readsClause_101 rfl rfl dX10_readsClause_78 ?_
          refine v_iconst (n := 1) ok dX10_readsClause_81 ?_
          refine v_iadd ok dX10_readsClause_82 ?_
          refine v_put (T := TX10) (N := 22) (f0 := (M 78)) (f' := up (M 78) 6 ((M 78 6) + 1)) (ty := .int) ok mi_X10_readsClause_10 (kd_lt (show kd 78 = 10 from rfl) (by decide)) rfl rfl (cellF_10 _ (by decide)) tyX10 tyX10_ok nmX10 6 (by decide) mk_X10_readsClause_101 rfl rfl (by decide +kernel) rfl rfl (Nat.le_of_ble_eq_true rfl) ((cellF_10 _ (by decide)).trans rfl) dX10_readsClause_83 ?_
          refine v_iload_n ok 1 dX10_readsClause_86 rfl rfl ?_
          refine v_bipush (n := 98) ok rfl dX10_readsClause_87 ?_
          refine v_icmp_ne (tgt := 101) ok (by decide) (by decide) dX10_readsClause_89 (by decide) (fun c33 => ?_) (fun c33 => absurd c33 (by decide))
          refine v_iload_n ok 1 dX10_readsClause_101 rfl rfl ?_
          refine v_bipush (n := 107) ok rfl dX10_readsClause_102 ?_
          refine v_icmp_ne (tgt := 116) ok (by decide) (by decide) dX10_readsClause_104 (by decide) (fun c34 => ?_) (fun c34 => absurd c34 (by decide))
          refine v_aload_n ok 2 dX10_readsClause_116 rfl rfl ?_
          refine v_iload_n ok 1 dX10_readsClause_117 rfl rfl ?_
          refine v_bipush (n := 119) ok rfl dX10_readsClause_118 ?_
          refine v_icmp_ne (tgt := 128) ok (by decide) (by decide) dX10_readsClause_120 (by decide) (fun c35 => ?_) (fun c35 => absurd c35 (by decide))
          refine v_bipush (n := 12) ok rfl dX10_readsClause_128 ?_
          rw [show ((up1 (up1 M 83 (up (up (M 83) (14 * (M 78 9)) 116) ((14 * (M 78 9)) + 1) 0)) 78 (up (M 78) 6 ((M 78 6) + 1))) : Mem) = (up1 (up1 M 83 (clS (M 83) (M 78 9) (sgn (M 82) (M 78 5) (M 78 6)) 0 (nbV (M 82) (M 78 5) (M 78 6 + 1)))) 78 (up (M 78) 6 ((M 78 6) + 1))) from (by rw [clS_0 _ _ _ (nbV (M 82) (M 78 5) (M 78 6 + 1)), hs9])]
          refine v_callV (na := 1) (i := 78) (C := RX10) (T := TX10) (N := 22) (f0 := up (M 78) 6 ((M 78 6) + 1)) ok (ct_X10_readsNumbers_12 z.2.1 g (up1 (up1 M 83 (clS (M 83) (M 78 9) (sgn (M 82) (M 78 5) (M 78 6)) 0 (nbV (M 82) (M 78 5) (M 78 6 + 1)))) 78 (up (M 78) 6 ((M 78 6) + 1))) (M 83) (sgn (M 82) (M 78 5) (M 78 6)) (by show 0 ≤ (M 78 5) ∧ (M 78 5) ≤ 100; first | omega | assumption) (by show 0 ≤ ((M 78 6) + 1) ∧ ((M 78 6) + 1) ≤ (M 78 5); first | omega | assumption) (by show bdf ((M 82)) 100 0 127; first | omega | assumption) (by show (M 78 7) = -1; first | omega | assumption) (by show 0 ≤ (M 78 9) ∧ (M 78 9) ≤ 11; first | omega | assumption) rfl) gX10_readsClause_X10_readsNumbers (kd_lt (show kd 78 = 10 from rfl) (by decide)) rfl rfl (cellF_10 _ (by decide)) rfl (by decide +kernel) rfl (by decide) [] rfl (Nat.le_of_ble_eq_true rfl) dX10_readsClause_130 (fun v37 M38 hp36 => ?_)
          rcases hp36 with ⟨rfl, rfl, h39⟩ | ⟨G40, rfl, rfl, h41⟩
          · skip
            have h39 : (nrd ((M 82)) ((M 78 5)) (((M 78 6) + 1)) 12 0).1 = 1 := h39
            show V z g 3 (up1 (up1 (up1 (up1 M 83 (clS (M 83) (M 78 9) (sgn (M 82) (M 78 5) (M 78 6)) 0 (nbV (M 82) (M 78 5) (M 78 6 + 1)))) 78 (up (M 78) 6 ((M 78 6) + 1))) 83 (clS (M 83) ((M 78 9)) (sgn (M 82) (M 78 5) (M 78 6)) (nrd ((M 82)) ((M 78 5)) (((M 78 6) + 1)) 12 0).2.2 (nbV ((M 82)) ((M 78 5)) (((M 78 6) + 1))))) 78 (up (up (M 78) 6 ((M 78 6) + 1)) 6 (nrd ((M 82)) ((M 78 5)) (((M 78 6) + 1)) 12 0).2.1)) [(2, iv (14 * (M 78 9))), (1, iv 116), (0, rf g 78)] [] 133
            rw [show ((up1 (up1 (up1 (up1 M 83 (clS (M 83) (M 78 9) (sgn (M 82) (M 78 5) (M 78 6)) 0 (nbV (M 82) (M 78 5) (M 78 6 + 1)))) 78 (up (M 78) 6 ((M 78 6) + 1))) 83 (clS (M 83) ((M 78 9)) (sgn (M 82) (M 78 5) (M 78 6)) (nrd ((M 82)) ((M 78 5)) (((M 78 6) + 1)) 12 0).2.2 (nbV ((M 82)) ((M 78 5)) (((M 78 6) + 1))))) 78 (up (up (M 78) 6 ((M 78 6) + 1)) 6 (nrd ((M 82)) ((M 78 5)) (((M 78 6) + 1)) 12 0).2.1)) : Mem) = (up1 (up1 M 83 (clS (M 83) ((M 78 9)) (sgn (M 82) (M 78 5) (M 78 6)) (nrd ((M 82)) ((M 78 5)) (((M 78 6) + 1)) 12 0).2.2 (nbV ((M 82)) ((M 78 5)) (((M 78 6) + 1))))) 78 (up (up (M 78) 6 ((M 78 6) + 1)) 6 (nrd ((M 82)) ((M 78 5)) (((M 78 6) + 1)) 12 0).2.1)) from (by
                  funext j
                  by_cases hj0 : j = 83
                  · subst hj0; simp [up1, up1_self]
                  by_cases hj1 : j = 78
                  · subst hj1; simp [up1, up1_self]
                  simp [up1, hj0, hj1])]
            have hok9 := h39
            have hC9 : (clR (M 82) (M 78 5) (M 78 6)) = nrd (M 82) (M 78 5) (M 78 6 + 1) 12 0 := by unfold clR; rw [if_neg (by omega), if_neg (by omega), if_neg (by omega), if_pos hs9]
            have he9 : (nrd (M 82) (M 78 5) (M 78 6 + 1) 12 0).2.1 = (clR (M 82) (M 78 5) (M 78 6)).2.1 := by rw [hC9]
            have hq9 : (clS (M 83) (M 78 9) (sgn (M 82) (M 78 5) (M 78 6)) (nrd (M 82) (M 78 5) (M 78 6 + 1) 12 0).2.2 (nbV (M 82) (M 78 5) (M 78 6 + 1))) = (clS (M 83) (M 78 9) (sgn (M 82) (M 78 5) (M 78 6)) (clR (M 82) (M 78 5) (M 78 6)).2.2 (clV (M 82) (M 78 5) (M 78 6))) := by rw [hC9]; exact clS_cg (fun j j0 j1 => by unfold clV nbV; rw [if_neg (by omega)])
            refine v_aload_n ok 2 dX10_readsClause_133 rfl rfl ?_
            refine v_dup ok rfl dX10_readsClause_134 ?_
            refine v_get (T := TX10) (N := 22) (f0 := (up (up (M 78) 6 ((M 78 6) + 1)) 6 (nrd ((M 82)) ((M 78 5)) (((M 78 6) + 1)) 12 0).2.1)) (v := iv (M 78 9)) ok mi_X10_readsClause_10 (kd_lt (show kd 78 = 10 from rfl) (by decide)) rfl rfl (cellF_10 _ (by decide)) 9 (by decide) mk_X10_readsClause_119 rfl rfl dX10_readsClause_135 ?_
            refine v_iconst (n := 1) ok dX10_readsClause_138 ?_
            refine v_iadd ok dX10_readsClause_139 ?_
            refine v_put (T := TX10) (N := 22) (f0 := (up (up (M 78) 6 ((M 78 6) + 1)) 6 (nrd ((M 82)) ((M 78 5)) (((M 78 6) + 1)) 12 0).2.1)) (f' := up (up (up (M 78) 6 ((M 78 6) + 1)) 6 (nrd ((M 82)) ((M 78 5)) (((M 78 6) + 1)) 12 0).2.1) 9 ((M 78 9) + 1)) (ty := .int) ok mi_X10_readsClause_10 (kd_lt (show kd 78 = 10 from rfl) (by decide)) rfl rfl (cellF_10 _ (by decide)) tyX10 tyX10_ok nmX10 9 (by decide) mk_X10_readsClause_119 rfl rfl (by decide +kernel) rfl rfl (Nat.le_of_ble_eq_true rfl) ((cellF_10 _ (by decide)).trans rfl) dX10_readsClause_140 ?_
            rw [up1_up1]
            rw [show ((up1 (up1 M 83 (clS (M 83) ((M 78 9)) (sgn (M 82) (M 78 5) (M 78 6)) (nrd ((M 82)) ((M 78 5)) (((M 78 6) + 1)) 12 0).2.2 (nbV ((M 82)) ((M 78 5)) (((M 78 6) + 1))))) 78 (up (up (up (M 78) 6 ((M 78 6) + 1)) 6 (nrd ((M 82)) ((M 78 5)) (((M 78 6) + 1)) 12 0).2.1) 9 ((M 78 9) + 1))) : Mem) = (up1 (up1 M 83 (clS (M 83) (M 78 9) (sgn (M 82) (M 78 5) (M 78 6)) (clR (M 82) (M 78 5) (M 78 6)).2.2 (clV (M 82) (M 78 5) (M 78 6)))) 78 (up (up (M 78) 6 (clR (M 82) (M 78 5) (M 78 6)).2.1) 9 (M 78 9 + 1))) from (by rw [up_up, hq9, he9])]
            exact v_vret ok rt dX10_readsClause_143 (Or.inl (⟨rfl, rfl, (by first | (rw [hC9]; done) | (rw [hC9]; exact hok9))⟩))
          · skip
            have h41 : (nrd ((M 82)) ((M 78 5)) (((M 78 6) + 1)) 12 0).1 = 0 := h41
            show V z g 3 (up1 (up1 (up1 (up1 M 83 (clS (M 83) (M 78 9) (sgn (M 82) (M 78 5) (M 78 6)) 0 (nbV (M 82) (M 78 5) (M 78 6 + 1)))) 78 (up (M 78) 6 ((M 78 6) + 1))) 83 G40) 78 (up (up (up (M 78) 6 ((M 78 6) + 1)) 6 (nrd ((M 82)) ((M 78 5)) (((M 78 6) + 1)) 12 0).2.1) 7 (nrd ((M 82)) ((M 78 5)) (((M 78 6) + 1)) 12 0).2.1)) [(2, iv (14 * (M 78 9))), (1, iv 116), (0, rf g 78)] [] 133
            rw [show ((up1 (up1 (up1 (up1 M 83 (clS (M 83) (M 78 9) (sgn (M 82) (M 78 5) (M 78 6)) 0 (nbV (M 82) (M 78 5) (M 78 6 + 1)))) 78 (up (M 78) 6 ((M 78 6) + 1))) 83 G40) 78 (up (up (up (M 78) 6 ((M 78 6) + 1)) 6 (nrd ((M 82)) ((M 78 5)) (((M 78 6) + 1)) 12 0).2.1) 7 (nrd ((M 82)) ((M 78 5)) (((M 78 6) + 1)) 12 0).2.1)) : Mem) = (up1 (up1 M 83 G40) 78 (up (up (up (M 78) 6 ((M 78 6) + 1)) 6 (nrd ((M 82)) ((M 78 5)) (((M 78 6) + 1)) 12 0).2.1) 7 (nrd ((M 82)) ((M 78 5)) (((M 78 6) + 1)) 12 0).2.1)) from (by
                  funext j
                  by_cases hj0 : j = 83
                  · subst hj0; simp [up1, up1_self]
                  by_cases hj1 : j = 78
                  · subst hj1; simp [up1, up1_self]
                  simp [up1, hj0, hj1])]
            have hok9 := h41
            have hC9 : (clR (M 82) (M 78 5) (M 78 6)) = nrd (M 82) (M 78 5) (M 78 6 + 1) 12 0 := by unfold clR; rw [if_neg (by omega), if_neg (by omega), if_neg (by omega), if_pos hs9]
            have he9 : (nrd (M 82) (M 78 5) (M 78 6 + 1) 12 0).2.1 = (clR (M 82) (M 78 5) (M 78 6)).2.1 := by rw [hC9]
            refine v_aload_n ok 2 dX10_readsClause_133 rfl rfl ?_
            refine v_dup ok rfl dX10_readsClause_134 ?_
            refine v_get (T := TX10) (N := 22) (f0 := (up (up (up (M 78) 6 ((M 78 6) + 1)) 6 (nrd ((M 82)) ((M 78 5)) (((M 78 6) + 1)) 12 0).2.1) 7 (nrd ((M 82)) ((M 78 5)) (((M 78 6) + 1)) 12 0).2.1)) (v := iv (M 78 9)) ok mi_X10_readsClause_10 (kd_lt (show kd 78 = 10 from rfl) (by decide)) rfl rfl (cellF_10 _ (by decide)) 9 (by decide) mk_X10_readsClause_119 rfl rfl dX10_readsClause_135 ?_
            refine v_iconst (n := 1) ok dX10_readsClause_138 ?_
            refine v_iadd ok dX10_readsClause_139 ?_
            refine v_put (T := TX10) (N := 22) (f0 := (up (up (up (M 78) 6 ((M 78 6) + 1)) 6 (nrd ((M 82)) ((M 78 5)) (((M 78 6) + 1)) 12 0).2.1) 7 (nrd ((M 82)) ((M 78 5)) (((M 78 6) + 1)) 12 0).2.1)) (f' := up (up (up (up (M 78) 6 ((M 78 6) + 1)) 6 (nrd ((M 82)) ((M 78 5)) (((M 78 6) + 1)) 12 0).2.1) 7 (nrd ((M 82)) ((M 78 5)) (((M 78 6) + 1)) 12 0).2.1) 9 ((M 78 9) + 1)) (ty := .int) ok mi_X10_readsClause_10 (kd_lt (show kd 78 = 10 from rfl) (by decide)) rfl rfl (cellF_10 _ (by decide)) tyX10 tyX10_ok nmX10 9 (by decide) mk_X10_readsClause_119 rfl rfl (by decide +kernel) rfl rfl (Nat.le_of_ble_eq_true rfl) ((cellF_10 _ (by decide)).trans rfl) dX10_readsClause_140 ?_
            rw [up1_up1]
            rw [show ((up1 (up1 M 83 G40) 78 (up (up (up (up (M 78) 6 ((M 78 6) + 1)) 6 (nrd ((M 82)) ((M 78 5)) (((M 78 6) + 1)) 12 0).2.1) 7 (nrd ((M 82)) ((M 78 5)) (((M 78 6) + 1)) 12 0).2.1) 9 ((M 78 9) + 1))) : Mem) = (up1 (up1 M 83 G40) 78 (up (up (up (M 78) 6 (clR (M 82) (M 78 5) (M 78 6)).2.1) 7 (clR (M 82) (M 78 5) (M 78 6)).2.1) 9 (M 78 9 + 1))) from (by rw [up_up, he9])]
            exact v_vret ok rt dX10_readsClause_143 (Or.inr (⟨G40, (M 78 9 + 1), rfl, rfl, (by first | (rw [hC9]; done) | (rw [hC9]; exact hok9)), (by omega)⟩))
        · skip
          have hC9 : (clR (M 82) (M 78 5) (M 78 6)) = (0, M 78 6, 0) := by unfold clR; rw [if_neg (by omega), if_neg (by omega), if_neg (by omega), if_neg (by omega)]
          refine v_aload_n ok 2 dX10_readsClause_53 rfl rfl ?_
          refine v_aload_n ok 2 dX10_readsClause_54 rfl rfl ?_
          refine v_get (T := TX10) (N := 22) (f0 := (M 78)) (v := iv (M 78 7)) ok mi_X10_readsClause_10 (kd_lt (show kd 78 = 10 from rfl) (by decide)) rfl rfl (cellF_10 _ (by decide)) 7 (by decide) mk_X10_readsClause_98 rfl rfl dX10_readsClause_55 ?_
          refine v_if_ge (tgt := 68) ok ⟨by omega, by omega⟩ dX10_readsClause_58 (by decide) (fun c42 => absurd c42 (by omega)) (fun c42 => ?_)
          refine v_aload_n ok 2 dX10_readsClause_61 rfl rfl ?_
          refine v_get (T := TX10) (N := 22) (f0 := (M 78)) (v := iv (M 78 6)) ok mi_X10_readsClause_10 (kd_lt (show kd 78 = 10 from rfl) (by decide)) rfl rfl (cellF_10 _ (by decide)) 6 (by decide) mk_X10_readsClause_101 rfl rfl dX10_readsClause_62 ?_
          refine v_goto (tgt := 72) ok dX10_readsClause_65 (by decide) ?_
          refine v_put (T := TX10) (N := 22) (f0 := (M 78)) (f' := up (M 78) 7 (M 78 6)) (ty := .int) ok mi_X10_readsClause_10 (kd_lt (show kd 78 = 10 from rfl) (by decide)) rfl rfl (cellF_10 _ (by decide)) tyX10 tyX10_ok nmX10 7 (by decide) mk_X10_readsClause_98 rfl rfl (by decide +kernel) rfl rfl (Nat.le_of_ble_eq_true rfl) ((cellF_10 _ (by decide)).trans rfl) dX10_readsClause_72 ?_
          rw [show ((up1 (up1 M 83 (up (up (M 83) (14 * (M 78 9)) (sgn (M 82) (M 78 5) (M 78 6))) ((14 * (M 78 9)) + 1) 0)) 78 (up (M 78) 7 (M 78 6))) : Mem) = (up1 (up1 M 83 (up (up (M 83) (14 * (M 78 9)) (sgn (M 82) (M 78 5) (M 78 6))) ((14 * (M 78 9)) + 1) 0)) 78 (up (up (up (M 78) 6 (clR (M 82) (M 78 5) (M 78 6)).2.1) 7 (clR (M 82) (M 78 5) (M 78 6)).2.1) 9 (M 78 9))) from (by rw [hC9]; exact congrArg (fun q => up1 (up1 M 83 _) 78 q) (fl_d _ _).symm)]
          exact v_vret ok rt dX10_readsClause_75 (Or.inr (⟨(up (up (M 83) (14 * (M 78 9)) (sgn (M 82) (M 78 5) (M 78 6))) ((14 * (M 78 9)) + 1) 0), (M 78 9), rfl, rfl, (by rw [hC9]), (by omega)⟩))
