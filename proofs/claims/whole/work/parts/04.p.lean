theorem mk_X10_readsDigits_119 : Cond.fieldLink RX10 119 "StormRunoffModel" "readMany" "I" ∈ wsX10_readsDigits := by decide +kernel
theorem mi_X10_readsDigits_10 : ∀ w ∈ wsX100, w ∈ wsX10_readsDigits := by decide +kernel
theorem mk_X10_readsDigits_24 : Cond.fieldLink RX10 24 "StormRunoffModel" "read" "[I" ∈ wsX10_readsDigits := by decide +kernel
set_option maxRecDepth 100000 in
set_option maxHeartbeats 400000 in
theorem ct_X10_readsDigits_1_5 (l : Launch) (g : Gl) (M : Mem) (R0 : Int → Int) (s0 : Int) (hL : 0 ≤ M 78 5 ∧ M 78 5 ≤ 100) (hp : 0 ≤ M 78 6 ∧ M 78 6 ≤ M 78 5) (hG : bdf (M 82) 100 0 127) (hf0 : M 78 7 = -1) (hm : 0 ≤ M 78 9 ∧ M 78 9 ≤ 11) (hcl : M 83 = clS R0 (M 78 9) s0 0 (dgV (M 82) (M 78 6))) : Ct l g yX10_readsDigits wsX10_readsDigits 3 65 [rf g 78, iv 1, iv 5] M (fun rv M' => (rv = none ∧ M' = (up1 (up1 M 83 (clS R0 (M 78 9) s0 (dgs (M 82) (M 78 5) 5 (M 78 6)) (dgV (M 82) (M 78 6)))) 78 (up (M 78) 6 (M 78 6 + (dgs (M 82) (M 78 5) 5 (M 78 6))))) ∧ (1 ≤ (dgs (M 82) (M 78 5) 5 (M 78 6)))) ∨ (∃ (G : Int → Int), rv = none ∧ M' = (up1 (up1 M 83 G) 78 (up (up (M 78) 6 (M 78 6 + (dgs (M 82) (M 78 5) 5 (M 78 6)))) 7 (M 78 6 + (dgs (M 82) (M 78 5) 5 (M 78 6))))) ∧ ((dgs (M 82) (M 78 5) 5 (M 78 6)) < 1))) := by
  refine Ct.of (cc := cX10_readsDigits) (nL := 4) (ret := none) (by decide) rfl (Nat.le_of_ble_eq_true rfl) (fun z hz ok rt => ?_)
  have ok : Ok z g cX10_readsDigits 4 RX10 wsX10_readsDigits 3 65 := ok
  show V z g 4 M [(0, rf g 78), (1, iv 1), (2, iv 5)] [] 0
  rw [show (M : Mem) = (up1 M 83 (clS R0 (M 78 9) s0 0 (dgV (M 82) (M 78 6)))) from (by rw [← hcl, up1_self])]
  refine v_bipush (n := 14) ok rfl dX10_readsDigits_0 ?_
  refine v_aload_n ok 0 dX10_readsDigits_2 rfl rfl ?_
  refine v_get (T := TX10) (N := 22) (f0 := (M 78)) (v := iv (M 78 9)) ok mi_X10_readsDigits_10 (kd_lt (show kd 78 = 10 from rfl) (by decide)) rfl rfl (cellF_10 _ (by decide)) 9 (by decide) mk_X10_readsDigits_119 rfl rfl dX10_readsDigits_3 ?_
  refine v_imul ok dX10_readsDigits_6 ?_
  refine v_istore_n ok [(3, iv (14 * (M 78 9))), (0, rf g 78), (1, iv 1), (2, iv 5)] dX10_readsDigits_7 rfl (by decide) rfl ?_
  refine v_aload_n ok 1 dX10_readsDigits_8 rfl rfl ?_
  refine v_get (T := TX10) (N := 22) (f0 := (M 78)) (v := rf g 83) ok mi_X10_readsDigits_10 (kd_lt (show kd 78 = 10 from rfl) (by decide)) rfl rfl (cellF_10 _ (by decide)) 8 (by decide) mk_X10_readsDigits_24 rfl rfl dX10_readsDigits_9 ?_
  refine v_iload_n ok 0 dX10_readsDigits_12 rfl rfl ?_
  refine v_iconst (n := 1) ok dX10_readsDigits_13 ?_
  refine v_iadd ok dX10_readsDigits_14 ?_
  refine v_iald (n := 168) (f0 := (clS R0 (M 78 9) s0 0 (dgV (M 82) (M 78 6)))) ok (by decide) rfl (by omega) rfl dX10_readsDigits_15 ?_
  rw [show (((clS R0 (M 78 9) s0 0 (dgV (M 82) (M 78 6))) ((14 * (M 78 9)) + 1)) : Int) = 0 from (clS_1 _ _ _ _ _)]
  refine v_iload_n ok 2 dX10_readsDigits_16 rfl rfl ?_
  refine v_icmp_lt (tgt := 39) ok (by decide) (by decide) dX10_readsDigits_17 (by decide) (fun c1 => ?_) (fun c1 => absurd c1 (by decide))
  refine v_aload_n ok 1 dX10_readsDigits_39 rfl rfl ?_
  refine v_aload_n ok 1 dX10_readsDigits_40 rfl rfl ?_
  refine v_callV (na := 0) (i := 78) (C := RX10) (T := TX10) (N := 22) (f0 := (M 78)) ok (ct_X10_figure z.2.1 g (up1 M 83 (clS R0 (M 78 9) s0 0 (dgV (M 82) (M 78 6))))  (by show 0 ≤ (M 78) 5 ∧ (M 78) 5 ≤ 100; first | omega | assumption) (by show 0 ≤ (M 78) 6 ∧ (M 78) 6 ≤ 100; first | omega | assumption) (by show -1 ≤ (M 78) 7 ∧ (M 78) 7 ≤ 1000; first | omega | assumption) (by show bdf ((M 82)) 100 0 127; first | omega | assumption)) gX10_readsDigits_X10_figure (kd_lt (show kd 78 = 10 from rfl) (by decide)) rfl rfl (cellF_10 _ (by decide)) rfl (by decide +kernel) rfl (by decide) [rf g 78] rfl (Nat.le_of_ble_eq_true rfl) dX10_readsDigits_41 (fun v3 M4 hp2 => ?_)
  rcases hp2 with ⟨rfl, rfl, h5, h6⟩ | ⟨rfl, rfl, h7, h8⟩ | ⟨rfl, rfl, h9⟩
  · skip
    have h5 : (M 78) 7 < 0 := h5
    have h6 : dig ((M 82)) ((M 78) 5) ((M 78) 6) := h6
    show V z g 4 (up1 (up1 M 83 (clS R0 (M 78 9) s0 0 (dgV (M 82) (M 78 6)))) 78 (up ((M 78)) 6 ((M 78) 6 + 1))) [(3, iv (14 * (M 78 9))), (0, rf g 78), (1, iv 1), (2, iv 5)] [iv ((M 82) ((M 78) 6) - 48), rf g 78] 44
    have hl21 := sgn_lt (T := M 82) (L := M 78 5) (p := (M 78 6)) (by omega)
    have hD1 : (dgs (M 82) (M 78 5) 5 (M 78 6)) = 1 + dgs (M 82) (M 78 5) 4 (M 78 6 + 1) := by rw [dg_y (k := 4) (by omega)]
    rw [show ((up1 (up1 M 83 (clS R0 (M 78 9) s0 0 (dgV (M 82) (M 78 6)))) 78 (up ((M 78)) 6 ((M 78) 6 + 1))) : Mem) = (up1 (up1 M 83 (clS R0 (M 78 9) s0 0 (dgV (M 82) (M 78 6)))) 78 (up (M 78) 6 (M 78 6 + 1))) from rfl]
    have hn9 : 0 ≤ clS R0 (M 78 9) s0 0 (dgV (M 82) (M 78 6)) (14 * M 78 9 + 1) ∧ clS R0 (M 78 9) s0 0 (dgV (M 82) (M 78 6)) (14 * M 78 9 + 1) ≤ 11 := by rw [clS_1]; omega
    have hv9 : ((M 82) ((M 78) 6) - 48) = dgV (M 82) (M 78 6) 0 := by unfold dgV; rw [Int.add_zero]
    refine v_callV (na := 1) (i := 78) (C := RX10) (T := TX10) (N := 22) (f0 := (up (M 78) 6 (M 78 6 + 1))) ok (ct_X10_tells z.2.1 g (up1 (up1 M 83 (clS R0 (M 78 9) s0 0 (dgV (M 82) (M 78 6)))) 78 (up (M 78) 6 (M 78 6 + 1))) ((M 82) ((M 78) 6) - 48) (by show 0 ≤ (M 78 9) ∧ (M 78 9) ≤ 11; first | omega | assumption) hn9) gX10_readsDigits_X10_tells (kd_lt (show kd 78 = 10 from rfl) (by decide)) rfl rfl (cellF_10 _ (by decide)) rfl (by decide +kernel) rfl (by decide) [] rfl (Nat.le_of_ble_eq_true rfl) dX10_readsDigits_44 (fun v11 M12 hp10 => ?_)
    obtain ⟨rfl, rfl⟩ := hp10
    show V z g 4 (up1 (up1 (up1 M 83 (clS R0 (M 78 9) s0 0 (dgV (M 82) (M 78 6)))) 78 (up (M 78) 6 (M 78 6 + 1))) 83 (up (up ((clS R0 (M 78 9) s0 0 (dgV (M 82) (M 78 6)))) (14 * (M 78 9) + 2 + (clS R0 (M 78 9) s0 0 (dgV (M 82) (M 78 6))) (14 * (M 78 9) + 1)) ((M 82) ((M 78) 6) - 48)) (14 * (M 78 9) + 1) ((clS R0 (M 78 9) s0 0 (dgV (M 82) (M 78 6))) (14 * (M 78 9) + 1) + 1))) [(3, iv (14 * (M 78 9))), (0, rf g 78), (1, iv 1), (2, iv 5)] [] 47
    rw [show ((up1 (up1 (up1 M 83 (clS R0 (M 78 9) s0 0 (dgV (M 82) (M 78 6)))) 78 (up (M 78) 6 (M 78 6 + 1))) 83 (up (up ((clS R0 (M 78 9) s0 0 (dgV (M 82) (M 78 6)))) (14 * (M 78 9) + 2 + (clS R0 (M 78 9) s0 0 (dgV (M 82) (M 78 6))) (14 * (M 78 9) + 1)) ((M 82) ((M 78) 6) - 48)) (14 * (M 78 9) + 1) ((clS R0 (M 78 9) s0 0 (dgV (M 82) (M 78 6))) (14 * (M 78 9) + 1) + 1))) : Mem) = (up1 (up1 M 83 (up (up ((clS R0 (M 78 9) s0 0 (dgV (M 82) (M 78 6)))) (14 * (M 78 9) + 2 + (clS R0 (M 78 9) s0 0 (dgV (M 82) (M 78 6))) (14 * (M 78 9) + 1)) ((M 82) ((M 78) 6) - 48)) (14 * (M 78 9) + 1) ((clS R0 (M 78 9) s0 0 (dgV (M 82) (M 78 6))) (14 * (M 78 9) + 1) + 1))) 78 (up (M 78) 6 (M 78 6 + 1))) from (by
          funext j
          by_cases hj0 : j = 83
          · subst hj0; simp [up1, up1_self]
          by_cases hj1 : j = 78
          · subst hj1; simp [up1, up1_self]
          simp [up1, hj0, hj1])]
    rw [show ((up1 (up1 M 83 (up (up ((clS R0 (M 78 9) s0 0 (dgV (M 82) (M 78 6)))) (14 * (M 78 9) + 2 + (clS R0 (M 78 9) s0 0 (dgV (M 82) (M 78 6))) (14 * (M 78 9) + 1)) ((M 82) ((M 78) 6) - 48)) (14 * (M 78 9) + 1) ((clS R0 (M 78 9) s0 0 (dgV (M 82) (M 78 6))) (14 * (M 78 9) + 1) + 1))) 78 (up (M 78) 6 (M 78 6 + 1))) : Mem) = (up1 (up1 M 83 (clS R0 (M 78 9) s0 1 (dgV (M 82) (M 78 6)))) 78 (up (M 78) 6 (M 78 6 + 1))) from (by rw [clS_tv _ _ _ _ _ _ (by decide) hv9]; rfl)]
    refine v_goto (tgt := 8) ok dX10_readsDigits_47 (by decide) ?_
    refine v_aload_n ok 1 dX10_readsDigits_8 rfl rfl ?_
    refine v_get (T := TX10) (N := 22) (f0 := (up (M 78) 6 (M 78 6 + 1))) (v := rf g 83) ok mi_X10_readsDigits_10 (kd_lt (show kd 78 = 10 from rfl) (by decide)) rfl rfl (cellF_10 _ (by decide)) 8 (by decide) mk_X10_readsDigits_24 rfl rfl dX10_readsDigits_9 ?_
    refine v_iload_n ok 0 dX10_readsDigits_12 rfl rfl ?_
    refine v_iconst (n := 1) ok dX10_readsDigits_13 ?_
    refine v_iadd ok dX10_readsDigits_14 ?_
    refine v_iald (n := 168) (f0 := (clS R0 (M 78 9) s0 1 (dgV (M 82) (M 78 6)))) ok (by decide) rfl (by omega) rfl dX10_readsDigits_15 ?_
    rw [show (((clS R0 (M 78 9) s0 1 (dgV (M 82) (M 78 6))) ((14 * (M 78 9)) + 1)) : Int) = 1 from (clS_1 _ _ _ _ _)]
    refine v_iload_n ok 2 dX10_readsDigits_16 rfl rfl ?_
    refine v_icmp_lt (tgt := 39) ok (by decide) (by decide) dX10_readsDigits_17 (by decide) (fun c13 => absurd c13 (by decide)) (fun c13 => ?_)
    refine v_aload_n ok 1 dX10_readsDigits_20 rfl rfl ?_
    refine v_callV (na := 0) (i := 78) (C := RX10) (T := TX10) (N := 22) (f0 := (up (M 78) 6 (M 78 6 + 1))) ok (ct_X10_isDigit z.2.1 g (up1 (up1 M 83 (clS R0 (M 78 9) s0 1 (dgV (M 82) (M 78 6)))) 78 (up (M 78) 6 (M 78 6 + 1)))  (by show 0 ≤ (M 78 5) ∧ (M 78 5) ≤ 100; first | omega | assumption) (by show 0 ≤ (M 78 6 + 1) ∧ (M 78 6 + 1) ≤ 100; first | omega | assumption) (by show -1 ≤ (M 78 7) ∧ (M 78 7) ≤ 1000; first | omega | assumption) (by show bdf ((M 82)) 100 0 127; first | omega | assumption)) gX10_readsDigits_X10_isDigit (kd_lt (show kd 78 = 10 from rfl) (by decide)) rfl rfl (cellF_10 _ (by decide)) rfl (by decide +kernel) rfl (by decide) [] rfl (Nat.le_of_ble_eq_true rfl) dX10_readsDigits_21 (fun v15 M16 hp14 => ?_)
    rcases hp14 with ⟨rfl, rfl, h17⟩ | ⟨rfl, rfl, h18⟩
    · skip
      have h17 : (M 78 7) < 0 ∧ dig ((M 82)) ((M 78 5)) ((M 78 6 + 1)) := h17
      show V z g 4 (up1 (up1 M 83 (clS R0 (M 78 9) s0 1 (dgV (M 82) (M 78 6)))) 78 (up (M 78) 6 (M 78 6 + 1))) [(3, iv (14 * (M 78 9))), (0, rf g 78), (1, iv 1), (2, iv 5)] [iv 1] 24
      refine v_if_eq (tgt := 50) ok (by decide) dX10_readsDigits_24 (by decide) (fun c19 => absurd c19 (by decide)) (fun c19 => ?_)
      refine v_aload_n ok 1 dX10_readsDigits_27 rfl rfl ?_
      refine v_get (T := TX10) (N := 22) (f0 := (up (M 78) 6 (M 78 6 + 1))) (v := rf g 83) ok mi_X10_readsDigits_10 (kd_lt (show kd 78 = 10 from rfl) (by decide)) rfl rfl (cellF_10 _ (by decide)) 8 (by decide) mk_X10_readsDigits_24 rfl rfl dX10_readsDigits_28 ?_
      refine v_iload_n ok 0 dX10_readsDigits_31 rfl rfl ?_
      refine v_iconst (n := 1) ok dX10_readsDigits_32 ?_
      refine v_iadd ok dX10_readsDigits_33 ?_
      refine v_iald (n := 168) (f0 := (clS R0 (M 78 9) s0 1 (dgV (M 82) (M 78 6)))) ok (by decide) rfl (by omega) rfl dX10_readsDigits_34 ?_
      rw [show (((clS R0 (M 78 9) s0 1 (dgV (M 82) (M 78 6))) ((14 * (M 78 9)) + 1)) : Int) = 1 from (clS_1 _ _ _ _ _)]
      refine v_iload_n ok 3 dX10_readsDigits_35 rfl rfl ?_
      refine v_icmp_ge (tgt := 50) ok (by decide) (by decide) dX10_readsDigits_36 (by decide) (fun c20 => absurd c20 (by decide)) (fun c20 => ?_)
      refine v_aload_n ok 1 dX10_readsDigits_39 rfl rfl ?_
      refine v_aload_n ok 1 dX10_readsDigits_40 rfl rfl ?_
      refine v_callV (na := 0) (i := 78) (C := RX10) (T := TX10) (N := 22) (f0 := (up (M 78) 6 (M 78 6 + 1))) ok (ct_X10_figure z.2.1 g (up1 (up1 M 83 (clS R0 (M 78 9) s0 1 (dgV (M 82) (M 78 6)))) 78 (up (M 78) 6 (M 78 6 + 1)))  (by show 0 ≤ (M 78 5) ∧ (M 78 5) ≤ 100; first | omega | assumption) (by show 0 ≤ (M 78 6 + 1) ∧ (M 78 6 + 1) ≤ 100; first | omega | assumption) (by show -1 ≤ (M 78 7) ∧ (M 78 7) ≤ 1000; first | omega | assumption) (by show bdf ((M 82)) 100 0 127; first | omega | assumption)) gX10_readsDigits_X10_figure (kd_lt (show kd 78 = 10 from rfl) (by decide)) rfl rfl (cellF_10 _ (by decide)) rfl (by decide +kernel) rfl (by decide) [rf g 78] rfl (Nat.le_of_ble_eq_true rfl) dX10_readsDigits_41 (fun v22 M23 hp21 => ?_)
      rcases hp21 with ⟨rfl, rfl, h24, h25⟩ | ⟨rfl, rfl, h26, h27⟩ | ⟨rfl, rfl, h28⟩
      · skip
        have h24 : (M 78 7) < 0 := h24
        have h25 : dig ((M 82)) ((M 78 5)) ((M 78 6 + 1)) := h25
        show V z g 4 (up1 (up1 (up1 M 83 (clS R0 (M 78 9) s0 1 (dgV (M 82) (M 78 6)))) 78 (up (M 78) 6 (M 78 6 + 1))) 78 (up ((up (M 78) 6 (M 78 6 + 1))) 6 ((M 78 6 + 1) + 1))) [(3, iv (14 * (M 78 9))), (0, rf g 78), (1, iv 1), (2, iv 5)] [iv ((M 82) ((M 78 6 + 1)) - 48), rf g 78] 44
        rw [show ((up1 (up1 (up1 M 83 (clS R0 (M 78 9) s0 1 (dgV (M 82) (M 78 6)))) 78 (up (M 78) 6 (M 78 6 + 1))) 78 (up ((up (M 78) 6 (M 78 6 + 1))) 6 ((M 78 6 + 1) + 1))) : Mem) = (up1 (up1 M 83 (clS R0 (M 78 9) s0 1 (dgV (M 82) (M 78 6)))) 78 (up ((up (M 78) 6 (M 78 6 + 1))) 6 ((M 78 6 + 1) + 1))) from (by
              funext j
              by_cases hj0 : j = 83
              · subst hj0; simp [up1, up1_self]
              by_cases hj1 : j = 78
              · subst hj1; simp [up1, up1_self]
              simp [up1, hj0, hj1])]
        have hl22 := sgn_lt (T := M 82) (L := M 78 5) (p := (M 78 6 + 1)) (by omega)
        have hD2 : (dgs (M 82) (M 78 5) 5 (M 78 6)) = 2 + dgs (M 82) (M 78 5) 3 (M 78 6 + 2) := by rw [hD1, dg_y (k := 3) (by omega), show M 78 6 + 1 + 1 = M 78 6 + 2 by omega]; omega
        rw [show ((up1 (up1 M 83 (clS R0 (M 78 9) s0 1 (dgV (M 82) (M 78 6)))) 78 (up ((up (M 78) 6 (M 78 6 + 1))) 6 ((M 78 6 + 1) + 1))) : Mem) = (up1 (up1 M 83 (clS R0 (M 78 9) s0 1 (dgV (M 82) (M 78 6)))) 78 (up (M 78) 6 (M 78 6 + 2))) from (by rw [up_up, show M 78 6 + 1 + 1 = M 78 6 + 2 by omega])]
        have hn9 : 0 ≤ clS R0 (M 78 9) s0 1 (dgV (M 82) (M 78 6)) (14 * M 78 9 + 1) ∧ clS R0 (M 78 9) s0 1 (dgV (M 82) (M 78 6)) (14 * M 78 9 + 1) ≤ 11 := by rw [clS_1]; omega
        have hv9 : ((M 82) ((M 78 6 + 1)) - 48) = dgV (M 82) (M 78 6) 1 := rfl
        refine v_callV (na := 1) (i := 78) (C := RX10) (T := TX10) (N := 22) (f0 := (up (M 78) 6 (M 78 6 + 2))) ok (ct_X10_tells z.2.1 g (up1 (up1 M 83 (clS R0 (M 78 9) s0 1 (dgV (M 82) (M 78 6)))) 78 (up (M 78) 6 (M 78 6 + 2))) ((M 82) ((M 78 6 + 1)) - 48) (by show 0 ≤ (M 78 9) ∧ (M 78 9) ≤ 11; first | omega | assumption) hn9) gX10_readsDigits_X10_tells (kd_lt (show kd 78 = 10 from rfl) (by decide)) rfl rfl (cellF_10 _ (by decide)) rfl (by decide +kernel) rfl (by decide) [] rfl (Nat.le_of_ble_eq_true rfl) dX10_readsDigits_44 (fun v30 M31 hp29 => ?_)
        obtain ⟨rfl, rfl⟩ := hp29
        show V z g 4 (up1 (up1 (up1 M 83 (clS R0 (M 78 9) s0 1 (dgV (M 82) (M 78 6)))) 78 (up (M 78) 6 (M 78 6 + 2))) 83 (up (up ((clS R0 (M 78 9) s0 1 (dgV (M 82) (M 78 6)))) (14 * (M 78 9) + 2 + (clS R0 (M 78 9) s0 1 (dgV (M 82) (M 78 6))) (14 * (M 78 9) + 1)) ((M 82) ((M 78 6 + 1)) - 48)) (14 * (M 78 9) + 1) ((clS R0 (M 78 9) s0 1 (dgV (M 82) (M 78 6))) (14 * (M 78 9) + 1) + 1))) [(3, iv (14 * (M 78 9))), (0, rf g 78), (1, iv 1), (2, iv 5)] [] 47
        rw [show ((up1 (up1 (up1 M 83 (clS R0 (M 78 9) s0 1 (dgV (M 82) (M 78 6)))) 78 (up (M 78) 6 (M 78 6 + 2))) 83 (up (up ((clS R0 (M 78 9) s0 1 (dgV (M 82) (M 78 6)))) (14 * (M 78 9) + 2 + (clS R0 (M 78 9) s0 1 (dgV (M 82) (M 78 6))) (14 * (M 78 9) + 1)) ((M 82) ((M 78 6 + 1)) - 48)) (14 * (M 78 9) + 1) ((clS R0 (M 78 9) s0 1 (dgV (M 82) (M 78 6))) (14 * (M 78 9) + 1) + 1))) : Mem) = (up1 (up1 M 83 (up (up ((clS R0 (M 78 9) s0 1 (dgV (M 82) (M 78 6)))) (14 * (M 78 9) + 2 + (clS R0 (M 78 9) s0 1 (dgV (M 82) (M 78 6))) (14 * (M 78 9) + 1)) ((M 82) ((M 78 6 + 1)) - 48)) (14 * (M 78 9) + 1) ((clS R0 (M 78 9) s0 1 (dgV (M 82) (M 78 6))) (14 * (M 78 9) + 1) + 1))) 78 (up (M 78) 6 (M 78 6 + 2))) from (by
              funext j
              by_cases hj0 : j = 83
              · subst hj0; simp [up1, up1_self]
              by_cases hj1 : j = 78
              · subst hj1; simp [up1, up1_self]
              simp [up1, hj0, hj1])]
        rw [show ((up1 (up1 M 83 (up (up ((clS R0 (M 78 9) s0 1 (dgV (M 82) (M 78 6)))) (14 * (M 78 9) + 2 + (clS R0 (M 78 9) s0 1 (dgV (M 82) (M 78 6))) (14 * (M 78 9) + 1)) ((M 82) ((M 78 6 + 1)) - 48)) (14 * (M 78 9) + 1) ((clS R0 (M 78 9) s0 1 (dgV (M 82) (M 78 6))) (14 * (M 78 9) + 1) + 1))) 78 (up (M 78) 6 (M 78 6 + 2))) : Mem) = (up1 (up1 M 83 (clS R0 (M 78 9) s0 2 (dgV (M 82) (M 78 6)))) 78 (up (M 78) 6 (M 78 6 + 2))) from (by rw [clS_tv _ _ _ _ _ _ (by decide) hv9]; rfl)]
        refine v_goto (tgt := 8) ok dX10_readsDigits_47 (by decide) ?_
        refine v_aload_n ok 1 dX10_readsDigits_8 rfl rfl ?_
        refine v_get (T := TX10) (N := 22) (f0 := (up (M 78) 6 (M 78 6 + 2))) (v := rf g 83) ok mi_X10_readsDigits_10 (kd_lt (show kd 78 = 10 from rfl) (by decide)) rfl rfl (cellF_10 _ (by decide)) 8 (by decide) mk_X10_readsDigits_24 rfl rfl dX10_readsDigits_9 ?_
        refine v_iload_n ok 0 dX10_readsDigits_12 rfl rfl ?_
        refine v_iconst (n := 1) ok dX10_readsDigits_13 ?_
        refine v_iadd ok dX10_readsDigits_14 ?_
        refine v_iald (n := 168) (f0 := (clS R0 (M 78 9) s0 2 (dgV (M 82) (M 78 6)))) ok (by decide) rfl (by omega) rfl dX10_readsDigits_15 ?_
        rw [show (((clS R0 (M 78 9) s0 2 (dgV (M 82) (M 78 6))) ((14 * (M 78 9)) + 1)) : Int) = 2 from (clS_1 _ _ _ _ _)]
        refine v_iload_n ok 2 dX10_readsDigits_16 rfl rfl ?_
        refine v_icmp_lt (tgt := 39) ok (by decide) (by decide) dX10_readsDigits_17 (by decide) (fun c32 => absurd c32 (by decide)) (fun c32 => ?_)
        refine v_aload_n ok 1 dX10_readsDigits_20 rfl rfl ?_
        refine v_callV (na := 0) (i := 78) (C := RX10) (T := TX10) (N := 22) (f0 := (up (M 78) 6 (M 78 6 + 2))) ok (ct_X10_isDigit z.2.1 g (up1 (up1 M 83 (clS R0 (M 78 9) s0 2 (dgV (M 82) (M 78 6)))) 78 (up (M 78) 6 (M 78 6 + 2)))  (by show 0 ≤ (M 78 5) ∧ (M 78 5) ≤ 100; first | omega | assumption) (by show 0 ≤ (M 78 6 + 2) ∧ (M 78 6 + 2) ≤ 100; first | omega | assumption) (by show -1 ≤ (M 78 7) ∧ (M 78 7) ≤ 1000; first | omega | assumption) (by show bdf ((M 82)) 100 0 127; first | omega | assumption)) gX10_readsDigits_X10_isDigit (kd_lt (show kd 78 = 10 from rfl) (by decide)) rfl rfl (cellF_10 _ (by decide)) rfl (by decide +kernel) rfl (by decide) [] rfl (Nat.le_of_ble_eq_true rfl) dX10_readsDigits_21 (fun v34 M35 hp33 => ?_)
        rcases hp33 with ⟨rfl, rfl, h36⟩ | ⟨rfl, rfl, h37⟩
        · skip
          have h36 : (M 78 7) < 0 ∧ dig ((M 82)) ((M 78 5)) ((M 78 6 + 2)) := h36
          show V z g 4 (up1 (up1 M 83 (clS R0 (M 78 9) s0 2 (dgV (M 82) (M 78 6)))) 78 (up (M 78) 6 (M 78 6 + 2))) [(3, iv (14 * (M 78 9))), (0, rf g 78), (1, iv 1), (2, iv 5)] [iv 1] 24
          refine v_if_eq (tgt := 50) ok (by decide) dX10_readsDigits_24 (by decide) (fun c38 => absurd c38 (by decide)) (fun c38 => ?_)
          refine v_aload_n ok 1 dX10_readsDigits_27 rfl rfl ?_
          refine v_get (T := TX10) (N := 22) (f0 := (up (M 78) 6 (M 78 6 + 2))) (v := rf g 83) ok mi_X10_readsDigits_10 (kd_lt (show kd 78 = 10 from rfl) (by decide)) rfl rfl (cellF_10 _ (by decide)) 8 (by decide) mk_X10_readsDigits_24 rfl rfl dX10_readsDigits_28 ?_
          refine v_iload_n ok 0 dX10_readsDigits_31 rfl rfl ?_
          refine v_iconst (n := 1) ok dX10_readsDigits_32 ?_
          refine v_iadd ok dX10_readsDigits_33 ?_
          refine v_iald (n := 168) (f0 := (clS R0 (M 78 9) s0 2 (dgV (M 82) (M 78 6)))) ok (by decide) rfl (by omega) rfl dX10_readsDigits_34 ?_
          rw [show (((clS R0 (M 78 9) s0 2 (dgV (M 82) (M 78 6))) ((14 * (M 78 9)) + 1)) : Int) = 2 from (clS_1 _ _ _ _ _)]
          refine v_iload_n ok 3 dX10_readsDigits_35 rfl rfl ?_
          refine v_icmp_ge (tgt := 50) ok (by decide) (by decide) dX10_readsDigits_36 (by decide) (fun c39 => absurd c39 (by decide)) (fun c39 => ?_)
          refine v_aload_n ok 1 dX10_readsDigits_39 rfl rfl ?_
          refine v_aload_n ok 1 dX10_readsDigits_40 rfl rfl ?_
          refine v_callV (na := 0) (i := 78) (C := RX10) (T := TX10) (N := 22) (f0 := (up (M 78) 6 (M 78 6 + 2))) ok (ct_X10_figure z.2.1 g (up1 (up1 M 83 (clS R0 (M 78 9) s0 2 (dgV (M 82) (M 78 6)))) 78 (up (M 78) 6 (M 78 6 + 2)))  (by show 0 ≤ (M 78 5) ∧ (M 78 5) ≤ 100; first | omega | assumption) (by show 0 ≤ (M 78 6 + 2) ∧ (M 78 6 + 2) ≤ 100; first | omega | assumption) (by show -1 ≤ (M 78 7) ∧ (M 78 7) ≤ 1000; first | omega | assumption) (by show bdf ((M 82)) 100 0 127; first | omega | assumption)) gX10_readsDigits_X10_figure (kd_lt (show kd 78 = 10 from rfl) (by decide)) rfl rfl (cellF_10 _ (by decide)) rfl (by decide +kernel) rfl (by decide) [rf g 78] rfl (Nat.le_of_ble_eq_true rfl) dX10_readsDigits_41 (fun v41 M42 hp40 => ?_)
          rcases hp40 with ⟨rfl, rfl, h43, h44⟩ | ⟨rfl, rfl, h45, h46⟩ | ⟨rfl, rfl, h47⟩
          · skip
            have h43 : (M 78 7) < 0 := h43
            have h44 : dig ((M 82)) ((M 78 5)) ((M 78 6 + 2)) := h44
            show V z g 4 (up1 (up1 (up1 M 83 (clS R0 (M 78 9) s0 2 (dgV (M 82) (M 78 6)))) 78 (up (M 78) 6 (M 78 6 + 2))) 78 (up ((up (M 78) 6 (M 78 6 + 2))) 6 ((M 78 6 + 2) + 1))) [(3, iv (14 * (M 78 9))), (0, rf g 78), (1, iv 1), (2, iv 5)] [iv ((M 82) ((M 78 6 + 2)) - 48), rf g 78] 44
            rw [show ((up1 (up1 (up1 M 83 (clS R0 (M 78 9) s0 2 (dgV (M 82) (M 78 6)))) 78 (up (M 78) 6 (M 78 6 + 2))) 78 (up ((up (M 78) 6 (M 78 6 + 2))) 6 ((M 78 6 + 2) + 1))) : Mem) = (up1 (up1 M 83 (clS R0 (M 78 9) s0 2 (dgV (M 82) (M 78 6)))) 78 (up ((up (M 78) 6 (M 78 6 + 2))) 6 ((M 78 6 + 2) + 1))) from (by
                  funext j
                  by_cases hj0 : j = 83
                  · subst hj0; simp [up1, up1_self]
                  by_cases hj1 : j = 78
                  · subst hj1; simp [up1, up1_self]
                  simp [up1, hj0, hj1])]
            have hl23 := sgn_lt (T := M 82) (L := M 78 5) (p := (M 78 6 + 2)) (by omega)
            have hD3 : (dgs (M 82) (M 78 5) 5 (M 78 6)) = 3 + dgs (M 82) (M 78 5) 2 (M 78 6 + 3) := by rw [hD2, dg_y (k := 2) (by omega), show M 78 6 + 2 + 1 = M 78 6 + 3 by omega]; omega
            rw [show ((up1 (up1 M 83 (clS R0 (M 78 9) s0 2 (dgV (M 82) (M 78 6)))) 78 (up ((up (M 78) 6 (M 78 6 + 2))) 6 ((M 78 6 + 2) + 1))) : Mem) = (up1 (up1 M 83 (clS R0 (M 78 9) s0 2 (dgV (M 82) (M 78 6)))) 78 (up (M 78) 6 (M 78 6 + 3))) from (by rw [up_up, show M 78 6 + 2 + 1 = M 78 6 + 3 by omega])]
            have hn9 : 0 ≤ clS R0 (M 78 9) s0 2 (dgV (M 82) (M 78 6)) (14 * M 78 9 + 1) ∧ clS R0 (M 78 9) s0 2 (dgV (M 82) (M 78 6)) (14 * M 78 9 + 1) ≤ 11 := by rw [clS_1]; omega
            have hv9 : ((M 82) ((M 78 6 + 2)) - 48) = dgV (M 82) (M 78 6) 2 := rfl
            refine v_callV (na := 1) (i := 78) (C := RX10) (T := TX10) (N := 22) (f0 := (up (M 78) 6 (M 78 6 + 3))) ok (ct_X10_tells z.2.1 g (up1 (up1 M 83 (clS R0 (M 78 9) s0 2 (dgV (M 82) (M 78 6)))) 78 (up (M 78) 6 (M 78 6 + 3))) ((M 82) ((M 78 6 + 2)) - 48) (by show 0 ≤ (M 78 9) ∧ (M 78 9) ≤ 11; first | omega | assumption) hn9) gX10_readsDigits_X10_tells (kd_lt (show kd 78 = 10 from rfl) (by decide)) rfl rfl (cellF_10 _ (by decide)) rfl (by decide +kernel) rfl (by decide) [] rfl (Nat.le_of_ble_eq_true rfl) dX10_readsDigits_44 (fun v49 M50 hp48 => ?_)
            obtain ⟨rfl, rfl⟩ := hp48
            show V z g 4 (up1 (up1 (up1 M 83 (clS R0 (M 78 9) s0 2 (dgV (M 82) (M 78 6)))) 78 (up (M 78) 6 (M 78 6 + 3))) 83 (up (up ((clS R0 (M 78 9) s0 2 (dgV (M 82) (M 78 6)))) (14 * (M 78 9) + 2 + (clS R0 (M 78 9) s0 2 (dgV (M 82) (M 78 6))) (14 * (M 78 9) + 1)) ((M 82) ((M 78 6 + 2)) - 48)) (14 * (M 78 9) + 1) ((clS R0 (M 78 9) s0 2 (dgV (M 82) (M 78 6))) (14 * (M 78 9) + 1) + 1))) [(3, iv (14 * (M 78 9))), (0, rf g 78), (1, iv 1), (2, iv 5)] [] 47
            rw [show ((up1 (up1 (up1 M 83 (clS R0 (M 78 9) s0 2 (dgV (M 82) (M 78 6)))) 78 (up (M 78) 6 (M 78 6 + 3))) 83 (up (up ((clS R0 (M 78 9) s0 2 (dgV (M 82) (M 78 6)))) (14 * (M 78 9) + 2 + (clS R0 (M 78 9) s0 2 (dgV (M 82) (M 78 6))) (14 * (M 78 9) + 1)) ((M 82) ((M 78 6 + 2)) - 48)) (14 * (M 78 9) + 1) ((clS R0 (M 78 9) s0 2 (dgV (M 82) (M 78 6))) (14 * (M 78 9) + 1) + 1))) : Mem) = (up1 (up1 M 83 (up (up ((clS R0 (M 78 9) s0 2 (dgV (M 82) (M 78 6)))) (14 * (M 78 9) + 2 + (clS R0 (M 78 9) s0 2 (dgV (M 82) (M 78 6))) (14 * (M 78 9) + 1)) ((M 82) ((M 78 6 + 2)) - 48)) (14 * (M 78 9) + 1) ((clS R0 (M 78 9) s0 2 (dgV (M 82) (M 78 6))) (14 * (M 78 9) + 1) + 1))) 78 (up (M 78) 6 (M 78 6 + 3))) from (by
                  funext j
                  by_cases hj0 : j = 83
                  · subst hj0; simp [up1, up1_self]
                  by_cases hj1 : j = 78
                  · subst hj1; simp [up1, up1_self]
                  simp [up1, hj0, hj1])]
            rw [show ((up1 (up1 M 83 (up (up ((clS R0 (M 78 9) s0 2 (dgV (M 82) (M 78 6)))) (14 * (M 78 9) + 2 + (clS R0 (M 78 9) s0 2 (dgV (M 82) (M 78 6))) (14 * (M 78 9) + 1)) ((M 82) ((M 78 6 + 2)) - 48)) (14 * (M 78 9) + 1) ((clS R0 (M 78 9) s0 2 (dgV (M 82) (M 78 6))) (14 * (M 78 9) + 1) + 1))) 78 (up (M 78) 6 (M 78 6 + 3))) : Mem) = (up1 (up1 M 83 (clS R0 (M 78 9) s0 3 (dgV (M 82) (M 78 6)))) 78 (up (M 78) 6 (M 78 6 + 3))) from (by rw [clS_tv _ _ _ _ _ _ (by decide) hv9]; rfl)]
            refine v_goto (tgt := 8) ok dX10_readsDigits_47 (by decide) ?_
            refine v_aload_n ok 1 dX10_readsDigits_8 rfl rfl ?_
            refine v_get (T := TX10) (N := 22) (f0 := (up (M 78) 6 (M 78 6 + 3))) (v := rf g 83) ok mi_X10_readsDigits_10 (kd_lt (show kd 78 = 10 from rfl) (by decide)) rfl rfl (cellF_10 _ (by decide)) 8 (by decide) mk_X10_readsDigits_24 rfl rfl dX10_readsDigits_9 ?_
            refine v_iload_n ok 0 dX10_readsDigits_12 rfl rfl ?_
            refine v_iconst (n := 1) ok dX10_readsDigits_13 ?_
            refine v_iadd ok dX10_readsDigits_14 ?_
            refine v_iald (n := 168) (f0 := (clS R0 (M 78 9) s0 3 (dgV (M 82) (M 78 6)))) ok (by decide) rfl (by omega) rfl dX10_readsDigits_15 ?_
            rw [show (((clS R0 (M 78 9) s0 3 (dgV (M 82) (M 78 6))) ((14 * (M 78 9)) + 1)) : Int) = 3 from (clS_1 _ _ _ _ _)]
            refine v_iload_n ok 2 dX10_readsDigits_16 rfl rfl ?_
            refine v_icmp_lt (tgt := 39) ok (by decide) (by decide) dX10_readsDigits_17 (by decide) (fun c51 => absurd c51 (by decide)) (fun c51 => ?_)
            refine v_aload_n ok 1 dX10_readsDigits_20 rfl rfl ?_
            refine v_callV (na := 0) (i := 78) (C := RX10) (T := TX10) (N := 22) (f0 := (up (M 78) 6 (M 78 6 + 3))) ok (ct_X10_isDigit z.2.1 g (up1 (up1 M 83 (clS R0 (M 78 9) s0 3 (dgV (M 82) (M 78 6)))) 78 (up (M 78) 6 (M 78 6 + 3)))  (by show 0 ≤ (M 78 5) ∧ (M 78 5) ≤ 100; first | omega | assumption) (by show 0 ≤ (M 78 6 + 3) ∧ (M 78 6 + 3) ≤ 100; first | omega | assumption) (by show -1 ≤ (M 78 7) ∧ (M 78 7) ≤ 1000; first | omega | assumption) (by show bdf ((M 82)) 100 0 127; first | omega | assumption)) gX10_readsDigits_X10_isDigit (kd_lt (show kd 78 = 10 from rfl) (by decide)) rfl rfl (cellF_10 _ (by decide)) rfl (by decide +kernel) rfl (by decide) [] rfl (Nat.le_of_ble_eq_true rfl) dX10_readsDigits_21 (fun v53 M54 hp52 => ?_)
            rcases hp52 with ⟨rfl, rfl, h55⟩ | ⟨rfl, rfl, h56⟩
            · skip
              have h55 : (M 78 7) < 0 ∧ dig ((M 82)) ((M 78 5)) ((M 78 6 + 3)) := h55
              show V z g 4 (up1 (up1 M 83 (clS R0 (M 78 9) s0 3 (dgV (M 82) (M 78 6)))) 78 (up (M 78) 6 (M 78 6 + 3))) [(3, iv (14 * (M 78 9))), (0, rf g 78), (1, iv 1), (2, iv 5)] [iv 1] 24
              refine v_if_eq (tgt := 50) ok (by decide) dX10_readsDigits_24 (by decide) (fun c57 => absurd c57 (by decide)) (fun c57 => ?_)
              refine v_aload_n ok 1 dX10_readsDigits_27 rfl rfl ?_
              refine v_get (T := TX10) (N := 22) (f0 := (up (M 78) 6 (M 78 6 + 3))) (v := rf g 83) ok mi_X10_readsDigits_10 (kd_lt (show kd 78 = 10 from rfl) (by decide)) rfl rfl (cellF_10 _ (by decide)) 8 (by decide) mk_X10_readsDigits_24 rfl rfl dX10_readsDigits_28 ?_
              refine v_iload_n ok 0 dX10_readsDigits_31 rfl rfl ?_
              refine v_iconst (n := 1) ok dX10_readsDigits_32 ?_
              refine v_iadd ok dX10_readsDigits_33 ?_
              refine v_iald (n := 168) (f0 := (clS R0 (M 78 9) s0 3 (dgV (M 82) (M 78 6)))) ok (by decide) rfl (by omega) rfl dX10_readsDigits_34 ?_
              rw [show (((clS R0 (M 78 9) s0 3 (dgV (M 82) (M 78 6))) ((14 * (M 78 9)) + 1)) : Int) = 3 from (clS_1 _ _ _ _ _)]
              refine v_iload_n ok 3 dX10_readsDigits_35 rfl rfl ?_
              refine v_icmp_ge (tgt := 50) ok (by decide) (by decide) dX10_readsDigits_36 (by decide) (fun c58 => absurd c58 (by decide)) (fun c58 => ?_)
              refine v_aload_n ok 1 dX10_readsDigits_39 rfl rfl ?_
              refine v_aload_n ok 1 dX10_readsDigits_40 rfl rfl ?_
              refine v_callV (na := 0) (i := 78) (C := RX10) (T := TX10) (N := 22) (f0 := (up (M 78) 6 (M 78 6 + 3))) ok (ct_X10_figure z.2.1 g (up1 (up1 M 83 (clS R0 (M 78 9) s0 3 (dgV (M 82) (M 78 6)))) 78 (up (M 78) 6 (M 78 6 + 3)))  (by show 0 ≤ (M 78 5) ∧ (M 78 5) ≤ 100; first | omega | assumption) (by show 0 ≤ (M 78 6 + 3) ∧ (M 78 6 + 3) ≤ 100; first | omega | assumption) (by show -1 ≤ (M 78 7) ∧ (M 78 7) ≤ 1000; first | omega | assumption) (by show bdf ((M 82)) 100 0 127; first | omega | assumption)) gX10_readsDigits_X10_figure (kd_lt (show kd 78 = 10 from rfl) (by decide)) rfl rfl (cellF_10 _ (by decide)) rfl (by decide +kernel) rfl (by decide) [rf g 78] rfl (Nat.le_of_ble_eq_true rfl) dX10_readsDigits_41 (fun v60 M61 hp59 => ?_)
              rcases hp59 with ⟨rfl, rfl, h62, h63⟩ | ⟨rfl, rfl, h64, h65⟩ | ⟨rfl, rfl, h66⟩
              · skip
                have h62 : (M 78 7) < 0 := h62
                have h63 : dig ((M 82)) ((M 78 5)) ((M 78 6 + 3)) := h63
                show V z g 4 (up1 (up1 (up1 M 83 (clS R0 (M 78 9) s0 3 (dgV (M 82) (M 78 6)))) 78 (up (M 78) 6 (M 78 6 + 3))) 78 (up ((up (M 78) 6 (M 78 6 + 3))) 6 ((M 78 6 + 3) + 1))) [(3, iv (14 * (M 78 9))), (0, rf g 78), (1, iv 1), (2, iv 5)] [iv ((M 82) ((M 78 6 + 3)) - 48), rf g 78] 44
                rw [show ((up1 (up1 (up1 M 83 (clS R0 (M 78 9) s0 3 (dgV (M 82) (M 78 6)))) 78 (up (M 78) 6 (M 78 6 + 3))) 78 (up ((up (M 78) 6 (M 78 6 + 3))) 6 ((M 78 6 + 3) + 1))) : Mem) = (up1 (up1 M 83 (clS R0 (M 78 9) s0 3 (dgV (M 82) (M 78 6)))) 78 (up ((up (M 78) 6 (M 78 6 + 3))) 6 ((M 78 6 + 3) + 1))) from (by
                      funext j
                      by_cases hj0 : j = 83
                      · subst hj0; simp [up1, up1_self]
                      by_cases hj1 : j = 78
                      · subst hj1; simp [up1, up1_self]
                      simp [up1, hj0, hj1])]
                have hl24 := sgn_lt (T := M 82) (L := M 78 5) (p := (M 78 6 + 3)) (by omega)
                have hD4 : (dgs (M 82) (M 78 5) 5 (M 78 6)) = 4 + dgs (M 82) (M 78 5) 1 (M 78 6 + 4) := by rw [hD3, dg_y (k := 1) (by omega), show M 78 6 + 3 + 1 = M 78 6 + 4 by omega]; omega
                rw [show ((up1 (up1 M 83 (clS R0 (M 78 9) s0 3 (dgV (M 82) (M 78 6)))) 78 (up ((up (M 78) 6 (M 78 6 + 3))) 6 ((M 78 6 + 3) + 1))) : Mem) = (up1 (up1 M 83 (clS R0 (M 78 9) s0 3 (dgV (M 82) (M 78 6)))) 78 (up (M 78) 6 (M 78 6 + 4))) from (by rw [up_up, show M 78 6 + 3 + 1 = M 78 6 + 4 by omega])]
                have hn9 : 0 ≤ clS R0 (M 78 9) s0 3 (dgV (M 82) (M 78 6)) (14 * M 78 9 + 1) ∧ clS R0 (M 78 9) s0 3 (dgV (M 82) (M 78 6)) (14 * M 78 9 + 1) ≤ 11 := by rw [clS_1]; omega
                have hv9 : ((M 82) ((M 78 6 + 3)) - 48) = dgV (M 82) (M 78 6) 3 := rfl
                refine v_callV (na := 1) (i := 78) (C := RX10) (T := TX10) (N := 22) (f0 := (up (M 78) 6 (M 78 6 + 4))) ok (ct_X10_tells z.2.1 g (up1 (up1 M 83 (clS R0 (M 78 9) s0 3 (dgV (M 82) (M 78 6)))) 78 (up (M 78) 6 (M 78 6 + 4))) ((M 82) ((M 78 6 + 3)) - 48) (by show 0 ≤ (M 78 9) ∧ (M 78 9) ≤ 11; first | omega | assumption) hn9) gX10_readsDigits_X10_tells (kd_lt (show kd 78 = 10 from rfl) (by decide)) rfl rfl (cellF_10 _ (by decide)) rfl (by decide +kernel) rfl (by decide) [] rfl (Nat.le_of_ble_eq_true rfl) dX10_readsDigits_44 (fun v68 M69 hp67 => ?_)
                obtain ⟨rfl, rfl⟩ := hp67
                show V z g 4 (up1 (up1 (up1 M 83 (clS R0 (M 78 9) s0 3 (dgV (M 82) (M 78 6)))) 78 (up (M 78) 6 (M 78 6 + 4))) 83 (up (up ((clS R0 (M 78 9) s0 3 (dgV (M 82) (M 78 6)))) (14 * (M 78 9) + 2 + (clS R0 (M 78 9) s0 3 (dgV (M 82) (M 78 6))) (14 * (M 78 9) + 1)) ((M 82) ((M 78 6 + 3)) - 48)) (14 * (M 78 9) + 1) ((clS R0 (M 78 9) s0 3 (dgV (M 82) (M 78 6))) (14 * (M 78 9) + 1) + 1))) [(3, iv (14 * (M 78 9))), (0, rf g 78), (1, iv 1), (2, iv 5)] [] 47
                rw [show ((up1 (up1 (up1 M 83 (clS R0 (M 78 9) s0 3 (dgV (M 82) (M 78 6)))) 78 (up (M 78) 6 (M 78 6 + 4))) 83 (up (up ((clS R0 (M 78 9) s0 3 (dgV (M 82) (M 78 6)))) (14 * (M 78 9) + 2 + (clS R0 (M 78 9) s0 3 (dgV (M 82) (M 78 6))) (14 * (M 78 9) + 1)) ((M 82) ((M 78 6 + 3)) - 48)) (14 * (M 78 9) + 1) ((clS R0 (M 78 9) s0 3 (dgV (M 82) (M 78 6))) (14 * (M 78 9) + 1) + 1))) : Mem) = (up1 (up1 M 83 (up (up ((clS R0 (M 78 9) s0 3 (dgV (M 82) (M 78 6)))) (14 * (M 78 9) + 2 + (clS R0 (M 78 9) s0 3 (dgV (M 82) (M 78 6))) (14 * (M 78 9) + 1)) ((M 82) ((M 78 6 + 3)) - 48)) (14 * (M 78 9) + 1) ((clS R0 (M 78 9) s0 3 (dgV (M 82) (M 78 6))) (14 * (M 78 9) + 1) + 1))) 78 (up (M 78) 6 (M 78 6 + 4))) from (by
                      funext j
                      by_cases hj0 : j = 83
                      · subst hj0; simp [up1, up1_self]
                      by_cases hj1 : j = 78
                      · subst hj1; simp [up1, up1_self]
                      simp [up1, hj0, hj1])]
                rw [show ((up1 (up1 M 83 (up (up ((clS R0 (M 78 9) s0 3 (dgV (M 82) (M 78 6)))) (14 * (M 78 9) + 2 + (clS R0 (M 78 9) s0 3 (dgV (M 82) (M 78 6))) (14 * (M 78 9) + 1)) ((M 82) ((M 78 6 + 3)) - 48)) (14 * (M 78 9) + 1) ((clS R0 (M 78 9) s0 3 (dgV (M 82) (M 78 6))) (14 * (M 78 9) + 1) + 1))) 78 (up (M 78) 6 (M 78 6 + 4))) : Mem) = (up1 (up1 M 83 (clS R0 (M 78 9) s0 4 (dgV (M 82) (M 78 6)))) 78 (up (M 78) 6 (M 78 6 + 4))) from (by rw [clS_tv _ _ _ _ _ _ (by decide) hv9]; rfl)]
                refine v_goto (tgt := 8) ok dX10_readsDigits_47 (by decide) ?_
                refine v_aload_n ok 1 dX10_readsDigits_8 rfl rfl ?_
                refine v_get (T := TX10) (N := 22) (f0 := (up (M 78) 6 (M 78 6 + 4))) (v := rf g 83) ok mi_X10_readsDigits_10 (kd_lt (show kd 78 = 10 from rfl) (by decide)) rfl rfl (cellF_10 _ (by decide)) 8 (by decide) mk_X10_readsDigits_24 rfl rfl dX10_readsDigits_9 ?_
                refine v_iload_n ok 0 dX10_readsDigits_12 rfl rfl ?_
                refine v_iconst (n := 1) ok dX10_readsDigits_13 ?_
                refine v_iadd ok dX10_readsDigits_14 ?_
                refine v_iald (n := 168) (f0 := (clS R0 (M 78 9) s0 4 (dgV (M 82) (M 78 6)))) ok (by decide) rfl (by omega) rfl dX10_readsDigits_15 ?_
                rw [show (((clS R0 (M 78 9) s0 4 (dgV (M 82) (M 78 6))) ((14 * (M 78 9)) + 1)) : Int) = 4 from (clS_1 _ _ _ _ _)]
                refine v_iload_n ok 2 dX10_readsDigits_16 rfl rfl ?_
                refine v_icmp_lt (tgt := 39) ok (by decide) (by decide) dX10_readsDigits_17 (by decide) (fun c70 => absurd c70 (by decide)) (fun c70 => ?_)
                refine v_aload_n ok 1 dX10_readsDigits_20 rfl rfl ?_
                refine v_callV (na := 0) (i := 78) (C := RX10) (T := TX10) (N := 22) (f0 := (up (M 78) 6 (M 78 6 + 4))) ok (ct_X10_isDigit z.2.1 g (up1 (up1 M 83 (clS R0 (M 78 9) s0 4 (dgV (M 82) (M 78 6)))) 78 (up (M 78) 6 (M 78 6 + 4)))  (by show 0 ≤ (M 78 5) ∧ (M 78 5) ≤ 100; first | omega | assumption) (by show 0 ≤ (M 78 6 + 4) ∧ (M 78 6 + 4) ≤ 100; first | omega | assumption) (by show -1 ≤ (M 78 7) ∧ (M 78 7) ≤ 1000; first | omega | assumption) (by show bdf ((M 82)) 100 0 127; first | omega | assumption)) gX10_readsDigits_X10_isDigit (kd_lt (show kd 78 = 10 from rfl) (by decide)) rfl rfl (cellF_10 _ (by decide)) rfl (by decide +kernel) rfl (by decide) [] rfl (Nat.le_of_ble_eq_true rfl) dX10_readsDigits_21 (fun v72 M73 hp71 => ?_)
                rcases hp71 with ⟨rfl, rfl, h74⟩ | ⟨rfl, rfl, h75⟩
                · skip
                  have h74 : (M 78 7) < 0 ∧ dig ((M 82)) ((M 78 5)) ((M 78 6 + 4)) := h74
                  show V z g 4 (up1 (up1 M 83 (clS R0 (M 78 9) s0 4 (dgV (M 82) (M 78 6)))) 78 (up (M 78) 6 (M 78 6 + 4))) [(3, iv (14 * (M 78 9))), (0, rf g 78), (1, iv 1), (2, iv 5)] [iv 1] 24
                  refine v_if_eq (tgt := 50) ok (by decide) dX10_readsDigits_24 (by decide) (fun c76 => absurd c76 (by decide)) (fun c76 => ?_)
                  refine v_aload_n ok 1 dX10_readsDigits_27 rfl rfl ?_
                  refine v_get (T := TX10) (N := 22) (f0 := (up (M 78) 6 (M 78 6 + 4))) (v := rf g 83) ok mi_X10_readsDigits_10 (kd_lt (show kd 78 = 10 from rfl) (by decide)) rfl rfl (cellF_10 _ (by decide)) 8 (by decide) mk_X10_readsDigits_24 rfl rfl dX10_readsDigits_28 ?_
                  refine v_iload_n ok 0 dX10_readsDigits_31 rfl rfl ?_
                  refine v_iconst (n := 1) ok dX10_readsDigits_32 ?_
                  refine v_iadd ok dX10_readsDigits_33 ?_
                  refine v_iald (n := 168) (f0 := (clS R0 (M 78 9) s0 4 (dgV (M 82) (M 78 6)))) ok (by decide) rfl (by omega) rfl dX10_readsDigits_34 ?_
                  rw [show (((clS R0 (M 78 9) s0 4 (dgV (M 82) (M 78 6))) ((14 * (M 78 9)) + 1)) : Int) = 4 from (clS_1 _ _ _ _ _)]
                  refine v_iload_n ok 3 dX10_readsDigits_35 rfl rfl ?_
                  refine v_icmp_ge (tgt := 50) ok (by decide) (by decide) dX10_readsDigits_36 (by decide) (fun c77 => absurd c77 (by decide)) (fun c77 => ?_)
                  refine v_aload_n ok 1 dX10_readsDigits_39 rfl rfl ?_
                  refine v_aload_n ok 1 dX10_readsDigits_40 rfl rfl ?_
                  refine v_callV (na := 0) (i := 78) (C := RX10) (T := TX10) (N := 22) (f0 := (up (M 78) 6 (M 78 6 + 4))) ok (ct_X10_figure z.2.1 g (up1 (up1 M 83 (clS R0 (M 78 9) s0 4 (dgV (M 82) (M 78 6)))) 78 (up (M 78) 6 (M 78 6 + 4)))  (by show 0 ≤ (M 78 5) ∧ (M 78 5) ≤ 100; first | omega | assumption) (by show 0 ≤ (M 78 6 + 4) ∧ (M 78 6 + 4) ≤ 100; first | omega | assumption) (by show -1 ≤ (M 78 7) ∧ (M 78 7) ≤ 1000; first | omega | assumption) (by show bdf ((M 82)) 100 0 127; first | omega | assumption)) gX10_readsDigits_X10_figure (kd_lt (show kd 78 = 10 from rfl) (by decide)) rfl rfl (cellF_10 _ (by decide)) rfl (by decide +kernel) rfl (by decide) [rf g 78] rfl (Nat.le_of_ble_eq_true rfl) dX10_readsDigits_41 (fun v79 M80 hp78 => ?_)
                  rcases hp78 with ⟨rfl, rfl, h81, h82⟩ | ⟨rfl, rfl, h83, h84⟩ | ⟨rfl, rfl, h85⟩
                  · skip
                    have h81 : (M 78 7) < 0 := h81
                    have h82 : dig ((M 82)) ((M 78 5)) ((M 78 6 + 4)) := h82
                    show V z g 4 (up1 (up1 (up1 M 83 (clS R0 (M 78 9) s0 4 (dgV (M 82) (M 78 6)))) 78 (up (M 78) 6 (M 78 6 + 4))) 78 (up ((up (M 78) 6 (M 78 6 + 4))) 6 ((M 78 6 + 4) + 1))) [(3, iv (14 * (M 78 9))), (0, rf g 78), (1, iv 1), (2, iv 5)] [iv ((M 82) ((M 78 6 + 4)) - 48), rf g 78] 44
                    rw [show ((up1 (up1 (up1 M 83 (clS R0 (M 78 9) s0 4 (dgV (M 82) (M 78 6)))) 78 (up (M 78) 6 (M 78 6 + 4))) 78 (up ((up (M 78) 6 (M 78 6 + 4))) 6 ((M 78 6 + 4) + 1))) : Mem) = (up1 (up1 M 83 (clS R0 (M 78 9) s0 4 (dgV (M 82) (M 78 6)))) 78 (up ((up (M 78) 6 (M 78 6 + 4))) 6 ((M 78 6 + 4) + 1))) from (by
                          funext j
                          by_cases hj0 : j = 83
                          · subst hj0; simp [up1, up1_self]
                          by_cases hj1 : j = 78
                          · subst hj1; simp [up1, up1_self]
                          simp [up1, hj0, hj1])]
                    have hl25 := sgn_lt (T := M 82) (L := M 78 5) (p := (M 78 6 + 4)) (by omega)
                    have hD5 : (dgs (M 82) (M 78 5) 5 (M 78 6)) = 5 + dgs (M 82) (M 78 5) 0 (M 78 6 + 5) := by rw [hD4, dg_y (k := 0) (by omega), show M 78 6 + 4 + 1 = M 78 6 + 5 by omega]; omega
                    rw [show ((up1 (up1 M 83 (clS R0 (M 78 9) s0 4 (dgV (M 82) (M 78 6)))) 78 (up ((up (M 78) 6 (M 78 6 + 4))) 6 ((M 78 6 + 4) + 1))) : Mem) = (up1 (up1 M 83 (clS R0 (M 78 9) s0 4 (dgV (M 82) (M 78 6)))) 78 (up (M 78) 6 (M 78 6 + 5))) from (by rw [up_up, show M 78 6 + 4 + 1 = M 78 6 + 5 by omega])]
                    have hn9 : 0 ≤ clS R0 (M 78 9) s0 4 (dgV (M 82) (M 78 6)) (14 * M 78 9 + 1) ∧ clS R0 (M 78 9) s0 4 (dgV (M 82) (M 78 6)) (14 * M 78 9 + 1) ≤ 11 := by rw [clS_1]; omega
                    have hv9 : ((M 82) ((M 78 6 + 4)) - 48) = dgV (M 82) (M 78 6) 4 := rfl
                    refine v_callV (na := 1) (i := 78) (C := RX10) (T := TX10) (N := 22) (f0 := (up (M 78) 6 (M 78 6 + 5))) ok (ct_X10_tells z.2.1 g (up1 (up1 M 83 (clS R0 (M 78 9) s0 4 (dgV (M 82) (M 78 6)))) 78 (up (M 78) 6 (M 78 6 + 5))) ((M 82) ((M 78 6 + 4)) - 48) (by show 0 ≤ (M 78 9) ∧ (M 78 9) ≤ 11; first | omega | assumption) hn9) gX10_readsDigits_X10_tells (kd_lt (show kd 78 = 10 from rfl) (by decide)) rfl rfl (cellF_10 _ (by decide)) rfl (by decide +kernel) rfl (by decide) [] rfl (Nat.le_of_ble_eq_true rfl) dX10_readsDigits_44 (fun v87 M88 hp86 => ?_)
                    obtain ⟨rfl, rfl⟩ := hp86
                    show V z g 4 (up1 (up1 (up1 M 83 (clS R0 (M 78 9) s0 4 (dgV (M 82) (M 78 6)))) 78 (up (M 78) 6 (M 78 6 + 5))) 83 (up (up ((clS R0 (M 78 9) s0 4 (dgV (M 82) (M 78 6)))) (14 * (M 78 9) + 2 + (clS R0 (M 78 9) s0 4 (dgV (M 82) (M 78 6))) (14 * (M 78 9) + 1)) ((M 82) ((M 78 6 + 4)) - 48)) (14 * (M 78 9) + 1) ((clS R0 (M 78 9) s0 4 (dgV (M 82) (M 78 6))) (14 * (M 78 9) + 1) + 1))) [(3, iv (14 * (M 78 9))), (0, rf g 78), (1, iv 1), (2, iv 5)] [] 47
                    rw [show ((up1 (up1 (up1 M 83 (clS R0 (M 78 9) s0 4 (dgV (M 82) (M 78 6)))) 78 (up (M 78) 6 (M 78 6 + 5))) 83 (up (up ((clS R0 (M 78 9) s0 4 (dgV (M 82) (M 78 6)))) (14 * (M 78 9) + 2 + (clS R0 (M 78 9) s0 4 (dgV (M 82) (M 78 6))) (14 * (M 78 9) + 1)) ((M 82) ((M 78 6 + 4)) - 48)) (14 * (M 78 9) + 1) ((clS R0 (M 78 9) s0 4 (dgV (M 82) (M 78 6))) (14 * (M 78 9) + 1) + 1))) : Mem) = (up1 (up1 M 83 (up (up ((clS R0 (M 78 9) s0 4 (dgV (M 82) (M 78 6)))) (14 * (M 78 9) + 2 + (clS R0 (M 78 9) s0 4 (dgV (M 82) (M 78 6))) (14 * (M 78 9) + 1)) ((M 82) ((M 78 6 + 4)) - 48)) (14 * (M 78 9) + 1) ((clS R0 (M 78 9) s0 4 (dgV (M 82) (M 78 6))) (14 * (M 78 9) + 1) + 1))) 78 (up (M 78) 6 (M 78 6 + 5))) from (by
                          funext j
                          by_cases hj0 : j = 83
                          · subst hj0; simp [up1, up1_self]
                          by_cases hj1 : j = 78
                          · subst hj1; simp [up1, up1_self]
                          simp [up1, hj0, hj1])]
                    rw [show ((up1 (up1 M 83 (up (up ((clS R0 (M 78 9) s0 4 (dgV (M 82) (M 78 6)))) (14 * (M 78 9) + 2 + (clS R0 (M 78 9) s0 4 (dgV (M 82) (M 78 6))) (14 * (M 78 9) + 1)) ((M 82) ((M 78 6 + 4)) - 48)) (14 * (M 78 9) + 1) ((clS R0 (M 78 9) s0 4 (dgV (M 82) (M 78 6))) (14 * (M 78 9) + 1) + 1))) 78 (up (M 78) 6 (M 78 6 + 5))) : Mem) = (up1 (up1 M 83 (clS R0 (M 78 9) s0 5 (dgV (M 82) (M 78 6)))) 78 (up (M 78) 6 (M 78 6 + 5))) from (by rw [clS_tv _ _ _ _ _ _ (by decide) hv9]; rfl)]
                    refine v_goto (tgt := 8) ok dX10_readsDigits_47 (by decide) ?_
                    refine v_aload_n ok 1 dX10_readsDigits_8 rfl rfl ?_
                    refine v_get (T := TX10) (N := 22) (f0 := (up (M 78) 6 (M 78 6 + 5))) (v := rf g 83) ok mi_X10_readsDigits_10 (kd_lt (show kd 78 = 10 from rfl) (by decide)) rfl rfl (cellF_10 _ (by decide)) 8 (by decide) mk_X10_readsDigits_24 rfl rfl dX10_readsDigits_9 ?_
                    refine v_iload_n ok 0 dX10_readsDigits_12 rfl rfl ?_
                    refine v_iconst (n := 1) ok dX10_readsDigits_13 ?_
                    refine v_iadd ok dX10_readsDigits_14 ?_
                    refine v_iald (n := 168) (f0 := (clS R0 (M 78 9) s0 5 (dgV (M 82) (M 78 6)))) ok (by decide) rfl (by omega) rfl dX10_readsDigits_15 ?_
                    rw [show (((clS R0 (M 78 9) s0 5 (dgV (M 82) (M 78 6))) ((14 * (M 78 9)) + 1)) : Int) = 5 from (clS_1 _ _ _ _ _)]
                    refine v_iload_n ok 2 dX10_readsDigits_16 rfl rfl ?_
                    refine v_icmp_lt (tgt := 39) ok (by decide) (by decide) dX10_readsDigits_17 (by decide) (fun c89 => absurd c89 (by decide)) (fun c89 => ?_)
                    refine v_aload_n ok 1 dX10_readsDigits_20 rfl rfl ?_
                    refine v_callV (na := 0) (i := 78) (C := RX10) (T := TX10) (N := 22) (f0 := (up (M 78) 6 (M 78 6 + 5))) ok (ct_X10_isDigit z.2.1 g (up1 (up1 M 83 (clS R0 (M 78 9) s0 5 (dgV (M 82) (M 78 6)))) 78 (up (M 78) 6 (M 78 6 + 5)))  (by show 0 ≤ (M 78 5) ∧ (M 78 5) ≤ 100; first | omega | assumption) (by show 0 ≤ (M 78 6 + 5) ∧ (M 78 6 + 5) ≤ 100; first | omega | assumption) (by show -1 ≤ (M 78 7) ∧ (M 78 7) ≤ 1000; first | omega | assumption) (by show bdf ((M 82)) 100 0 127; first | omega | assumption)) gX10_readsDigits_X10_isDigit (kd_lt (show kd 78 = 10 from rfl) (by decide)) rfl rfl (cellF_10 _ (by decide)) rfl (by decide +kernel) rfl (by decide) [] rfl (Nat.le_of_ble_eq_true rfl) dX10_readsDigits_21 (fun v91 M92 hp90 => ?_)
                    rcases hp90 with ⟨rfl, rfl, h93⟩ | ⟨rfl, rfl, h94⟩
                    · skip
                      have h93 : (M 78 7) < 0 ∧ dig ((M 82)) ((M 78 5)) ((M 78 6 + 5)) := h93
                      show V z g 4 (up1 (up1 M 83 (clS R0 (M 78 9) s0 5 (dgV (M 82) (M 78 6)))) 78 (up (M 78) 6 (M 78 6 + 5))) [(3, iv (14 * (M 78 9))), (0, rf g 78), (1, iv 1), (2, iv 5)] [iv 1] 24
                      refine v_if_eq (tgt := 50) ok (by decide) dX10_readsDigits_24 (by decide) (fun c95 => absurd c95 (by decide)) (fun c95 => ?_)
                      refine v_aload_n ok 1 dX10_readsDigits_27 rfl rfl ?_
                      refine v_get (T := TX10) (N := 22) (f0 := (up (M 78) 6 (M 78 6 + 5))) (v := rf g 83) ok mi_X10_readsDigits_10 (kd_lt (show kd 78 = 10 from rfl) (by decide)) rfl rfl (cellF_10 _ (by decide)) 8 (by decide) mk_X10_readsDigits_24 rfl rfl dX10_readsDigits_28 ?_
                      refine v_iload_n ok 0 dX10_readsDigits_31 rfl rfl ?_
                      refine v_iconst (n := 1) ok dX10_readsDigits_32 ?_
                      refine v_iadd ok dX10_readsDigits_33 ?_
                      refine v_iald (n := 168) (f0 := (clS R0 (M 78 9) s0 5 (dgV (M 82) (M 78 6)))) ok (by decide) rfl (by omega) rfl dX10_readsDigits_34 ?_
                      rw [show (((clS R0 (M 78 9) s0 5 (dgV (M 82) (M 78 6))) ((14 * (M 78 9)) + 1)) : Int) = 5 from (clS_1 _ _ _ _ _)]
                      refine v_iload_n ok 3 dX10_readsDigits_35 rfl rfl ?_
                      refine v_icmp_ge (tgt := 50) ok (by decide) (by decide) dX10_readsDigits_36 (by decide) (fun c96 => ?_) (fun c96 => absurd c96 (by decide))
                      have hDe : (dgs (M 82) (M 78 5) 5 (M 78 6)) = 5 := by rw [hD5]; rfl
                      rw [show ((up1 (up1 M 83 (clS R0 (M 78 9) s0 5 (dgV (M 82) (M 78 6)))) 78 (up (M 78) 6 (M 78 6 + 5))) : Mem) = (up1 (up1 M 83 (clS R0 (M 78 9) s0 (dgs (M 82) (M 78 5) 5 (M 78 6)) (dgV (M 82) (M 78 6)))) 78 (up (M 78) 6 (M 78 6 + (dgs (M 82) (M 78 5) 5 (M 78 6))))) from (by rw [hDe])]
                      exact v_vret ok rt dX10_readsDigits_50 (Or.inl (⟨rfl, rfl, (by omega)⟩))
                    · skip
                      have h94 : ¬ ((M 78 7) < 0 ∧ dig ((M 82)) ((M 78 5)) ((M 78 6 + 5))) := h94
                      show V z g 4 (up1 (up1 M 83 (clS R0 (M 78 9) s0 5 (dgV (M 82) (M 78 6)))) 78 (up (M 78) 6 (M 78 6 + 5))) [(3, iv (14 * (M 78 9))), (0, rf g 78), (1, iv 1), (2, iv 5)] [iv 0] 24
                      refine v_if_eq (tgt := 50) ok (by decide) dX10_readsDigits_24 (by decide) (fun c97 => ?_) (fun c97 => absurd c97 (by decide))
                      have hDe : (dgs (M 82) (M 78 5) 5 (M 78 6)) = 5 := by rw [hD5]; rfl
                      rw [show ((up1 (up1 M 83 (clS R0 (M 78 9) s0 5 (dgV (M 82) (M 78 6)))) 78 (up (M 78) 6 (M 78 6 + 5))) : Mem) = (up1 (up1 M 83 (clS R0 (M 78 9) s0 (dgs (M 82) (M 78 5) 5 (M 78 6)) (dgV (M 82) (M 78 6)))) 78 (up (M 78) 6 (M 78 6 + (dgs (M 82) (M 78 5) 5 (M 78 6))))) from (by rw [hDe])]
                      exact v_vret ok rt dX10_readsDigits_50 (Or.inl (⟨rfl, rfl, (by omega)⟩))
                  · skip
                    have h83 : (M 78 7) < 0 := h83
                    have h84 : ¬ dig ((M 82)) ((M 78 5)) ((M 78 6 + 4)) := h84
                    show V z g 4 (up1 (up1 (up1 M 83 (clS R0 (M 78 9) s0 4 (dgV (M 82) (M 78 6)))) 78 (up (M 78) 6 (M 78 6 + 4))) 78 (up ((up (M 78) 6 (M 78 6 + 4))) 7 ((M 78 6 + 4)))) [(3, iv (14 * (M 78 9))), (0, rf g 78), (1, iv 1), (2, iv 5)] [iv 0, rf g 78] 44
                    rw [show ((up1 (up1 (up1 M 83 (clS R0 (M 78 9) s0 4 (dgV (M 82) (M 78 6)))) 78 (up (M 78) 6 (M 78 6 + 4))) 78 (up ((up (M 78) 6 (M 78 6 + 4))) 7 ((M 78 6 + 4)))) : Mem) = (up1 (up1 M 83 (clS R0 (M 78 9) s0 4 (dgV (M 82) (M 78 6)))) 78 (up ((up (M 78) 6 (M 78 6 + 4))) 7 ((M 78 6 + 4)))) from (by
                          funext j
                          by_cases hj0 : j = 83
                          · subst hj0; simp [up1, up1_self]
                          by_cases hj1 : j = 78
                          · subst hj1; simp [up1, up1_self]
                          simp [up1, hj0, hj1])]
                    have hDf : (dgs (M 82) (M 78 5) 5 (M 78 6)) = 4 := by rw [hD4, dg_n (by omega)]; rfl
                    rw [show ((up1 (up1 M 83 (clS R0 (M 78 9) s0 4 (dgV (M 82) (M 78 6)))) 78 (up ((up (M 78) 6 (M 78 6 + 4))) 7 ((M 78 6 + 4)))) : Mem) = (up1 (up1 M 83 (clS R0 (M 78 9) s0 4 (dgV (M 82) (M 78 6)))) 78 (up (up (M 78) 6 (M 78 6 + 4)) 7 (M 78 6 + 4))) from rfl]
                    have hn9 : 0 ≤ clS R0 (M 78 9) s0 4 (dgV (M 82) (M 78 6)) (14 * M 78 9 + 1) ∧ clS R0 (M 78 9) s0 4 (dgV (M 82) (M 78 6)) (14 * M 78 9 + 1) ≤ 11 := by rw [clS_1]; omega
                    refine v_callV (na := 1) (i := 78) (C := RX10) (T := TX10) (N := 22) (f0 := (up (up (M 78) 6 (M 78 6 + 4)) 7 (M 78 6 + 4))) ok (ct_X10_tells z.2.1 g (up1 (up1 M 83 (clS R0 (M 78 9) s0 4 (dgV (M 82) (M 78 6)))) 78 (up (up (M 78) 6 (M 78 6 + 4)) 7 (M 78 6 + 4))) 0 (by show 0 ≤ (M 78 9) ∧ (M 78 9) ≤ 11; first | omega | assumption) hn9) gX10_readsDigits_X10_tells (kd_lt (show kd 78 = 10 from rfl) (by decide)) rfl rfl (cellF_10 _ (by decide)) rfl (by decide +kernel) rfl (by decide) [] rfl (Nat.le_of_ble_eq_true rfl) dX10_readsDigits_44 (fun v99 M100 hp98 => ?_)
                    obtain ⟨rfl, rfl⟩ := hp98
                    show V z g 4 (up1 (up1 (up1 M 83 (clS R0 (M 78 9) s0 4 (dgV (M 82) (M 78 6)))) 78 (up (up (M 78) 6 (M 78 6 + 4)) 7 (M 78 6 + 4))) 83 (up (up ((clS R0 (M 78 9) s0 4 (dgV (M 82) (M 78 6)))) (14 * (M 78 9) + 2 + (clS R0 (M 78 9) s0 4 (dgV (M 82) (M 78 6))) (14 * (M 78 9) + 1)) 0) (14 * (M 78 9) + 1) ((clS R0 (M 78 9) s0 4 (dgV (M 82) (M 78 6))) (14 * (M 78 9) + 1) + 1))) [(3, iv (14 * (M 78 9))), (0, rf g 78), (1, iv 1), (2, iv 5)] [] 47
                    rw [show ((up1 (up1 (up1 M 83 (clS R0 (M 78 9) s0 4 (dgV (M 82) (M 78 6)))) 78 (up (up (M 78) 6 (M 78 6 + 4)) 7 (M 78 6 + 4))) 83 (up (up ((clS R0 (M 78 9) s0 4 (dgV (M 82) (M 78 6)))) (14 * (M 78 9) + 2 + (clS R0 (M 78 9) s0 4 (dgV (M 82) (M 78 6))) (14 * (M 78 9) + 1)) 0) (14 * (M 78 9) + 1) ((clS R0 (M 78 9) s0 4 (dgV (M 82) (M 78 6))) (14 * (M 78 9) + 1) + 1))) : Mem) = (up1 (up1 M 83 (up (up ((clS R0 (M 78 9) s0 4 (dgV (M 82) (M 78 6)))) (14 * (M 78 9) + 2 + (clS R0 (M 78 9) s0 4 (dgV (M 82) (M 78 6))) (14 * (M 78 9) + 1)) 0) (14 * (M 78 9) + 1) ((clS R0 (M 78 9) s0 4 (dgV (M 82) (M 78 6))) (14 * (M 78 9) + 1) + 1))) 78 (up (up (M 78) 6 (M 78 6 + 4)) 7 (M 78 6 + 4))) from (by
                          funext j
                          by_cases hj0 : j = 83
                          · subst hj0; simp [up1, up1_self]
                          by_cases hj1 : j = 78
                          · subst hj1; simp [up1, up1_self]
                          simp [up1, hj0, hj1])]
                    rw [show ((up1 (up1 M 83 (up (up ((clS R0 (M 78 9) s0 4 (dgV (M 82) (M 78 6)))) (14 * (M 78 9) + 2 + (clS R0 (M 78 9) s0 4 (dgV (M 82) (M 78 6))) (14 * (M 78 9) + 1)) 0) (14 * (M 78 9) + 1) ((clS R0 (M 78 9) s0 4 (dgV (M 82) (M 78 6))) (14 * (M 78 9) + 1) + 1))) 78 (up (up (M 78) 6 (M 78 6 + 4)) 7 (M 78 6 + 4))) : Mem) = (up1 (up1 M 83 (clS R0 (M 78 9) s0 5 (up (dgV (M 82) (M 78 6)) 4 0))) 78 (up (up (M 78) 6 (M 78 6 + 4)) 7 (M 78 6 + 4))) from (by rw [clS_tl _ _ _ _ _ _ (by decide)]; rfl)]
                    refine v_goto (tgt := 8) ok dX10_readsDigits_47 (by decide) ?_
                    refine v_aload_n ok 1 dX10_readsDigits_8 rfl rfl ?_
                    refine v_get (T := TX10) (N := 22) (f0 := (up (up (M 78) 6 (M 78 6 + 4)) 7 (M 78 6 + 4))) (v := rf g 83) ok mi_X10_readsDigits_10 (kd_lt (show kd 78 = 10 from rfl) (by decide)) rfl rfl (cellF_10 _ (by decide)) 8 (by decide) mk_X10_readsDigits_24 rfl rfl dX10_readsDigits_9 ?_
                    refine v_iload_n ok 0 dX10_readsDigits_12 rfl rfl ?_
                    refine v_iconst (n := 1) ok dX10_readsDigits_13 ?_
                    refine v_iadd ok dX10_readsDigits_14 ?_
                    refine v_iald (n := 168) (f0 := (clS R0 (M 78 9) s0 5 (up (dgV (M 82) (M 78 6)) 4 0))) ok (by decide) rfl (by omega) rfl dX10_readsDigits_15 ?_
                    rw [show (((clS R0 (M 78 9) s0 5 (up (dgV (M 82) (M 78 6)) 4 0)) ((14 * (M 78 9)) + 1)) : Int) = 5 from (clS_1 _ _ _ _ _)]
                    refine v_iload_n ok 2 dX10_readsDigits_16 rfl rfl ?_
                    refine v_icmp_lt (tgt := 39) ok (by decide) (by decide) dX10_readsDigits_17 (by decide) (fun c101 => absurd c101 (by decide)) (fun c101 => ?_)
                    refine v_aload_n ok 1 dX10_readsDigits_20 rfl rfl ?_
                    refine v_callV (na := 0) (i := 78) (C := RX10) (T := TX10) (N := 22) (f0 := (up (up (M 78) 6 (M 78 6 + 4)) 7 (M 78 6 + 4))) ok (ct_X10_isDigit z.2.1 g (up1 (up1 M 83 (clS R0 (M 78 9) s0 5 (up (dgV (M 82) (M 78 6)) 4 0))) 78 (up (up (M 78) 6 (M 78 6 + 4)) 7 (M 78 6 + 4)))  (by show 0 ≤ (M 78 5) ∧ (M 78 5) ≤ 100; first | omega | assumption) (by show 0 ≤ (M 78 6 + 4) ∧ (M 78 6 + 4) ≤ 100; first | omega | assumption) (by show -1 ≤ (M 78 6 + 4) ∧ (M 78 6 + 4) ≤ 1000; first | omega | assumption) (by show bdf ((M 82)) 100 0 127; first | omega | assumption)) gX10_readsDigits_X10_isDigit (kd_lt (show kd 78 = 10 from rfl) (by decide)) rfl rfl (cellF_10 _ (by decide)) rfl (by decide +kernel) rfl (by decide) [] rfl (Nat.le_of_ble_eq_true rfl) dX10_readsDigits_21 (fun v103 M104 hp102 => ?_)
                    rcases hp102 with ⟨rfl, rfl, h105⟩ | ⟨rfl, rfl, h106⟩
                    · skip
                      have h105 : (M 78 6 + 4) < 0 ∧ dig ((M 82)) ((M 78 5)) ((M 78 6 + 4)) := h105
                      show V z g 4 (up1 (up1 M 83 (clS R0 (M 78 9) s0 5 (up (dgV (M 82) (M 78 6)) 4 0))) 78 (up (up (M 78) 6 (M 78 6 + 4)) 7 (M 78 6 + 4))) [(3, iv (14 * (M 78 9))), (0, rf g 78), (1, iv 1), (2, iv 5)] [iv 1] 24
                      exfalso; omega
                    · skip
                      have h106 : ¬ ((M 78 6 + 4) < 0 ∧ dig ((M 82)) ((M 78 5)) ((M 78 6 + 4))) := h106
                      show V z g 4 (up1 (up1 M 83 (clS R0 (M 78 9) s0 5 (up (dgV (M 82) (M 78 6)) 4 0))) 78 (up (up (M 78) 6 (M 78 6 + 4)) 7 (M 78 6 + 4))) [(3, iv (14 * (M 78 9))), (0, rf g 78), (1, iv 1), (2, iv 5)] [iv 0] 24
                      refine v_if_eq (tgt := 50) ok (by decide) dX10_readsDigits_24 (by decide) (fun c107 => ?_) (fun c107 => absurd c107 (by decide))
                      rw [show ((up1 (up1 M 83 (clS R0 (M 78 9) s0 5 (up (dgV (M 82) (M 78 6)) 4 0))) 78 (up (up (M 78) 6 (M 78 6 + 4)) 7 (M 78 6 + 4))) : Mem) = (up1 (up1 M 83 (clS R0 (M 78 9) s0 5 (up (dgV (M 82) (M 78 6)) 4 0))) 78 (up (up (M 78) 6 (M 78 6 + (dgs (M 82) (M 78 5) 5 (M 78 6)))) 7 (M 78 6 + (dgs (M 82) (M 78 5) 5 (M 78 6))))) from (by rw [hDf])]
                      exact v_vret ok rt dX10_readsDigits_50 (Or.inr (⟨(clS R0 (M 78 9) s0 5 (up (dgV (M 82) (M 78 6)) 4 0)), rfl, rfl, (by omega)⟩))
                  · skip
                    have h85 : ¬ (M 78 7) < 0 := h85
                    show V z g 4 (up1 (up1 (up1 M 83 (clS R0 (M 78 9) s0 4 (dgV (M 82) (M 78 6)))) 78 (up (M 78) 6 (M 78 6 + 4))) 78 (up ((up (M 78) 6 (M 78 6 + 4))) 7 ((M 78 7)))) [(3, iv (14 * (M 78 9))), (0, rf g 78), (1, iv 1), (2, iv 5)] [iv 0, rf g 78] 44
                    rw [show ((up1 (up1 (up1 M 83 (clS R0 (M 78 9) s0 4 (dgV (M 82) (M 78 6)))) 78 (up (M 78) 6 (M 78 6 + 4))) 78 (up ((up (M 78) 6 (M 78 6 + 4))) 7 ((M 78 7)))) : Mem) = (up1 (up1 M 83 (clS R0 (M 78 9) s0 4 (dgV (M 82) (M 78 6)))) 78 (up ((up (M 78) 6 (M 78 6 + 4))) 7 ((M 78 7)))) from (by
                          funext j
                          by_cases hj0 : j = 83
                          · subst hj0; simp [up1, up1_self]
                          by_cases hj1 : j = 78
                          · subst hj1; simp [up1, up1_self]
                          simp [up1, hj0, hj1])]
                    exfalso; omega
                · skip
                  have h75 : ¬ ((M 78 7) < 0 ∧ dig ((M 82)) ((M 78 5)) ((M 78 6 + 4))) := h75
                  show V z g 4 (up1 (up1 M 83 (clS R0 (M 78 9) s0 4 (dgV (M 82) (M 78 6)))) 78 (up (M 78) 6 (M 78 6 + 4))) [(3, iv (14 * (M 78 9))), (0, rf g 78), (1, iv 1), (2, iv 5)] [iv 0] 24
                  refine v_if_eq (tgt := 50) ok (by decide) dX10_readsDigits_24 (by decide) (fun c108 => ?_) (fun c108 => absurd c108 (by decide))
                  have hDe : (dgs (M 82) (M 78 5) 5 (M 78 6)) = 4 := by rw [hD4, dg_n (by omega)]; rfl
                  rw [show ((up1 (up1 M 83 (clS R0 (M 78 9) s0 4 (dgV (M 82) (M 78 6)))) 78 (up (M 78) 6 (M 78 6 + 4))) : Mem) = (up1 (up1 M 83 (clS R0 (M 78 9) s0 (dgs (M 82) (M 78 5) 5 (M 78 6)) (dgV (M 82) (M 78 6)))) 78 (up (M 78) 6 (M 78 6 + (dgs (M 82) (M 78 5) 5 (M 78 6))))) from (by rw [hDe])]
                  exact v_vret ok rt dX10_readsDigits_50 (Or.inl (⟨rfl, rfl, (by omega)⟩))
              · skip
                have h64 : (M 78 7) < 0 := h64
                have h65 : ¬ dig ((M 82)) ((M 78 5)) ((M 78 6 + 3)) := h65
                show V z g 4 (up1 (up1 (up1 M 83 (clS R0 (M 78 9) s0 3 (dgV (M 82) (M 78 6)))) 78 (up (M 78) 6 (M 78 6 + 3))) 78 (up ((up (M 78) 6 (M 78 6 + 3))) 7 ((M 78 6 + 3)))) [(3, iv (14 * (M 78 9))), (0, rf g 78), (1, iv 1), (2, iv 5)] [iv 0, rf g 78] 44
                rw [show ((up1 (up1 (up1 M 83 (clS R0 (M 78 9) s0 3 (dgV (M 82) (M 78 6)))) 78 (up (M 78) 6 (M 78 6 + 3))) 78 (up ((up (M 78) 6 (M 78 6 + 3))) 7 ((M 78 6 + 3)))) : Mem) = (up1 (up1 M 83 (clS R0 (M 78 9) s0 3 (dgV (M 82) (M 78 6)))) 78 (up ((up (M 78) 6 (M 78 6 + 3))) 7 ((M 78 6 + 3)))) from (by
                      funext j
                      by_cases hj0 : j = 83
                      · subst hj0; simp [up1, up1_self]
                      by_cases hj1 : j = 78
                      · subst hj1; simp [up1, up1_self]
                      simp [up1, hj0, hj1])]
                have hDf : (dgs (M 82) (M 78 5) 5 (M 78 6)) = 3 := by rw [hD3, dg_n (by omega)]; rfl
                rw [show ((up1 (up1 M 83 (clS R0 (M 78 9) s0 3 (dgV (M 82) (M 78 6)))) 78 (up ((up (M 78) 6 (M 78 6 + 3))) 7 ((M 78 6 + 3)))) : Mem) = (up1 (up1 M 83 (clS R0 (M 78 9) s0 3 (dgV (M 82) (M 78 6)))) 78 (up (up (M 78) 6 (M 78 6 + 3)) 7 (M 78 6 + 3))) from rfl]
                have hn9 : 0 ≤ clS R0 (M 78 9) s0 3 (dgV (M 82) (M 78 6)) (14 * M 78 9 + 1) ∧ clS R0 (M 78 9) s0 3 (dgV (M 82) (M 78 6)) (14 * M 78 9 + 1) ≤ 11 := by rw [clS_1]; omega
                refine v_callV (na := 1) (i := 78) (C := RX10) (T := TX10) (N := 22) (f0 := (up (up (M 78) 6 (M 78 6 + 3)) 7 (M 78 6 + 3))) ok (ct_X10_tells z.2.1 g (up1 (up1 M 83 (clS R0 (M 78 9) s0 3 (dgV (M 82) (M 78 6)))) 78 (up (up (M 78) 6 (M 78 6 + 3)) 7 (M 78 6 + 3))) 0 (by show 0 ≤ (M 78 9) ∧ (M 78 9) ≤ 11; first | omega | assumption) hn9) gX10_readsDigits_X10_tells (kd_lt (show kd 78 = 10 from rfl) (by decide)) rfl rfl (cellF_10 _ (by decide)) rfl (by decide +kernel) rfl (by decide) [] rfl (Nat.le_of_ble_eq_true rfl) dX10_readsDigits_44 (fun v110 M111 hp109 => ?_)
                obtain ⟨rfl, rfl⟩ := hp109
                show V z g 4 (up1 (up1 (up1 M 83 (clS R0 (M 78 9) s0 3 (dgV (M 82) (M 78 6)))) 78 (up (up (M 78) 6 (M 78 6 + 3)) 7 (M 78 6 + 3))) 83 (up (up ((clS R0 (M 78 9) s0 3 (dgV (M 82) (M 78 6)))) (14 * (M 78 9) + 2 + (clS R0 (M 78 9) s0 3 (dgV (M 82) (M 78 6))) (14 * (M 78 9) + 1)) 0) (14 * (M 78 9) + 1) ((clS R0 (M 78 9) s0 3 (dgV (M 82) (M 78 6))) (14 * (M 78 9) + 1) + 1))) [(3, iv (14 * (M 78 9))), (0, rf g 78), (1, iv 1), (2, iv 5)] [] 47
                rw [show ((up1 (up1 (up1 M 83 (clS R0 (M 78 9) s0 3 (dgV (M 82) (M 78 6)))) 78 (up (up (M 78) 6 (M 78 6 + 3)) 7 (M 78 6 + 3))) 83 (up (up ((clS R0 (M 78 9) s0 3 (dgV (M 82) (M 78 6)))) (14 * (M 78 9) + 2 + (clS R0 (M 78 9) s0 3 (dgV (M 82) (M 78 6))) (14 * (M 78 9) + 1)) 0) (14 * (M 78 9) + 1) ((clS R0 (M 78 9) s0 3 (dgV (M 82) (M 78 6))) (14 * (M 78 9) + 1) + 1))) : Mem) = (up1 (up1 M 83 (up (up ((clS R0 (M 78 9) s0 3 (dgV (M 82) (M 78 6)))) (14 * (M 78 9) + 2 + (clS R0 (M 78 9) s0 3 (dgV (M 82) (M 78 6))) (14 * (M 78 9) + 1)) 0) (14 * (M 78 9) + 1) ((clS R0 (M 78 9) s0 3 (dgV (M 82) (M 78 6))) (14 * (M 78 9) + 1) + 1))) 78 (up (up (M 78) 6 (M 78 6 + 3)) 7 (M 78 6 + 3))) from (by
                      funext j
                      by_cases hj0 : j = 83
                      · subst hj0; simp [up1, up1_self]
                      by_cases hj1 : j = 78
                      · subst hj1; simp [up1, up1_self]
                      simp [up1, hj0, hj1])]
                rw [show ((up1 (up1 M 83 (up (up ((clS R0 (M 78 9) s0 3 (dgV (M 82) (M 78 6)))) (14 * (M 78 9) + 2 + (clS R0 (M 78 9) s0 3 (dgV (M 82) (M 78 6))) (14 * (M 78 9) + 1)) 0) (14 * (M 78 9) + 1) ((clS R0 (M 78 9) s0 3 (dgV (M 82) (M 78 6))) (14 * (M 78 9) + 1) + 1))) 78 (up (up (M 78) 6 (M 78 6 + 3)) 7 (M 78 6 + 3))) : Mem) = (up1 (up1 M 83 (clS R0 (M 78 9) s0 4 (up (dgV (M 82) (M 78 6)) 3 0))) 78 (up (up (M 78) 6 (M 78 6 + 3)) 7 (M 78 6 + 3))) from (by rw [clS_tl _ _ _ _ _ _ (by decide)]; rfl)]
                refine v_goto (tgt := 8) ok dX10_readsDigits_47 (by decide) ?_
                refine v_aload_n ok 1 dX10_readsDigits_8 rfl rfl ?_
                refine v_get (T := TX10) (N := 22) (f0 := (up (up (M 78) 6 (M 78 6 + 3)) 7 (M 78 6 + 3))) (v := rf g 83) ok mi_X10_readsDigits_10 (kd_lt (show kd 78 = 10 from rfl) (by decide)) rfl rfl (cellF_10 _ (by decide)) 8 (by decide) mk_X10_readsDigits_24 rfl rfl dX10_readsDigits_9 ?_
                refine v_iload_n ok 0 dX10_readsDigits_12 rfl rfl ?_
                refine v_iconst (n := 1) ok dX10_readsDigits_13 ?_
                refine v_iadd ok dX10_readsDigits_14 ?_
                refine v_iald (n := 168) (f0 := (clS R0 (M 78 9) s0 4 (up (dgV (M 82) (M 78 6)) 3 0))) ok (by decide) rfl (by omega) rfl dX10_readsDigits_15 ?_
                rw [show (((clS R0 (M 78 9) s0 4 (up (dgV (M 82) (M 78 6)) 3 0)) ((14 * (M 78 9)) + 1)) : Int) = 4 from (clS_1 _ _ _ _ _)]
                refine v_iload_n ok 2 dX10_readsDigits_16 rfl rfl ?_
                refine v_icmp_lt (tgt := 39) ok (by decide) (by decide) dX10_readsDigits_17 (by decide) (fun c112 => absurd c112 (by decide)) (fun c112 => ?_)
                refine v_aload_n ok 1 dX10_readsDigits_20 rfl rfl ?_
                refine v_callV (na := 0) (i := 78) (C := RX10) (T := TX10) (N := 22) (f0 := (up (up (M 78) 6 (M 78 6 + 3)) 7 (M 78 6 + 3))) ok (ct_X10_isDigit z.2.1 g (up1 (up1 M 83 (clS R0 (M 78 9) s0 4 (up (dgV (M 82) (M 78 6)) 3 0))) 78 (up (up (M 78) 6 (M 78 6 + 3)) 7 (M 78 6 + 3)))  (by show 0 ≤ (M 78 5) ∧ (M 78 5) ≤ 100; first | omega | assumption) (by show 0 ≤ (M 78 6 + 3) ∧ (M 78 6 + 3) ≤ 100; first | omega | assumption) (by show -1 ≤ (M 78 6 + 3) ∧ (M 78 6 + 3) ≤ 1000; first | omega | assumption) (by show bdf ((M 82)) 100 0 127; first | omega | assumption)) gX10_readsDigits_X10_isDigit (kd_lt (show kd 78 = 10 from rfl) (by decide)) rfl rfl (cellF_10 _ (by decide)) rfl (by decide +kernel) rfl (by decide) [] rfl (Nat.le_of_ble_eq_true rfl) dX10_readsDigits_21 (fun v114 M115 hp113 => ?_)
                rcases hp113 with ⟨rfl, rfl, h116⟩ | ⟨rfl, rfl, h117⟩
                · skip
                  have h116 : (M 78 6 + 3) < 0 ∧ dig ((M 82)) ((M 78 5)) ((M 78 6 + 3)) := h116
                  show V z g 4 (up1 (up1 M 83 (clS R0 (M 78 9) s0 4 (up (dgV (M 82) (M 78 6)) 3 0))) 78 (up (up (M 78) 6 (M 78 6 + 3)) 7 (M 78 6 + 3))) [(3, iv (14 * (M 78 9))), (0, rf g 78), (1, iv 1), (2, iv 5)] [iv 1] 24
                  exfalso; omega
                · skip
                  have h117 : ¬ ((M 78 6 + 3) < 0 ∧ dig ((M 82)) ((M 78 5)) ((M 78 6 + 3))) := h117
                  show V z g 4 (up1 (up1 M 83 (clS R0 (M 78 9) s0 4 (up (dgV (M 82) (M 78 6)) 3 0))) 78 (up (up (M 78) 6 (M 78 6 + 3)) 7 (M 78 6 + 3))) [(3, iv (14 * (M 78 9))), (0, rf g 78), (1, iv 1), (2, iv 5)] [iv 0] 24
                  refine v_if_eq (tgt := 50) ok (by decide) dX10_readsDigits_24 (by decide) (fun c118 => ?_) (fun c118 => absurd c118 (by decide))
                  rw [show ((up1 (up1 M 83 (clS R0 (M 78 9) s0 4 (up (dgV (M 82) (M 78 6)) 3 0))) 78 (up (up (M 78) 6 (M 78 6 + 3)) 7 (M 78 6 + 3))) : Mem) = (up1 (up1 M 83 (clS R0 (M 78 9) s0 4 (up (dgV (M 82) (M 78 6)) 3 0))) 78 (up (up (M 78) 6 (M 78 6 + (dgs (M 82) (M 78 5) 5 (M 78 6)))) 7 (M 78 6 + (dgs (M 82) (M 78 5) 5 (M 78 6))))) from (by rw [hDf])]
                  exact v_vret ok rt dX10_readsDigits_50 (Or.inr (⟨(clS R0 (M 78 9) s0 4 (up (dgV (M 82) (M 78 6)) 3 0)), rfl, rfl, (by omega)⟩))
              · skip
                have h66 : ¬ (M 78 7) < 0 := h66
                show V z g 4 (up1 (up1 (up1 M 83 (clS R0 (M 78 9) s0 3 (dgV (M 82) (M 78 6)))) 78 (up (M 78) 6 (M 78 6 + 3))) 78 (up ((up (M 78) 6 (M 78 6 + 3))) 7 ((M 78 7)))) [(3, iv (14 * (M 78 9))), (0, rf g 78), (1, iv 1), (2, iv 5)] [iv 0, rf g 78] 44
                rw [show ((up1 (up1 (up1 M 83 (clS R0 (M 78 9) s0 3 (dgV (M 82) (M 78 6)))) 78 (up (M 78) 6 (M 78 6 + 3))) 78 (up ((up (M 78) 6 (M 78 6 + 3))) 7 ((M 78 7)))) : Mem) = (up1 (up1 M 83 (clS R0 (M 78 9) s0 3 (dgV (M 82) (M 78 6)))) 78 (up ((up (M 78) 6 (M 78 6 + 3))) 7 ((M 78 7)))) from (by
                      funext j
                      by_cases hj0 : j = 83
                      · subst hj0; simp [up1, up1_self]
                      by_cases hj1 : j = 78
                      · subst hj1; simp [up1, up1_self]
                      simp [up1, hj0, hj1])]
                exfalso; omega
            · skip
              have h56 : ¬ ((M 78 7) < 0 ∧ dig ((M 82)) ((M 78 5)) ((M 78 6 + 3))) := h56
              show V z g 4 (up1 (up1 M 83 (clS R0 (M 78 9) s0 3 (dgV (M 82) (M 78 6)))) 78 (up (M 78) 6 (M 78 6 + 3))) [(3, iv (14 * (M 78 9))), (0, rf g 78), (1, iv 1), (2, iv 5)] [iv 0] 24
              refine v_if_eq (tgt := 50) ok (by decide) dX10_readsDigits_24 (by decide) (fun c119 => ?_) (fun c119 => absurd c119 (by decide))
              have hDe : (dgs (M 82) (M 78 5) 5 (M 78 6)) = 3 := by rw [hD3, dg_n (by omega)]; rfl
              rw [show ((up1 (up1 M 83 (clS R0 (M 78 9) s0 3 (dgV (M 82) (M 78 6)))) 78 (up (M 78) 6 (M 78 6 + 3))) : Mem) = (up1 (up1 M 83 (clS R0 (M 78 9) s0 (dgs (M 82) (M 78 5) 5 (M 78 6)) (dgV (M 82) (M 78 6)))) 78 (up (M 78) 6 (M 78 6 + (dgs (M 82) (M 78 5) 5 (M 78 6))))) from (by rw [hDe])]
              exact v_vret ok rt dX10_readsDigits_50 (Or.inl (⟨rfl, rfl, (by omega)⟩))
          · skip
            have h45 : (M 78 7) < 0 := h45
            have h46 : ¬ dig ((M 82)) ((M 78 5)) ((M 78 6 + 2)) := h46
            show V z g 4 (up1 (up1 (up1 M 83 (clS R0 (M 78 9) s0 2 (dgV (M 82) (M 78 6)))) 78 (up (M 78) 6 (M 78 6 + 2))) 78 (up ((up (M 78) 6 (M 78 6 + 2))) 7 ((M 78 6 + 2)))) [(3, iv (14 * (M 78 9))), (0, rf g 78), (1, iv 1), (2, iv 5)] [iv 0, rf g 78] 44
            rw [show ((up1 (up1 (up1 M 83 (clS R0 (M 78 9) s0 2 (dgV (M 82) (M 78 6)))) 78 (up (M 78) 6 (M 78 6 + 2))) 78 (up ((up (M 78) 6 (M 78 6 + 2))) 7 ((M 78 6 + 2)))) : Mem) = (up1 (up1 M 83 (clS R0 (M 78 9) s0 2 (dgV (M 82) (M 78 6)))) 78 (up ((up (M 78) 6 (M 78 6 + 2))) 7 ((M 78 6 + 2)))) from (by
                  funext j
                  by_cases hj0 : j = 83
                  · subst hj0; simp [up1, up1_self]
                  by_cases hj1 : j = 78
                  · subst hj1; simp [up1, up1_self]
                  simp [up1, hj0, hj1])]
            have hDf : (dgs (M 82) (M 78 5) 5 (M 78 6)) = 2 := by rw [hD2, dg_n (by omega)]; rfl
            rw [show ((up1 (up1 M 83 (clS R0 (M 78 9) s0 2 (dgV (M 82) (M 78 6)))) 78 (up ((up (M 78) 6 (M 78 6 + 2))) 7 ((M 78 6 + 2)))) : Mem) = (up1 (up1 M 83 (clS R0 (M 78 9) s0 2 (dgV (M 82) (M 78 6)))) 78 (up (up (M 78) 6 (M 78 6 + 2)) 7 (M 78 6 + 2))) from rfl]
            have hn9 : 0 ≤ clS R0 (M 78 9) s0 2 (dgV (M 82) (M 78 6)) (14 * M 78 9 + 1) ∧ clS R0 (M 78 9) s0 2 (dgV (M 82) (M 78 6)) (14 * M 78 9 + 1) ≤ 11 := by rw [clS_1]; omega
            refine v_callV (na := 1) (i := 78) (C := RX10) (T := TX10) (N := 22) (f0 := (up (up (M 78) 6 (M 78 6 + 2)) 7 (M 78 6 + 2))) ok (ct_X10_tells z.2.1 g (up1 (up1 M 83 (clS R0 (M 78 9) s0 2 (dgV (M 82) (M 78 6)))) 78 (up (up (M 78) 6 (M 78 6 + 2)) 7 (M 78 6 + 2))) 0 (by show 0 ≤ (M 78 9) ∧ (M 78 9) ≤ 11; first | omega | assumption) hn9) gX10_readsDigits_X10_tells (kd_lt (show kd 78 = 10 from rfl) (by decide)) rfl rfl (cellF_10 _ (by decide)) rfl (by decide +kernel) rfl (by decide) [] rfl (Nat.le_of_ble_eq_true rfl) dX10_readsDigits_44 (fun v121 M122 hp120 => ?_)
            obtain ⟨rfl, rfl⟩ := hp120
            show V z g 4 (up1 (up1 (up1 M 83 (clS R0 (M 78 9) s0 2 (dgV (M 82) (M 78 6)))) 78 (up (up (M 78) 6 (M 78 6 + 2)) 7 (M 78 6 + 2))) 83 (up (up ((clS R0 (M 78 9) s0 2 (dgV (M 82) (M 78 6)))) (14 * (M 78 9) + 2 + (clS R0 (M 78 9) s0 2 (dgV (M 82) (M 78 6))) (14 * (M 78 9) + 1)) 0) (14 * (M 78 9) + 1) ((clS R0 (M 78 9) s0 2 (dgV (M 82) (M 78 6))) (14 * (M 78 9) + 1) + 1))) [(3, iv (14 * (M 78 9))), (0, rf g 78), (1, iv 1), (2, iv 5)] [] 47
            rw [show ((up1 (up1 (up1 M 83 (clS R0 (M 78 9) s0 2 (dgV (M 82) (M 78 6)))) 78 (up (up (M 78) 6 (M 78 6 + 2)) 7 (M 78 6 + 2))) 83 (up (up ((clS R0 (M 78 9) s0 2 (dgV (M 82) (M 78 6)))) (14 * (M 78 9) + 2 + (clS R0 (M 78 9) s0 2 (dgV (M 82) (M 78 6))) (14 * (M 78 9) + 1)) 0) (14 * (M 78 9) + 1) ((clS R0 (M 78 9) s0 2 (dgV (M 82) (M 78 6))) (14 * (M 78 9) + 1) + 1))) : Mem) = (up1 (up1 M 83 (up (up ((clS R0 (M 78 9) s0 2 (dgV (M 82) (M 78 6)))) (14 * (M 78 9) + 2 + (clS R0 (M 78 9) s0 2 (dgV (M 82) (M 78 6))) (14 * (M 78 9) + 1)) 0) (14 * (M 78 9) + 1) ((clS R0 (M 78 9) s0 2 (dgV (M 82) (M 78 6))) (14 * (M 78 9) + 1) + 1))) 78 (up (up (M 78) 6 (M 78 6 + 2)) 7 (M 78 6 + 2))) from (by
                  funext j
                  by_cases hj0 : j = 83
                  · subst hj0; simp [up1, up1_self]
                  by_cases hj1 : j = 78
                  · subst hj1; simp [up1, up1_self]
                  simp [up1, hj0, hj1])]
            rw [show ((up1 (up1 M 83 (up (up ((clS R0 (M 78 9) s0 2 (dgV (M 82) (M 78 6)))) (14 * (M 78 9) + 2 + (clS R0 (M 78 9) s0 2 (dgV (M 82) (M 78 6))) (14 * (M 78 9) + 1)) 0) (14 * (M 78 9) + 1) ((clS R0 (M 78 9) s0 2 (dgV (M 82) (M 78 6))) (14 * (M 78 9) + 1) + 1))) 78 (up (up (M 78) 6 (M 78 6 + 2)) 7 (M 78 6 + 2))) : Mem) = (up1 (up1 M 83 (clS R0 (M 78 9) s0 3 (up (dgV (M 82) (M 78 6)) 2 0))) 78 (up (up (M 78) 6 (M 78 6 + 2)) 7 (M 78 6 + 2))) from (by rw [clS_tl _ _ _ _ _ _ (by decide)]; rfl)]
            refine v_goto (tgt := 8) ok dX10_readsDigits_47 (by decide) ?_
            refine v_aload_n ok 1 dX10_readsDigits_8 rfl rfl ?_
            refine v_get (T := TX10) (N := 22) (f0 := (up (up (M 78) 6 (M 78 6 + 2)) 7 (M 78 6 + 2))) (v := rf g 83) ok mi_X10_readsDigits_10 (kd_lt (show kd 78 = 10 from rfl) (by decide)) rfl rfl (cellF_10 _ (by decide)) 8 (by decide) mk_X10_readsDigits_24 rfl rfl dX10_readsDigits_9 ?_
            refine v_iload_n ok 0 dX10_readsDigits_12 rfl rfl ?_
            refine v_iconst (n := 1) ok dX10_readsDigits_13 ?_
            refine v_iadd ok dX10_readsDigits_14 ?_
            refine v_iald (n := 168) (f0 := (clS R0 (M 78 9) s0 3 (up (dgV (M 82) (M 78 6)) 2 0))) ok (by decide) rfl (by omega) rfl dX10_readsDigits_15 ?_
            rw [show (((clS R0 (M 78 9) s0 3 (up (dgV (M 82) (M 78 6)) 2 0)) ((14 * (M 78 9)) + 1)) : Int) = 3 from (clS_1 _ _ _ _ _)]
            refine v_iload_n ok 2 dX10_readsDigits_16 rfl rfl ?_
            refine v_icmp_lt (tgt := 39) ok (by decide) (by decide) dX10_readsDigits_17 (by decide) (fun c123 => absurd c123 (by decide)) (fun c123 => ?_)
            refine v_aload_n ok 1 dX10_readsDigits_20 rfl rfl ?_
            refine v_callV (na := 0) (i := 78) (C := RX10) (T := TX10) (N := 22) (f0 := (up (up (M 78) 6 (M 78 6 + 2)) 7 (M 78 6 + 2))) ok (ct_X10_isDigit z.2.1 g (up1 (up1 M 83 (clS R0 (M 78 9) s0 3 (up (dgV (M 82) (M 78 6)) 2 0))) 78 (up (up (M 78) 6 (M 78 6 + 2)) 7 (M 78 6 + 2)))  (by show 0 ≤ (M 78 5) ∧ (M 78 5) ≤ 100; first | omega | assumption) (by show 0 ≤ (M 78 6 + 2) ∧ (M 78 6 + 2) ≤ 100; first | omega | assumption) (by show -1 ≤ (M 78 6 + 2) ∧ (M 78 6 + 2) ≤ 1000; first | omega | assumption) (by show bdf ((M 82)) 100 0 127; first | omega | assumption)) gX10_readsDigits_X10_isDigit (kd_lt (show kd 78 = 10 from rfl) (by decide)) rfl rfl (cellF_10 _ (by decide)) rfl (by decide +kernel) rfl (by decide) [] rfl (Nat.le_of_ble_eq_true rfl) dX10_readsDigits_21 (fun v125 M126 hp124 => ?_)
            rcases hp124 with ⟨rfl, rfl, h127⟩ | ⟨rfl, rfl, h128⟩
            · skip
              have h127 : (M 78 6 + 2) < 0 ∧ dig ((M 82)) ((M 78 5)) ((M 78 6 + 2)) := h127
              show V z g 4 (up1 (up1 M 83 (clS R0 (M 78 9) s0 3 (up (dgV (M 82) (M 78 6)) 2 0))) 78 (up (up (M 78) 6 (M 78 6 + 2)) 7 (M 78 6 + 2))) [(3, iv (14 * (M 78 9))), (0, rf g 78), (1, iv 1), (2, iv 5)] [iv 1] 24
              exfalso; omega
            · skip
              have h128 : ¬ ((M 78 6 + 2) < 0 ∧ dig ((M 82)) ((M 78 5)) ((M 78 6 + 2))) := h128
              show V z g 4 (up1 (up1 M 83 (clS R0 (M 78 9) s0 3 (up (dgV (M 82) (M 78 6)) 2 0))) 78 (up (up (M 78) 6 (M 78 6 + 2)) 7 (M 78 6 + 2))) [(3, iv (14 * (M 78 9))), (0, rf g 78), (1, iv 1), (2, iv 5)] [iv 0] 24
              refine v_if_eq (tgt := 50) ok (by decide) dX10_readsDigits_24 (by decide) (fun c129 => ?_) (fun c129 => absurd c129 (by decide))
              rw [show ((up1 (up1 M 83 (clS R0 (M 78 9) s0 3 (up (dgV (M 82) (M 78 6)) 2 0))) 78 (up (up (M 78) 6 (M 78 6 + 2)) 7 (M 78 6 + 2))) : Mem) = (up1 (up1 M 83 (clS R0 (M 78 9) s0 3 (up (dgV (M 82) (M 78 6)) 2 0))) 78 (up (up (M 78) 6 (M 78 6 + (dgs (M 82) (M 78 5) 5 (M 78 6)))) 7 (M 78 6 + (dgs (M 82) (M 78 5) 5 (M 78 6))))) from (by rw [hDf])]
              exact v_vret ok rt dX10_readsDigits_50 (Or.inr (⟨(clS R0 (M 78 9) s0 3 (up (dgV (M 82) (M 78 6)) 2 0)), rfl, rfl, (by omega)⟩))
          · skip
            have h47 : ¬ (M 78 7) < 0 := h47
            show V z g 4 (up1 (up1 (up1 M 83 (clS R0 (M 78 9) s0 2 (dgV (M 82) (M 78 6)))) 78 (up (M 78) 6 (M 78 6 + 2))) 78 (up ((up (M 78) 6 (M 78 6 + 2))) 7 ((M 78 7)))) [(3, iv (14 * (M 78 9))), (0, rf g 78), (1, iv 1), (2, iv 5)] [iv 0, rf g 78] 44
            rw [show ((up1 (up1 (up1 M 83 (clS R0 (M 78 9) s0 2 (dgV (M 82) (M 78 6)))) 78 (up (M 78) 6 (M 78 6 + 2))) 78 (up ((up (M 78) 6 (M 78 6 + 2))) 7 ((M 78 7)))) : Mem) = (up1 (up1 M 83 (clS R0 (M 78 9) s0 2 (dgV (M 82) (M 78 6)))) 78 (up ((up (M 78) 6 (M 78 6 + 2))) 7 ((M 78 7)))) from (by
                  funext j
                  by_cases hj0 : j = 83
                  · subst hj0; simp [up1, up1_self]
                  by_cases hj1 : j = 78
                  · subst hj1; simp [up1, up1_self]
                  simp [up1, hj0, hj1])]
            exfalso; omega
        · skip
          have h37 : ¬ ((M 78 7) < 0 ∧ dig ((M 82)) ((M 78 5)) ((M 78 6 + 2))) := h37
          show V z g 4 (up1 (up1 M 83 (clS R0 (M 78 9) s0 2 (dgV (M 82) (M 78 6)))) 78 (up (M 78) 6 (M 78 6 + 2))) [(3, iv (14 * (M 78 9))), (0, rf g 78), (1, iv 1), (2, iv 5)] [iv 0] 24
          refine v_if_eq (tgt := 50) ok (by decide) dX10_readsDigits_24 (by decide) (fun c130 => ?_) (fun c130 => absurd c130 (by decide))
          have hDe : (dgs (M 82) (M 78 5) 5 (M 78 6)) = 2 := by rw [hD2, dg_n (by omega)]; rfl
          rw [show ((up1 (up1 M 83 (clS R0 (M 78 9) s0 2 (dgV (M 82) (M 78 6)))) 78 (up (M 78) 6 (M 78 6 + 2))) : Mem) = (up1 (up1 M 83 (clS R0 (M 78 9) s0 (dgs (M 82) (M 78 5) 5 (M 78 6)) (dgV (M 82) (M 78 6)))) 78 (up (M 78) 6 (M 78 6 + (dgs (M 82) (M 78 5) 5 (M 78 6))))) from (by rw [hDe])]
          exact v_vret ok rt dX10_readsDigits_50 (Or.inl (⟨rfl, rfl, (by omega)⟩))
      · skip
        have h26 : (M 78 7) < 0 := h26
        have h27 : ¬ dig ((M 82)) ((M 78 5)) ((M 78 6 + 1)) := h27
        show V z g 4 (up1 (up1 (up1 M 83 (clS R0 (M 78 9) s0 1 (dgV (M 82) (M 78 6)))) 78 (up (M 78) 6 (M 78 6 + 1))) 78 (up ((up (M 78) 6 (M 78 6 + 1))) 7 ((M 78 6 + 1)))) [(3, iv (14 * (M 78 9))), (0, rf g 78), (1, iv 1), (2, iv 5)] [iv 0, rf g 78] 44
        rw [show ((up1 (up1 (up1 M 83 (clS R0 (M 78 9) s0 1 (dgV (M 82) (M 78 6)))) 78 (up (M 78) 6 (M 78 6 + 1))) 78 (up ((up (M 78) 6 (M 78 6 + 1))) 7 ((M 78 6 + 1)))) : Mem) = (up1 (up1 M 83 (clS R0 (M 78 9) s0 1 (dgV (M 82) (M 78 6)))) 78 (up ((up (M 78) 6 (M 78 6 + 1))) 7 ((M 78 6 + 1)))) from (by
              funext j
              by_cases hj0 : j = 83
              · subst hj0; simp [up1, up1_self]
              by_cases hj1 : j = 78
              · subst hj1; simp [up1, up1_self]
              simp [up1, hj0, hj1])]
        have hDf : (dgs (M 82) (M 78 5) 5 (M 78 6)) = 1 := by rw [hD1, dg_n (by omega)]; rfl
        rw [show ((up1 (up1 M 83 (clS R0 (M 78 9) s0 1 (dgV (M 82) (M 78 6)))) 78 (up ((up (M 78) 6 (M 78 6 + 1))) 7 ((M 78 6 + 1)))) : Mem) = (up1 (up1 M 83 (clS R0 (M 78 9) s0 1 (dgV (M 82) (M 78 6)))) 78 (up (up (M 78) 6 (M 78 6 + 1)) 7 (M 78 6 + 1))) from rfl]
        have hn9 : 0 ≤ clS R0 (M 78 9) s0 1 (dgV (M 82) (M 78 6)) (14 * M 78 9 + 1) ∧ clS R0 (M 78 9) s0 1 (dgV (M 82) (M 78 6)) (14 * M 78 9 + 1) ≤ 11 := by rw [clS_1]; omega
        refine v_callV (na := 1) (i := 78) (C := RX10) (T := TX10) (N := 22) (f0 := (up (up (M 78) 6 (M 78 6 + 1)) 7 (M 78 6 + 1))) ok (ct_X10_tells z.2.1 g (up1 (up1 M 83 (clS R0 (M 78 9) s0 1 (dgV (M 82) (M 78 6)))) 78 (up (up (M 78) 6 (M 78 6 + 1)) 7 (M 78 6 + 1))) 0 (by show 0 ≤ (M 78 9) ∧ (M 78 9) ≤ 11; first | omega | assumption) hn9) gX10_readsDigits_X10_tells (kd_lt (show kd 78 = 10 from rfl) (by decide)) rfl rfl (cellF_10 _ (by decide)) rfl (by decide +kernel) rfl (by decide) [] rfl (Nat.le_of_ble_eq_true rfl) dX10_readsDigits_44 (fun v132 M133 hp131 => ?_)
        obtain ⟨rfl, rfl⟩ := hp131
        show V z g 4 (up1 (up1 (up1 M 83 (clS R0 (M 78 9) s0 1 (dgV (M 82) (M 78 6)))) 78 (up (up (M 78) 6 (M 78 6 + 1)) 7 (M 78 6 + 1))) 83 (up (up ((clS R0 (M 78 9) s0 1 (dgV (M 82) (M 78 6)))) (14 * (M 78 9) + 2 + (clS R0 (M 78 9) s0 1 (dgV (M 82) (M 78 6))) (14 * (M 78 9) + 1)) 0) (14 * (M 78 9) + 1) ((clS R0 (M 78 9) s0 1 (dgV (M 82) (M 78 6))) (14 * (M 78 9) + 1) + 1))) [(3, iv (14 * (M 78 9))), (0, rf g 78), (1, iv 1), (2, iv 5)] [] 47
        rw [show ((up1 (up1 (up1 M 83 (clS R0 (M 78 9) s0 1 (dgV (M 82) (M 78 6)))) 78 (up (up (M 78) 6 (M 78 6 + 1)) 7 (M 78 6 + 1))) 83 (up (up ((clS R0 (M 78 9) s0 1 (dgV (M 82) (M 78 6)))) (14 * (M 78 9) + 2 + (clS R0 (M 78 9) s0 1 (dgV (M 82) (M 78 6))) (14 * (M 78 9) + 1)) 0) (14 * (M 78 9) + 1) ((clS R0 (M 78 9) s0 1 (dgV (M 82) (M 78 6))) (14 * (M 78 9) + 1) + 1))) : Mem) = (up1 (up1 M 83 (up (up ((clS R0 (M 78 9) s0 1 (dgV (M 82) (M 78 6)))) (14 * (M 78 9) + 2 + (clS R0 (M 78 9) s0 1 (dgV (M 82) (M 78 6))) (14 * (M 78 9) + 1)) 0) (14 * (M 78 9) + 1) ((clS R0 (M 78 9) s0 1 (dgV (M 82) (M 78 6))) (14 * (M 78 9) + 1) + 1))) 78 (up (up (M 78) 6 (M 78 6 + 1)) 7 (M 78 6 + 1))) from (by
              funext j
              by_cases hj0 : j = 83
              · subst hj0; simp [up1, up1_self]
              by_cases hj1 : j = 78
              · subst hj1; simp [up1, up1_self]
              simp [up1, hj0, hj1])]
        rw [show ((up1 (up1 M 83 (up (up ((clS R0 (M 78 9) s0 1 (dgV (M 82) (M 78 6)))) (14 * (M 78 9) + 2 + (clS R0 (M 78 9) s0 1 (dgV (M 82) (M 78 6))) (14 * (M 78 9) + 1)) 0) (14 * (M 78 9) + 1) ((clS R0 (M 78 9) s0 1 (dgV (M 82) (M 78 6))) (14 * (M 78 9) + 1) + 1))) 78 (up (up (M 78) 6 (M 78 6 + 1)) 7 (M 78 6 + 1))) : Mem) = (up1 (up1 M 83 (clS R0 (M 78 9) s0 2 (up (dgV (M 82) (M 78 6)) 1 0))) 78 (up (up (M 78) 6 (M 78 6 + 1)) 7 (M 78 6 + 1))) from (by rw [clS_tl _ _ _ _ _ _ (by decide)]; rfl)]
        refine v_goto (tgt := 8) ok dX10_readsDigits_47 (by decide) ?_
        refine v_aload_n ok 1 dX10_readsDigits_8 rfl rfl ?_
        refine v_get (T := TX10) (N := 22) (f0 := (up (up (M 78) 6 (M 78 6 + 1)) 7 (M 78 6 + 1))) (v := rf g 83) ok mi_X10_readsDigits_10 (kd_lt (show kd 78 = 10 from rfl) (by decide)) rfl rfl (cellF_10 _ (by decide)) 8 (by decide) mk_X10_readsDigits_24 rfl rfl dX10_readsDigits_9 ?_
        refine v_iload_n ok 0 dX10_readsDigits_12 rfl rfl ?_
        refine v_iconst (n := 1) ok dX10_readsDigits_13 ?_
        refine v_iadd ok dX10_readsDigits_14 ?_
        refine v_iald (n := 168) (f0 := (clS R0 (M 78 9) s0 2 (up (dgV (M 82) (M 78 6)) 1 0))) ok (by decide) rfl (by omega) rfl dX10_readsDigits_15 ?_
        rw [show (((clS R0 (M 78 9) s0 2 (up (dgV (M 82) (M 78 6)) 1 0)) ((14 * (M 78 9)) + 1)) : Int) = 2 from (clS_1 _ _ _ _ _)]
        refine v_iload_n ok 2 dX10_readsDigits_16 rfl rfl ?_
        refine v_icmp_lt (tgt := 39) ok (by decide) (by decide) dX10_readsDigits_17 (by decide) (fun c134 => absurd c134 (by decide)) (fun c134 => ?_)
        refine v_aload_n ok 1 dX10_readsDigits_20 rfl rfl ?_
        refine v_callV (na := 0) (i := 78) (C := RX10) (T := TX10) (N := 22) (f0 := (up (up (M 78) 6 (M 78 6 + 1)) 7 (M 78 6 + 1))) ok (ct_X10_isDigit z.2.1 g (up1 (up1 M 83 (clS R0 (M 78 9) s0 2 (up (dgV (M 82) (M 78 6)) 1 0))) 78 (up (up (M 78) 6 (M 78 6 + 1)) 7 (M 78 6 + 1)))  (by show 0 ≤ (M 78 5) ∧ (M 78 5) ≤ 100; first | omega | assumption) (by show 0 ≤ (M 78 6 + 1) ∧ (M 78 6 + 1) ≤ 100; first | omega | assumption) (by show -1 ≤ (M 78 6 + 1) ∧ (M 78 6 + 1) ≤ 1000; first | omega | assumption) (by show bdf ((M 82)) 100 0 127; first | omega | assumption)) gX10_readsDigits_X10_isDigit (kd_lt (show kd 78 = 10 from rfl) (by decide)) rfl rfl (cellF_10 _ (by decide)) rfl (by decide +kernel) rfl (by decide) [] rfl (Nat.le_of_ble_eq_true rfl) dX10_readsDigits_21 (fun v136 M137 hp135 => ?_)
        rcases hp135 with ⟨rfl, rfl, h138⟩ | ⟨rfl, rfl, h139⟩
        · skip
          have h138 : (M 78 6 + 1) < 0 ∧ dig ((M 82)) ((M 78 5)) ((M 78 6 + 1)) := h138
          show V z g 4 (up1 (up1 M 83 (clS R0 (M 78 9) s0 2 (up (dgV (M 82) (M 78 6)) 1 0))) 78 (up (up (M 78) 6 (M 78 6 + 1)) 7 (M 78 6 + 1))) [(3, iv (14 * (M 78 9))), (0, rf g 78), (1, iv 1), (2, iv 5)] [iv 1] 24
          exfalso; omega
        · skip
          have h139 : ¬ ((M 78 6 + 1) < 0 ∧ dig ((M 82)) ((M 78 5)) ((M 78 6 + 1))) := h139
          show V z g 4 (up1 (up1 M 83 (clS R0 (M 78 9) s0 2 (up (dgV (M 82) (M 78 6)) 1 0))) 78 (up (up (M 78) 6 (M 78 6 + 1)) 7 (M 78 6 + 1))) [(3, iv (14 * (M 78 9))), (0, rf g 78), (1, iv 1), (2, iv 5)] [iv 0] 24
          refine v_if_eq (tgt := 50) ok (by decide) dX10_readsDigits_24 (by decide) (fun c140 => ?_) (fun c140 => absurd c140 (by decide))
          rw [show ((up1 (up1 M 83 (clS R0 (M 78 9) s0 2 (up (dgV (M 82) (M 78 6)) 1 0))) 78 (up (up (M 78) 6 (M 78 6 + 1)) 7 (M 78 6 + 1))) : Mem) = (up1 (up1 M 83 (clS R0 (M 78 9) s0 2 (up (dgV (M 82) (M 78 6)) 1 0))) 78 (up (up (M 78) 6 (M 78 6 + (dgs (M 82) (M 78 5) 5 (M 78 6)))) 7 (M 78 6 + (dgs (M 82) (M 78 5) 5 (M 78 6))))) from (by rw [hDf])]
          exact v_vret ok rt dX10_readsDigits_50 (Or.inr (⟨(clS R0 (M 78 9) s0 2 (up (dgV (M 82) (M 78 6)) 1 0)), rfl, rfl, (by omega)⟩))
      · skip
        have h28 : ¬ (M 78 7) < 0 := h28
        show V z g 4 (up1 (up1 (up1 M 83 (clS R0 (M 78 9) s0 1 (dgV (M 82) (M 78 6)))) 78 (up (M 78) 6 (M 78 6 + 1))) 78 (up ((up (M 78) 6 (M 78 6 + 1))) 7 ((M 78 7)))) [(3, iv (14 * (M 78 9))), (0, rf g 78), (1, iv 1), (2, iv 5)] [iv 0, rf g 78] 44
        rw [show ((up1 (up1 (up1 M 83 (clS R0 (M 78 9) s0 1 (dgV (M 82) (M 78 6)))) 78 (up (M 78) 6 (M 78 6 + 1))) 78 (up ((up (M 78) 6 (M 78 6 + 1))) 7 ((M 78 7)))) : Mem) = (up1 (up1 M 83 (clS R0 (M 78 9) s0 1 (dgV (M 82) (M 78 6)))) 78 (up ((up (M 78) 6 (M 78 6 + 1))) 7 ((M 78 7)))) from (by
              funext j
              by_cases hj0 : j = 83
              · subst hj0; simp [up1, up1_self]
              by_cases hj1 : j = 78
              · subst hj1; simp [up1, up1_self]
              simp [up1, hj0, hj1])]
        exfalso; omega
    · skip
      have h18 : ¬ ((M 78 7) < 0 ∧ dig ((M 82)) ((M 78 5)) ((M 78 6 + 1))) := h18
      show V z g 4 (up1 (up1 M 83 (clS R0 (M 78 9) s0 1 (dgV (M 82) (M 78 6)))) 78 (up (M 78) 6 (M 78 6 + 1))) [(3, iv (14 * (M 78 9))), (0, rf g 78), (1, iv 1), (2, iv 5)] [iv 0] 24
      refine v_if_eq (tgt := 50) ok (by decide) dX10_readsDigits_24 (by decide) (fun c141 => ?_) (fun c141 => absurd c141 (by decide))
      have hDe : (dgs (M 82) (M 78 5) 5 (M 78 6)) = 1 := by rw [hD1, dg_n (by omega)]; rfl
      rw [show ((up1 (up1 M 83 (clS R0 (M 78 9) s0 1 (dgV (M 82) (M 78 6)))) 78 (up (M 78) 6 (M 78 6 + 1))) : Mem) = (up1 (up1 M 83 (clS R0 (M 78 9) s0 (dgs (M 82) (M 78 5) 5 (M 78 6)) (dgV (M 82) (M 78 6)))) 78 (up (M 78) 6 (M 78 6 + (dgs (M 82) (M 78 5) 5 (M 78 6))))) from (by rw [hDe])]
      exact v_vret ok rt dX10_readsDigits_50 (Or.inl (⟨rfl, rfl, (by omega)⟩))
  · skip
    have h7 : (M 78) 7 < 0 := h7
    have h8 : ¬ dig ((M 82)) ((M 78) 5) ((M 78) 6) := h8
    show V z g 4 (up1 (up1 M 83 (clS R0 (M 78 9) s0 0 (dgV (M 82) (M 78 6)))) 78 (up ((M 78)) 7 ((M 78) 6))) [(3, iv (14 * (M 78 9))), (0, rf g 78), (1, iv 1), (2, iv 5)] [iv 0, rf g 78] 44
    have hDf : (dgs (M 82) (M 78 5) 5 (M 78 6)) = 0 := by rw [dg_n (by omega)]
    have hn9 : 0 ≤ clS R0 (M 78 9) s0 0 (dgV (M 82) (M 78 6)) (14 * M 78 9 + 1) ∧ clS R0 (M 78 9) s0 0 (dgV (M 82) (M 78 6)) (14 * M 78 9 + 1) ≤ 11 := by rw [clS_1]; omega
    refine v_callV (na := 1) (i := 78) (C := RX10) (T := TX10) (N := 22) (f0 := (up ((M 78)) 7 ((M 78) 6))) ok (ct_X10_tells z.2.1 g (up1 (up1 M 83 (clS R0 (M 78 9) s0 0 (dgV (M 82) (M 78 6)))) 78 (up ((M 78)) 7 ((M 78) 6))) 0 (by show 0 ≤ ((M 78) 9) ∧ ((M 78) 9) ≤ 11; first | omega | assumption) hn9) gX10_readsDigits_X10_tells (kd_lt (show kd 78 = 10 from rfl) (by decide)) rfl rfl (cellF_10 _ (by decide)) rfl (by decide +kernel) rfl (by decide) [] rfl (Nat.le_of_ble_eq_true rfl) dX10_readsDigits_44 (fun v143 M144 hp142 => ?_)
    obtain ⟨rfl, rfl⟩ := hp142
    show V z g 4 (up1 (up1 (up1 M 83 (clS R0 (M 78 9) s0 0 (dgV (M 82) (M 78 6)))) 78 (up ((M 78)) 7 ((M 78) 6))) 83 (up (up ((clS R0 (M 78 9) s0 0 (dgV (M 82) (M 78 6)))) (14 * ((M 78) 9) + 2 + (clS R0 (M 78 9) s0 0 (dgV (M 82) (M 78 6))) (14 * ((M 78) 9) + 1)) 0) (14 * ((M 78) 9) + 1) ((clS R0 (M 78 9) s0 0 (dgV (M 82) (M 78 6))) (14 * ((M 78) 9) + 1) + 1))) [(3, iv (14 * (M 78 9))), (0, rf g 78), (1, iv 1), (2, iv 5)] [] 47
    rw [show ((up1 (up1 (up1 M 83 (clS R0 (M 78 9) s0 0 (dgV (M 82) (M 78 6)))) 78 (up ((M 78)) 7 ((M 78) 6))) 83 (up (up ((clS R0 (M 78 9) s0 0 (dgV (M 82) (M 78 6)))) (14 * ((M 78) 9) + 2 + (clS R0 (M 78 9) s0 0 (dgV (M 82) (M 78 6))) (14 * ((M 78) 9) + 1)) 0) (14 * ((M 78) 9) + 1) ((clS R0 (M 78 9) s0 0 (dgV (M 82) (M 78 6))) (14 * ((M 78) 9) + 1) + 1))) : Mem) = (up1 (up1 M 83 (up (up ((clS R0 (M 78 9) s0 0 (dgV (M 82) (M 78 6)))) (14 * ((M 78) 9) + 2 + (clS R0 (M 78 9) s0 0 (dgV (M 82) (M 78 6))) (14 * ((M 78) 9) + 1)) 0) (14 * ((M 78) 9) + 1) ((clS R0 (M 78 9) s0 0 (dgV (M 82) (M 78 6))) (14 * ((M 78) 9) + 1) + 1))) 78 (up ((M 78)) 7 ((M 78) 6))) from (by
          funext j
          by_cases hj0 : j = 83
          · subst hj0; simp [up1, up1_self]
          by_cases hj1 : j = 78
          · subst hj1; simp [up1, up1_self]
          simp [up1, hj0, hj1])]
    rw [show ((up1 (up1 M 83 (up (up ((clS R0 (M 78 9) s0 0 (dgV (M 82) (M 78 6)))) (14 * ((M 78) 9) + 2 + (clS R0 (M 78 9) s0 0 (dgV (M 82) (M 78 6))) (14 * ((M 78) 9) + 1)) 0) (14 * ((M 78) 9) + 1) ((clS R0 (M 78 9) s0 0 (dgV (M 82) (M 78 6))) (14 * ((M 78) 9) + 1) + 1))) 78 (up ((M 78)) 7 ((M 78) 6))) : Mem) = (up1 (up1 M 83 (clS R0 (M 78 9) s0 1 (up (dgV (M 82) (M 78 6)) 0 0))) 78 (up ((M 78)) 7 ((M 78) 6))) from (by rw [clS_tl _ _ _ _ _ _ (by decide)]; rfl)]
    refine v_goto (tgt := 8) ok dX10_readsDigits_47 (by decide) ?_
    refine v_aload_n ok 1 dX10_readsDigits_8 rfl rfl ?_
    refine v_get (T := TX10) (N := 22) (f0 := (up ((M 78)) 7 ((M 78) 6))) (v := rf g 83) ok mi_X10_readsDigits_10 (kd_lt (show kd 78 = 10 from rfl) (by decide)) rfl rfl (cellF_10 _ (by decide)) 8 (by decide) mk_X10_readsDigits_24 rfl rfl dX10_readsDigits_9 ?_
    refine v_iload_n ok 0 dX10_readsDigits_12 rfl rfl ?_
    refine v_iconst (n := 1) ok dX10_readsDigits_13 ?_
    refine v_iadd ok dX10_readsDigits_14 ?_
    refine v_iald (n := 168) (f0 := (clS R0 (M 78 9) s0 1 (up (dgV (M 82) (M 78 6)) 0 0))) ok (by decide) rfl (by omega) rfl dX10_readsDigits_15 ?_
    rw [show (((clS R0 (M 78 9) s0 1 (up (dgV (M 82) (M 78 6)) 0 0)) ((14 * (M 78 9)) + 1)) : Int) = 1 from (clS_1 _ _ _ _ _)]
    refine v_iload_n ok 2 dX10_readsDigits_16 rfl rfl ?_
    refine v_icmp_lt (tgt := 39) ok (by decide) (by decide) dX10_readsDigits_17 (by decide) (fun c145 => absurd c145 (by decide)) (fun c145 => ?_)
    refine v_aload_n ok 1 dX10_readsDigits_20 rfl rfl ?_
    refine v_callV (na := 0) (i := 78) (C := RX10) (T := TX10) (N := 22) (f0 := (up ((M 78)) 7 ((M 78) 6))) ok (ct_X10_isDigit z.2.1 g (up1 (up1 M 83 (clS R0 (M 78 9) s0 1 (up (dgV (M 82) (M 78 6)) 0 0))) 78 (up ((M 78)) 7 ((M 78) 6)))  (by show 0 ≤ ((M 78) 5) ∧ ((M 78) 5) ≤ 100; first | omega | assumption) (by show 0 ≤ ((M 78) 6) ∧ ((M 78) 6) ≤ 100; first | omega | assumption) (by show -1 ≤ ((M 78) 6) ∧ ((M 78) 6) ≤ 1000; first | omega | assumption) (by show bdf ((M 82)) 100 0 127; first | omega | assumption)) gX10_readsDigits_X10_isDigit (kd_lt (show kd 78 = 10 from rfl) (by decide)) rfl rfl (cellF_10 _ (by decide)) rfl (by decide +kernel) rfl (by decide) [] rfl (Nat.le_of_ble_eq_true rfl) dX10_readsDigits_21 (fun v147 M148 hp146 => ?_)
    rcases hp146 with ⟨rfl, rfl, h149⟩ | ⟨rfl, rfl, h150⟩
    · skip
      have h149 : ((M 78) 6) < 0 ∧ dig ((M 82)) (((M 78) 5)) (((M 78) 6)) := h149
      show V z g 4 (up1 (up1 M 83 (clS R0 (M 78 9) s0 1 (up (dgV (M 82) (M 78 6)) 0 0))) 78 (up ((M 78)) 7 ((M 78) 6))) [(3, iv (14 * (M 78 9))), (0, rf g 78), (1, iv 1), (2, iv 5)] [iv 1] 24
      exfalso; omega
    · skip
      have h150 : ¬ (((M 78) 6) < 0 ∧ dig ((M 82)) (((M 78) 5)) (((M 78) 6))) := h150
      show V z g 4 (up1 (up1 M 83 (clS R0 (M 78 9) s0 1 (up (dgV (M 82) (M 78 6)) 0 0))) 78 (up ((M 78)) 7 ((M 78) 6))) [(3, iv (14 * (M 78 9))), (0, rf g 78), (1, iv 1), (2, iv 5)] [iv 0] 24
      refine v_if_eq (tgt := 50) ok (by decide) dX10_readsDigits_24 (by decide) (fun c151 => ?_) (fun c151 => absurd c151 (by decide))
      rw [show ((up1 (up1 M 83 (clS R0 (M 78 9) s0 1 (up (dgV (M 82) (M 78 6)) 0 0))) 78 (up ((M 78)) 7 ((M 78) 6))) : Mem) = (up1 (up1 M 83 (clS R0 (M 78 9) s0 1 (up (dgV (M 82) (M 78 6)) 0 0))) 78 (up (up (M 78) 6 (M 78 6 + (dgs (M 82) (M 78 5) 5 (M 78 6)))) 7 (M 78 6 + (dgs (M 82) (M 78 5) 5 (M 78 6))))) from (by rw [hDf, Int.add_zero, up_self])]
      exact v_vret ok rt dX10_readsDigits_50 (Or.inr (⟨(clS R0 (M 78 9) s0 1 (up (dgV (M 82) (M 78 6)) 0 0)), rfl, rfl, (by omega)⟩))
  · skip
    have h9 : ¬ (M 78) 7 < 0 := h9
    show V z g 4 (up1 (up1 M 83 (clS R0 (M 78 9) s0 0 (dgV (M 82) (M 78 6)))) 78 (up ((M 78)) 7 ((M 78) 7))) [(3, iv (14 * (M 78 9))), (0, rf g 78), (1, iv 1), (2, iv 5)] [iv 0, rf g 78] 44
    exfalso; omega

set_option maxRecDepth 100000 in
set_option maxHeartbeats 400000 in
theorem ct_X10_readsDigits_3_3 (l : Launch) (g : Gl) (M : Mem) (R0 : Int → Int) (s0 : Int) (hL : 0 ≤ M 78 5 ∧ M 78 5 ≤ 100) (hp : 0 ≤ M 78 6 ∧ M 78 6 ≤ M 78 5) (hG : bdf (M 82) 100 0 127) (hf0 : M 78 7 = -1) (hm : 0 ≤ M 78 9 ∧ M 78 9 ≤ 11) (hcl : M 83 = clS R0 (M 78 9) s0 0 (dgV (M 82) (M 78 6))) : Ct l g yX10_readsDigits wsX10_readsDigits 3 65 [rf g 78, iv 3, iv 3] M (fun rv M' => (rv = none ∧ M' = (up1 (up1 M 83 (clS R0 (M 78 9) s0 (dgs (M 82) (M 78 5) 3 (M 78 6)) (dgV (M 82) (M 78 6)))) 78 (up (M 78) 6 (M 78 6 + (dgs (M 82) (M 78 5) 3 (M 78 6))))) ∧ (3 ≤ (dgs (M 82) (M 78 5) 3 (M 78 6)))) ∨ (∃ (G : Int → Int), rv = none ∧ M' = (up1 (up1 M 83 G) 78 (up (up (M 78) 6 (M 78 6 + (dgs (M 82) (M 78 5) 3 (M 78 6)))) 7 (M 78 6 + (dgs (M 82) (M 78 5) 3 (M 78 6))))) ∧ ((dgs (M 82) (M 78 5) 3 (M 78 6)) < 3))) := by
  refine Ct.of (cc := cX10_readsDigits) (nL := 4) (ret := none) (by decide) rfl (Nat.le_of_ble_eq_true rfl) (fun z hz ok rt => ?_)
  have ok : Ok z g cX10_readsDigits 4 RX10 wsX10_readsDigits 3 65 := ok
  show V z g 4 M [(0, rf g 78), (1, iv 3), (2, iv 3)] [] 0
  rw [show (M : Mem) = (up1 M 83 (clS R0 (M 78 9) s0 0 (dgV (M 82) (M 78 6)))) from (by rw [← hcl, up1_self])]
  refine v_bipush (n := 14) ok rfl dX10_readsDigits_0 ?_
  refine v_aload_n ok 0 dX10_readsDigits_2 rfl rfl ?_
  refine v_get (T := TX10) (N := 22) (f0 := (M 78)) (v := iv (M 78 9)) ok mi_X10_readsDigits_10 (kd_lt (show kd 78 = 10 from rfl) (by decide)) rfl rfl (cellF_10 _ (by decide)) 9 (by decide) mk_X10_readsDigits_119 rfl rfl dX10_readsDigits_3 ?_
  refine v_imul ok dX10_readsDigits_6 ?_
  refine v_istore_n ok [(3, iv (14 * (M 78 9))), (0, rf g 78), (1, iv 3), (2, iv 3)] dX10_readsDigits_7 rfl (by decide) rfl ?_
  refine v_aload_n ok 1 dX10_readsDigits_8 rfl rfl ?_
  refine v_get (T := TX10) (N := 22) (f0 := (M 78)) (v := rf g 83) ok mi_X10_readsDigits_10 (kd_lt (show kd 78 = 10 from rfl) (by decide)) rfl rfl (cellF_10 _ (by decide)) 8 (by decide) mk_X10_readsDigits_24 rfl rfl dX10_readsDigits_9 ?_
  refine v_iload_n ok 0 dX10_readsDigits_12 rfl rfl ?_
  refine v_iconst (n := 1) ok dX10_readsDigits_13 ?_
  refine v_iadd ok dX10_readsDigits_14 ?_
  refine v_iald (n := 168) (f0 := (clS R0 (M 78 9) s0 0 (dgV (M 82) (M 78 6)))) ok (by decide) rfl (by omega) rfl dX10_readsDigits_15 ?_
  rw [show (((clS R0 (M 78 9) s0 0 (dgV (M 82) (M 78 6))) ((14 * (M 78 9)) + 1)) : Int) = 0 from (clS_1 _ _ _ _ _)]
  refine v_iload_n ok 2 dX10_readsDigits_16 rfl rfl ?_
  refine v_icmp_lt (tgt := 39) ok (by decide) (by decide) dX10_readsDigits_17 (by decide) (fun c1 => ?_) (fun c1 => absurd c1 (by decide))
  refine v_aload_n ok 1 dX10_readsDigits_39 rfl rfl ?_
  refine v_aload_n ok 1 dX10_readsDigits_40 rfl rfl ?_
  refine v_callV (na := 0) (i := 78) (C := RX10) (T := TX10) (N := 22) (f0 := (M 78)) ok (ct_X10_figure z.2.1 g (up1 M 83 (clS R0 (M 78 9) s0 0 (dgV (M 82) (M 78 6))))  (by show 0 ≤ (M 78) 5 ∧ (M 78) 5 ≤ 100; first | omega | assumption) (by show 0 ≤ (M 78) 6 ∧ (M 78) 6 ≤ 100; first | omega | assumption) (by show -1 ≤ (M 78) 7 ∧ (M 78) 7 ≤ 1000; first | omega | assumption) (by show bdf ((M 82)) 100 0 127; first | omega | assumption)) gX10_readsDigits_X10_figure (kd_lt (show kd 78 = 10 from rfl) (by decide)) rfl rfl (cellF_10 _ (by decide)) rfl (by decide +kernel) rfl (by decide) [rf g 78] rfl (Nat.le_of_ble_eq_true rfl) dX10_readsDigits_41 (fun v3 M4 hp2 => ?_)
  rcases hp2 with ⟨rfl, rfl, h5, h6⟩ | ⟨rfl, rfl, h7, h8⟩ | ⟨rfl, rfl, h9⟩
  · skip
    have h5 : (M 78) 7 < 0 := h5
    have h6 : dig ((M 82)) ((M 78) 5) ((M 78) 6) := h6
    show V z g 4 (up1 (up1 M 83 (clS R0 (M 78 9) s0 0 (dgV (M 82) (M 78 6)))) 78 (up ((M 78)) 6 ((M 78) 6 + 1))) [(3, iv (14 * (M 78 9))), (0, rf g 78), (1, iv 3), (2, iv 3)] [iv ((M 82) ((M 78) 6) - 48), rf g 78] 44
    have hl21 := sgn_lt (T := M 82) (L := M 78 5) (p := (M 78 6)) (by omega)
    have hD1 : (dgs (M 82) (M 78 5) 3 (M 78 6)) = 1 + dgs (M 82) (M 78 5) 2 (M 78 6 + 1) := by rw [dg_y (k := 2) (by omega)]
    rw [show ((up1 (up1 M 83 (clS R0 (M 78 9) s0 0 (dgV (M 82) (M 78 6)))) 78 (up ((M 78)) 6 ((M 78) 6 + 1))) : Mem) = (up1 (up1 M 83 (clS R0 (M 78 9) s0 0 (dgV (M 82) (M 78 6)))) 78 (up (M 78) 6 (M 78 6 + 1))) from rfl]
    have hn9 : 0 ≤ clS R0 (M 78 9) s0 0 (dgV (M 82) (M 78 6)) (14 * M 78 9 + 1) ∧ clS R0 (M 78 9) s0 0 (dgV (M 82) (M 78 6)) (14 * M 78 9 + 1) ≤ 11 := by rw [clS_1]; omega
    have hv9 : ((M 82) ((M 78) 6) - 48) = dgV (M 82) (M 78 6) 0 := by unfold dgV; rw [Int.add_zero]
    refine v_callV (na := 1) (i := 78) (C := RX10) (T := TX10) (N := 22) (f0 := (up (M 78) 6 (M 78 6 + 1))) ok (ct_X10_tells z.2.1 g (up1 (up1 M 83 (clS R0 (M 78 9) s0 0 (dgV (M 82) (M 78 6)))) 78 (up (M 78) 6 (M 78 6 + 1))) ((M 82) ((M 78) 6) - 48) (by show 0 ≤ (M 78 9) ∧ (M 78 9) ≤ 11; first | omega | assumption) hn9) gX10_readsDigits_X10_tells (kd_lt (show kd 78 = 10 from rfl) (by decide)) rfl rfl (cellF_10 _ (by decide)) rfl (by decide +kernel) rfl (by decide) [] rfl (Nat.le_of_ble_eq_true rfl) dX10_readsDigits_44 (fun v11 M12 hp10 => ?_)
    obtain ⟨rfl, rfl⟩ := hp10
    show V z g 4 (up1 (up1 (up1 M 83 (clS R0 (M 78 9) s0 0 (dgV (M 82) (M 78 6)))) 78 (up (M 78) 6 (M 78 6 + 1))) 83 (up (up ((clS R0 (M 78 9) s0 0 (dgV (M 82) (M 78 6)))) (14 * (M 78 9) + 2 + (clS R0 (M 78 9) s0 0 (dgV (M 82) (M 78 6))) (14 * (M 78 9) + 1)) ((M 82) ((M 78) 6) - 48)) (14 * (M 78 9) + 1) ((clS R0 (M 78 9) s0 0 (dgV (M 82) (M 78 6))) (14 * (M 78 9) + 1) + 1))) [(3, iv (14 * (M 78 9))), (0, rf g 78), (1, iv 3), (2, iv 3)] [] 47
    rw [show ((up1 (up1 (up1 M 83 (clS R0 (M 78 9) s0 0 (dgV (M 82) (M 78 6)))) 78 (up (M 78) 6 (M 78 6 + 1))) 83 (up (up ((clS R0 (M 78 9) s0 0 (dgV (M 82) (M 78 6)))) (14 * (M 78 9) + 2 + (clS R0 (M 78 9) s0 0 (dgV (M 82) (M 78 6))) (14 * (M 78 9) + 1)) ((M 82) ((M 78) 6) - 48)) (14 * (M 78 9) + 1) ((clS R0 (M 78 9) s0 0 (dgV (M 82) (M 78 6))) (14 * (M 78 9) + 1) + 1))) : Mem) = (up1 (up1 M 83 (up (up ((clS R0 (M 78 9) s0 0 (dgV (M 82) (M 78 6)))) (14 * (M 78 9) + 2 + (clS R0 (M 78 9) s0 0 (dgV (M 82) (M 78 6))) (14 * (M 78 9) + 1)) ((M 82) ((M 78) 6) - 48)) (14 * (M 78 9) + 1) ((clS R0 (M 78 9) s0 0 (dgV (M 82) (M 78 6))) (14 * (M 78 9) + 1) + 1))) 78 (up (M 78) 6 (M 78 6 + 1))) from (by
          funext j
          by_cases hj0 : j = 83
          · subst hj0; simp [up1, up1_self]
          by_cases hj1 : j = 78
          · subst hj1; simp [up1, up1_self]
          simp [up1, hj0, hj1])]
    rw [show ((up1 (up1 M 83 (up (up ((clS R0 (M 78 9) s0 0 (dgV (M 82) (M 78 6)))) (14 * (M 78 9) + 2 + (clS R0 (M 78 9) s0 0 (dgV (M 82) (M 78 6))) (14 * (M 78 9) + 1)) ((M 82) ((M 78) 6) - 48)) (14 * (M 78 9) + 1) ((clS R0 (M 78 9) s0 0 (dgV (M 82) (M 78 6))) (14 * (M 78 9) + 1) + 1))) 78 (up (M 78) 6 (M 78 6 + 1))) : Mem) = (up1 (up1 M 83 (clS R0 (M 78 9) s0 1 (dgV (M 82) (M 78 6)))) 78 (up (M 78) 6 (M 78 6 + 1))) from (by rw [clS_tv _ _ _ _ _ _ (by decide) hv9]; rfl)]
    refine v_goto (tgt := 8) ok dX10_readsDigits_47 (by decide) ?_
    refine v_aload_n ok 1 dX10_readsDigits_8 rfl rfl ?_
    refine v_get (T := TX10) (N := 22) (f0 := (up (M 78) 6 (M 78 6 + 1))) (v := rf g 83) ok mi_X10_readsDigits_10 (kd_lt (show kd 78 = 10 from rfl) (by decide)) rfl rfl (cellF_10 _ (by decide)) 8 (by decide) mk_X10_readsDigits_24 rfl rfl dX10_readsDigits_9 ?_
    refine v_iload_n ok 0 dX10_readsDigits_12 rfl rfl ?_
    refine v_iconst (n := 1) ok dX10_readsDigits_13 ?_
    refine v_iadd ok dX10_readsDigits_14 ?_
    refine v_iald (n := 168) (f0 := (clS R0 (M 78 9) s0 1 (dgV (M 82) (M 78 6)))) ok (by decide) rfl (by omega) rfl dX10_readsDigits_15 ?_
    rw [show (((clS R0 (M 78 9) s0 1 (dgV (M 82) (M 78 6))) ((14 * (M 78 9)) + 1)) : Int) = 1 from (clS_1 _ _ _ _ _)]
    refine v_iload_n ok 2 dX10_readsDigits_16 rfl rfl ?_
    refine v_icmp_lt (tgt := 39) ok (by decide) (by decide) dX10_readsDigits_17 (by decide) (fun c13 => ?_) (fun c13 => absurd c13 (by decide))
    refine v_aload_n ok 1 dX10_readsDigits_39 rfl rfl ?_
    refine v_aload_n ok 1 dX10_readsDigits_40 rfl rfl ?_
    refine v_callV (na := 0) (i := 78) (C := RX10) (T := TX10) (N := 22) (f0 := (up (M 78) 6 (M 78 6 + 1))) ok (ct_X10_figure z.2.1 g (up1 (up1 M 83 (clS R0 (M 78 9) s0 1 (dgV (M 82) (M 78 6)))) 78 (up (M 78) 6 (M 78 6 + 1)))  (by show 0 ≤ (M 78 5) ∧ (M 78 5) ≤ 100; first | omega | assumption) (by show 0 ≤ (M 78 6 + 1) ∧ (M 78 6 + 1) ≤ 100; first | omega | assumption) (by show -1 ≤ (M 78 7) ∧ (M 78 7) ≤ 1000; first | omega | assumption) (by show bdf ((M 82)) 100 0 127; first | omega | assumption)) gX10_readsDigits_X10_figure (kd_lt (show kd 78 = 10 from rfl) (by decide)) rfl rfl (cellF_10 _ (by decide)) rfl (by decide +kernel) rfl (by decide) [rf g 78] rfl (Nat.le_of_ble_eq_true rfl) dX10_readsDigits_41 (fun v15 M16 hp14 => ?_)
    rcases hp14 with ⟨rfl, rfl, h17, h18⟩ | ⟨rfl, rfl, h19, h20⟩ | ⟨rfl, rfl, h21⟩
    · skip
      have h17 : (M 78 7) < 0 := h17
      have h18 : dig ((M 82)) ((M 78 5)) ((M 78 6 + 1)) := h18
      show V z g 4 (up1 (up1 (up1 M 83 (clS R0 (M 78 9) s0 1 (dgV (M 82) (M 78 6)))) 78 (up (M 78) 6 (M 78 6 + 1))) 78 (up ((up (M 78) 6 (M 78 6 + 1))) 6 ((M 78 6 + 1) + 1))) [(3, iv (14 * (M 78 9))), (0, rf g 78), (1, iv 3), (2, iv 3)] [iv ((M 82) ((M 78 6 + 1)) - 48), rf g 78] 44
      rw [show ((up1 (up1 (up1 M 83 (clS R0 (M 78 9) s0 1 (dgV (M 82) (M 78 6)))) 78 (up (M 78) 6 (M 78 6 + 1))) 78 (up ((up (M 78) 6 (M 78 6 + 1))) 6 ((M 78 6 + 1) + 1))) : Mem) = (up1 (up1 M 83 (clS R0 (M 78 9) s0 1 (dgV (M 82) (M 78 6)))) 78 (up ((up (M 78) 6 (M 78 6 + 1))) 6 ((M 78 6 + 1) + 1))) from (by
            funext j
            by_cases hj0 : j = 83
            · subst hj0; simp [up1, up1_self]
            by_cases hj1 : j = 78
            · subst hj1; simp [up1, up1_self]
            simp [up1, hj0, hj1])]
      have hl22 := sgn_lt (T := M 82) (L := M 78 5) (p := (M 78 6 + 1)) (by omega)
      have hD2 : (dgs (M 82) (M 78 5) 3 (M 78 6)) = 2 + dgs (M 82) (M 78 5) 1 (M 78 6 + 2) := by rw [hD1, dg_y (k := 1) (by omega), show M 78 6 + 1 + 1 = M 78 6 + 2 by omega]; omega
      rw [show ((up1 (up1 M 83 (clS R0 (M 78 9) s0 1 (dgV (M 82) (M 78 6)))) 78 (up ((up (M 78) 6 (M 78 6 + 1))) 6 ((M 78 6 + 1) + 1))) : Mem) = (up1 (up1 M 83 (clS R0 (M 78 9) s0 1 (dgV (M 82) (M 78 6)))) 78 (up (M 78) 6 (M 78 6 + 2))) from (by rw [up_up, show M 78 6 + 1 + 1 = M 78 6 + 2 by omega])]
      have hn9 : 0 ≤ clS R0 (M 78 9) s0 1 (dgV (M 82) (M 78 6)) (14 * M 78 9 + 1) ∧ clS R0 (M 78 9) s0 1 (dgV (M 82) (M 78 6)) (14 * M 78 9 + 1) ≤ 11 := by rw [clS_1]; omega
      have hv9 : ((M 82) ((M 78 6 + 1)) - 48) = dgV (M 82) (M 78 6) 1 := rfl
      refine v_callV (na := 1) (i := 78) (C := RX10) (T := TX10) (N := 22) (f0 := (up (M 78) 6 (M 78 6 + 2))) ok (ct_X10_tells z.2.1 g (up1 (up1 M 83 (clS R0 (M 78 9) s0 1 (dgV (M 82) (M 78 6)))) 78 (up (M 78) 6 (M 78 6 + 2))) ((M 82) ((M 78 6 + 1)) - 48) (by show 0 ≤ (M 78 9) ∧ (M 78 9) ≤ 11; first | omega | assumption) hn9) gX10_readsDigits_X10_tells (kd_lt (show kd 78 = 10 from rfl) (by decide)) rfl rfl (cellF_10 _ (by decide)) rfl (by decide +kernel) rfl (by decide) [] rfl (Nat.le_of_ble_eq_true rfl) dX10_readsDigits_44 (fun v23 M24 hp22 => ?_)
      obtain ⟨rfl, rfl⟩ := hp22
      show V z g 4 (up1 (up1 (up1 M 83 (clS R0 (M 78 9) s0 1 (dgV (M 82) (M 78 6)))) 78 (up (M 78) 6 (M 78 6 + 2))) 83 (up (up ((clS R0 (M 78 9) s0 1 (dgV (M 82) (M 78 6)))) (14 * (M 78 9) + 2 + (clS R0 (M 78 9) s0 1 (dgV (M 82) (M 78 6))) (14 * (M 78 9) + 1)) ((M 82) ((M 78 6 + 1)) - 48)) (14 * (M 78 9) + 1) ((clS R0 (M 78 9) s0 1 (dgV (M 82) (M 78 6))) (14 * (M 78 9) + 1) + 1))) [(3, iv (14 * (M 78 9))), (0, rf g 78), (1, iv 3), (2, iv 3)] [] 47
      rw [show ((up1 (up1 (up1 M 83 (clS R0 (M 78 9) s0 1 (dgV (M 82) (M 78 6)))) 78 (up (M 78) 6 (M 78 6 + 2))) 83 (up (up ((clS R0 (M 78 9) s0 1 (dgV (M 82) (M 78 6)))) (14 * (M 78 9) + 2 + (clS R0 (M 78 9) s0 1 (dgV (M 82) (M 78 6))) (14 * (M 78 9) + 1)) ((M 82) ((M 78 6 + 1)) - 48)) (14 * (M 78 9) + 1) ((clS R0 (M 78 9) s0 1 (dgV (M 82) (M 78 6))) (14 * (M 78 9) + 1) + 1))) : Mem) = (up1 (up1 M 83 (up (up ((clS R0 (M 78 9) s0 1 (dgV (M 82) (M 78 6)))) (14 * (M 78 9) + 2 + (clS R0 (M 78 9) s0 1 (dgV (M 82) (M 78 6))) (14 * (M 78 9) + 1)) ((M 82) ((M 78 6 + 1)) - 48)) (14 * (M 78 9) + 1) ((clS R0 (M 78 9) s0 1 (dgV (M 82) (M 78 6))) (14 * (M 78 9) + 1) + 1))) 78 (up (M 78) 6 (M 78 6 + 2))) from (by
            funext j
            by_cases hj0 : j = 83
            · subst hj0; simp [up1, up1_self]
            by_cases hj1 : j = 78
            · subst hj1; simp [up1, up1_self]
            simp [up1, hj0, hj1])]
      rw [show ((up1 (up1 M 83 (up (up ((clS R0 (M 78 9) s0 1 (dgV (M 82) (M 78 6)))) (14 * (M 78 9) + 2 + (clS R0 (M 78 9) s0 1 (dgV (M 82) (M 78 6))) (14 * (M 78 9) + 1)) ((M 82) ((M 78 6 + 1)) - 48)) (14 * (M 78 9) + 1) ((clS R0 (M 78 9) s0 1 (dgV (M 82) (M 78 6))) (14 * (M 78 9) + 1) + 1))) 78 (up (M 78) 6 (M 78 6 + 2))) : Mem) = (up1 (up1 M 83 (clS R0 (M 78 9) s0 2 (dgV (M 82) (M 78 6)))) 78 (up (M 78) 6 (M 78 6 + 2))) from (by rw [clS_tv _ _ _ _ _ _ (by decide) hv9]; rfl)]
      refine v_goto (tgt := 8) ok dX10_readsDigits_47 (by decide) ?_
      refine v_aload_n ok 1 dX10_readsDigits_8 rfl rfl ?_
      refine v_get (T := TX10) (N := 22) (f0 := (up (M 78) 6 (M 78 6 + 2))) (v := rf g 83) ok mi_X10_readsDigits_10 (kd_lt (show kd 78 = 10 from rfl) (by decide)) rfl rfl (cellF_10 _ (by decide)) 8 (by decide) mk_X10_readsDigits_24 rfl rfl dX10_readsDigits_9 ?_
      refine v_iload_n ok 0 dX10_readsDigits_12 rfl rfl ?_
      refine v_iconst (n := 1) ok dX10_readsDigits_13 ?_
      refine v_iadd ok dX10_readsDigits_14 ?_
      refine v_iald (n := 168) (f0 := (clS R0 (M 78 9) s0 2 (dgV (M 82) (M 78 6)))) ok (by decide) rfl (by omega) rfl dX10_readsDigits_15 ?_
      rw [show (((clS R0 (M 78 9) s0 2 (dgV (M 82) (M 78 6))) ((14 * (M 78 9)) + 1)) : Int) = 2 from (clS_1 _ _ _ _ _)]
      refine v_iload_n ok 2 dX10_readsDigits_16 rfl rfl ?_
      refine v_icmp_lt (tgt := 39) ok (by decide) (by decide) dX10_readsDigits_17 (by decide) (fun c25 => ?_) (fun c25 => absurd c25 (by decide))
      refine v_aload_n ok 1 dX10_readsDigits_39 rfl rfl ?_
      refine v_aload_n ok 1 dX10_readsDigits_40 rfl rfl ?_
      refine v_callV (na := 0) (i := 78) (C := RX10) (T := TX10) (N := 22) (f0 := (up (M 78) 6 (M 78 6 + 2))) ok (ct_X10_figure z.2.1 g (up1 (up1 M 83 (clS R0 (M 78 9) s0 2 (dgV (M 82) (M 78 6)))) 78 (up (M 78) 6 (M 78 6 + 2)))  (by show 0 ≤ (M 78 5) ∧ (M 78 5) ≤ 100; first | omega | assumption) (by show 0 ≤ (M 78 6 + 2) ∧ (M 78 6 + 2) ≤ 100; first | omega | assumption) (by show -1 ≤ (M 78 7) ∧ (M 78 7) ≤ 1000; first | omega | assumption) (by show bdf ((M 82)) 100 0 127; first | omega | assumption)) gX10_readsDigits_X10_figure (kd_lt (show kd 78 = 10 from rfl) (by decide)) rfl rfl (cellF_10 _ (by decide)) rfl (by decide +kernel) rfl (by decide) [rf g 78] rfl (Nat.le_of_ble_eq_true rfl) dX10_readsDigits_41 (fun v27 M28 hp26 => ?_)
      rcases hp26 with ⟨rfl, rfl, h29, h30⟩ | ⟨rfl, rfl, h31, h32⟩ | ⟨rfl, rfl, h33⟩
      · skip
        have h29 : (M 78 7) < 0 := h29
        have h30 : dig ((M 82)) ((M 78 5)) ((M 78 6 + 2)) := h30
        show V z g 4 (up1 (up1 (up1 M 83 (clS R0 (M 78 9) s0 2 (dgV (M 82) (M 78 6)))) 78 (up (M 78) 6 (M 78 6 + 2))) 78 (up ((up (M 78) 6 (M 78 6 + 2))) 6 ((M 78 6 + 2) + 1))) [(3, iv (14 * (M 78 9))), (0, rf g 78), (1, iv 3), (2, iv 3)] [iv ((M 82) ((M 78 6 + 2)) - 48), rf g 78] 44
        rw [show ((up1 (up1 (up1 M 83 (clS R0 (M 78 9) s0 2 (dgV (M 82) (M 78 6)))) 78 (up (M 78) 6 (M 78 6 + 2))) 78 (up ((up (M 78) 6 (M 78 6 + 2))) 6 ((M 78 6 + 2) + 1))) : Mem) = (up1 (up1 M 83 (clS R0 (M 78 9) s0 2 (dgV (M 82) (M 78 6)))) 78 (up ((up (M 78) 6 (M 78 6 + 2))) 6 ((M 78 6 + 2) + 1))) from (by
              funext j
              by_cases hj0 : j = 83
              · subst hj0; simp [up1, up1_self]
              by_cases hj1 : j = 78
              · subst hj1; simp [up1, up1_self]
              simp [up1, hj0, hj1])]
        have hl23 := sgn_lt (T := M 82) (L := M 78 5) (p := (M 78 6 + 2)) (by omega)
        have hD3 : (dgs (M 82) (M 78 5) 3 (M 78 6)) = 3 + dgs (M 82) (M 78 5) 0 (M 78 6 + 3) := by rw [hD2, dg_y (k := 0) (by omega), show M 78 6 + 2 + 1 = M 78 6 + 3 by omega]; omega
        rw [show ((up1 (up1 M 83 (clS R0 (M 78 9) s0 2 (dgV (M 82) (M 78 6)))) 78 (up ((up (M 78) 6 (M 78 6 + 2))) 6 ((M 78 6 + 2) + 1))) : Mem) = (up1 (up1 M 83 (clS R0 (M 78 9) s0 2 (dgV (M 82) (M 78 6)))) 78 (up (M 78) 6 (M 78 6 + 3))) from (by rw [up_up, show M 78 6 + 2 + 1 = M 78 6 + 3 by omega])]
        have hn9 : 0 ≤ clS R0 (M 78 9) s0 2 (dgV (M 82) (M 78 6)) (14 * M 78 9 + 1) ∧ clS R0 (M 78 9) s0 2 (dgV (M 82) (M 78 6)) (14 * M 78 9 + 1) ≤ 11 := by rw [clS_1]; omega
        have hv9 : ((M 82) ((M 78 6 + 2)) - 48) = dgV (M 82) (M 78 6) 2 := rfl
        refine v_callV (na := 1) (i := 78) (C := RX10) (T := TX10) (N := 22) (f0 := (up (M 78) 6 (M 78 6 + 3))) ok (ct_X10_tells z.2.1 g (up1 (up1 M 83 (clS R0 (M 78 9) s0 2 (dgV (M 82) (M 78 6)))) 78 (up (M 78) 6 (M 78 6 + 3))) ((M 82) ((M 78 6 + 2)) - 48) (by show 0 ≤ (M 78 9) ∧ (M 78 9) ≤ 11; first | omega | assumption) hn9) gX10_readsDigits_X10_tells (kd_lt (show kd 78 = 10 from rfl) (by decide)) rfl rfl (cellF_10 _ (by decide)) rfl (by decide +kernel) rfl (by decide) [] rfl (Nat.le_of_ble_eq_true rfl) dX10_readsDigits_44 (fun v35 M36 hp34 => ?_)
        obtain ⟨rfl, rfl⟩ := hp34
        show V z g 4 (up1 (up1 (up1 M 83 (clS R0 (M 78 9) s0 2 (dgV (M 82) (M 78 6)))) 78 (up (M 78) 6 (M 78 6 + 3))) 83 (up (up ((clS R0 (M 78 9) s0 2 (dgV (M 82) (M 78 6)))) (14 * (M 78 9) + 2 + (clS R0 (M 78 9) s0 2 (dgV (M 82) (M 78 6))) (14 * (M 78 9) + 1)) ((M 82) ((M 78 6 + 2)) - 48)) (14 * (M 78 9) + 1) ((clS R0 (M 78 9) s0 2 (dgV (M 82) (M 78 6))) (14 * (M 78 9) + 1) + 1))) [(3, iv (14 * (M 78 9))), (0, rf g 78), (1, iv 3), (2, iv 3)] [] 47
        rw [show ((up1 (up1 (up1 M 83 (clS R0 (M 78 9) s0 2 (dgV (M 82) (M 78 6)))) 78 (up (M 78) 6 (M 78 6 + 3))) 83 (up (up ((clS R0 (M 78 9) s0 2 (dgV (M 82) (M 78 6)))) (14 * (M 78 9) + 2 + (clS R0 (M 78 9) s0 2 (dgV (M 82) (M 78 6))) (14 * (M 78 9) + 1)) ((M 82) ((M 78 6 + 2)) - 48)) (14 * (M 78 9) + 1) ((clS R0 (M 78 9) s0 2 (dgV (M 82) (M 78 6))) (14 * (M 78 9) + 1) + 1))) : Mem) = (up1 (up1 M 83 (up (up ((clS R0 (M 78 9) s0 2 (dgV (M 82) (M 78 6)))) (14 * (M 78 9) + 2 + (clS R0 (M 78 9) s0 2 (dgV (M 82) (M 78 6))) (14 * (M 78 9) + 1)) ((M 82) ((M 78 6 + 2)) - 48)) (14 * (M 78 9) + 1) ((clS R0 (M 78 9) s0 2 (dgV (M 82) (M 78 6))) (14 * (M 78 9) + 1) + 1))) 78 (up (M 78) 6 (M 78 6 + 3))) from (by
              funext j
              by_cases hj0 : j = 83
              · subst hj0; simp [up1, up1_self]
              by_cases hj1 : j = 78
              · subst hj1; simp [up1, up1_self]
              simp [up1, hj0, hj1])]
        rw [show ((up1 (up1 M 83 (up (up ((clS R0 (M 78 9) s0 2 (dgV (M 82) (M 78 6)))) (14 * (M 78 9) + 2 + (clS R0 (M 78 9) s0 2 (dgV (M 82) (M 78 6))) (14 * (M 78 9) + 1)) ((M 82) ((M 78 6 + 2)) - 48)) (14 * (M 78 9) + 1) ((clS R0 (M 78 9) s0 2 (dgV (M 82) (M 78 6))) (14 * (M 78 9) + 1) + 1))) 78 (up (M 78) 6 (M 78 6 + 3))) : Mem) = (up1 (up1 M 83 (clS R0 (M 78 9) s0 3 (dgV (M 82) (M 78 6)))) 78 (up (M 78) 6 (M 78 6 + 3))) from (by rw [clS_tv _ _ _ _ _ _ (by decide) hv9]; rfl)]
        refine v_goto (tgt := 8) ok dX10_readsDigits_47 (by decide) ?_
        refine v_aload_n ok 1 dX10_readsDigits_8 rfl rfl ?_
        refine v_get (T := TX10) (N := 22) (f0 := (up (M 78) 6 (M 78 6 + 3))) (v := rf g 83) ok mi_X10_readsDigits_10 (kd_lt (show kd 78 = 10 from rfl) (by decide)) rfl rfl (cellF_10 _ (by decide)) 8 (by decide) mk_X10_readsDigits_24 rfl rfl dX10_readsDigits_9 ?_
        refine v_iload_n ok 0 dX10_readsDigits_12 rfl rfl ?_
        refine v_iconst (n := 1) ok dX10_readsDigits_13 ?_
        refine v_iadd ok dX10_readsDigits_14 ?_
        refine v_iald (n := 168) (f0 := (clS R0 (M 78 9) s0 3 (dgV (M 82) (M 78 6)))) ok (by decide) rfl (by omega) rfl dX10_readsDigits_15 ?_
        rw [show (((clS R0 (M 78 9) s0 3 (dgV (M 82) (M 78 6))) ((14 * (M 78 9)) + 1)) : Int) = 3 from (clS_1 _ _ _ _ _)]
        refine v_iload_n ok 2 dX10_readsDigits_16 rfl rfl ?_
        refine v_icmp_lt (tgt := 39) ok (by decide) (by decide) dX10_readsDigits_17 (by decide) (fun c37 => absurd c37 (by decide)) (fun c37 => ?_)
        refine v_aload_n ok 1 dX10_readsDigits_20 rfl rfl ?_
        refine v_callV (na := 0) (i := 78) (C := RX10) (T := TX10) (N := 22) (f0 := (up (M 78) 6 (M 78 6 + 3))) ok (ct_X10_isDigit z.2.1 g (up1 (up1 M 83 (clS R0 (M 78 9) s0 3 (dgV (M 82) (M 78 6)))) 78 (up (M 78) 6 (M 78 6 + 3)))  (by show 0 ≤ (M 78 5) ∧ (M 78 5) ≤ 100; first | omega | assumption) (by show 0 ≤ (M 78 6 + 3) ∧ (M 78 6 + 3) ≤ 100; first | omega | assumption) (by show -1 ≤ (M 78 7) ∧ (M 78 7) ≤ 1000; first | omega | assumption) (by show bdf ((M 82)) 100 0 127; first | omega | assumption)) gX10_readsDigits_X10_isDigit (kd_lt (show kd 78 = 10 from rfl) (by decide)) rfl rfl (cellF_10 _ (by decide)) rfl (by decide +kernel) rfl (by decide) [] rfl (Nat.le_of_ble_eq_true rfl) dX10_readsDigits_21 (fun v39 M40 hp38 => ?_)
        rcases hp38 with ⟨rfl, rfl, h41⟩ | ⟨rfl, rfl, h42⟩
        · skip
          have h41 : (M 78 7) < 0 ∧ dig ((M 82)) ((M 78 5)) ((M 78 6 + 3)) := h41
          show V z g 4 (up1 (up1 M 83 (clS R0 (M 78 9) s0 3 (dgV (M 82) (M 78 6)))) 78 (up (M 78) 6 (M 78 6 + 3))) [(3, iv (14 * (M 78 9))), (0, rf g 78), (1, iv 3), (2, iv 3)] [iv 1] 24
          refine v_if_eq (tgt := 50) ok (by decide) dX10_readsDigits_24 (by decide) (fun c43 => absurd c43 (by decide)) (fun c43 => ?_)
          refine v_aload_n ok 1 dX10_readsDigits_27 rfl rfl ?_
          refine v_get (T := TX10) (N := 22) (f0 := (up (M 78) 6 (M 78 6 + 3))) (v := rf g 83) ok mi_X10_readsDigits_10 (kd_lt (show kd 78 = 10 from rfl) (by decide)) rfl rfl (cellF_10 _ (by decide)) 8 (by decide) mk_X10_readsDigits_24 rfl rfl dX10_readsDigits_28 ?_
          refine v_iload_n ok 0 dX10_readsDigits_31 rfl rfl ?_
          refine v_iconst (n := 1) ok dX10_readsDigits_32 ?_
          refine v_iadd ok dX10_readsDigits_33 ?_
          refine v_iald (n := 168) (f0 := (clS R0 (M 78 9) s0 3 (dgV (M 82) (M 78 6)))) ok (by decide) rfl (by omega) rfl dX10_readsDigits_34 ?_
          rw [show (((clS R0 (M 78 9) s0 3 (dgV (M 82) (M 78 6))) ((14 * (M 78 9)) + 1)) : Int) = 3 from (clS_1 _ _ _ _ _)]
          refine v_iload_n ok 3 dX10_readsDigits_35 rfl rfl ?_
          refine v_icmp_ge (tgt := 50) ok (by decide) (by decide) dX10_readsDigits_36 (by decide) (fun c44 => ?_) (fun c44 => absurd c44 (by decide))
          have hDe : (dgs (M 82) (M 78 5) 3 (M 78 6)) = 3 := by rw [hD3]; rfl
          rw [show ((up1 (up1 M 83 (clS R0 (M 78 9) s0 3 (dgV (M 82) (M 78 6)))) 78 (up (M 78) 6 (M 78 6 + 3))) : Mem) = (up1 (up1 M 83 (clS R0 (M 78 9) s0 (dgs (M 82) (M 78 5) 3 (M 78 6)) (dgV (M 82) (M 78 6)))) 78 (up (M 78) 6 (M 78 6 + (dgs (M 82) (M 78 5) 3 (M 78 6))))) from (by rw [hDe])]
          exact v_vret ok rt dX10_readsDigits_50 (Or.inl (⟨rfl, rfl, (by omega)⟩))
        · skip
          have h42 : ¬ ((M 78 7) < 0 ∧ dig ((M 82)) ((M 78 5)) ((M 78 6 + 3))) := h42
          show V z g 4 (up1 (up1 M 83 (clS R0 (M 78 9) s0 3 (dgV (M 82) (M 78 6)))) 78 (up (M 78) 6 (M 78 6 + 3))) [(3, iv (14 * (M 78 9))), (0, rf g 78), (1, iv 3), (2, iv 3)] [iv 0] 24
          refine v_if_eq (tgt := 50) ok (by decide) dX10_readsDigits_24 (by decide) (fun c45 => ?_) (fun c45 => absurd c45 (by decide))
          have hDe : (dgs (M 82) (M 78 5) 3 (M 78 6)) = 3 := by rw [hD3]; rfl
          rw [show ((up1 (up1 M 83 (clS R0 (M 78 9) s0 3 (dgV (M 82) (M 78 6)))) 78 (up (M 78) 6 (M 78 6 + 3))) : Mem) = (up1 (up1 M 83 (clS R0 (M 78 9) s0 (dgs (M 82) (M 78 5) 3 (M 78 6)) (dgV (M 82) (M 78 6)))) 78 (up (M 78) 6 (M 78 6 + (dgs (M 82) (M 78 5) 3 (M 78 6))))) from (by rw [hDe])]
          exact v_vret ok rt dX10_readsDigits_50 (Or.inl (⟨rfl, rfl, (by omega)⟩))
      · skip
        have h31 : (M 78 7) < 0 := h31
        have h32 : ¬ dig ((M 82)) ((M 78 5)) ((M 78 6 + 2)) := h32
        show V z g 4 (up1 (up1 (up1 M 83 (clS R0 (M 78 9) s0 2 (dgV (M 82) (M 78 6)))) 78 (up (M 78) 6 (M 78 6 + 2))) 78 (up ((up (M 78) 6 (M 78 6 + 2))) 7 ((M 78 6 + 2)))) [(3, iv (14 * (M 78 9))), (0, rf g 78), (1, iv 3), (2, iv 3)] [iv 0, rf g 78] 44
        rw [show ((up1 (up1 (up1 M 83 (clS R0 (M 78 9) s0 2 (dgV (M 82) (M 78 6)))) 78 (up (M 78) 6 (M 78 6 + 2))) 78 (up ((up (M 78) 6 (M 78 6 + 2))) 7 ((M 78 6 + 2)))) : Mem) = (up1 (up1 M 83 (clS R0 (M 78 9) s0 2 (dgV (M 82) (M 78 6)))) 78 (up ((up (M 78) 6 (M 78 6 + 2))) 7 ((M 78 6 + 2)))) from (by
              funext j
              by_cases hj0 : j = 83
              · subst hj0; simp [up1, up1_self]
              by_cases hj1 : j = 78
              · subst hj1; simp [up1, up1_self]
              simp [up1, hj0, hj1])]
        have hDf : (dgs (M 82) (M 78 5) 3 (M 78 6)) = 2 := by rw [hD2, dg_n (by omega)]; rfl
        rw [show ((up1 (up1 M 83 (clS R0 (M 78 9) s0 2 (dgV (M 82) (M 78 6)))) 78 (up ((up (M 78) 6 (M 78 6 + 2))) 7 ((M 78 6 + 2)))) : Mem) = (up1 (up1 M 83 (clS R0 (M 78 9) s0 2 (dgV (M 82) (M 78 6)))) 78 (up (up (M 78) 6 (M 78 6 + 2)) 7 (M 78 6 + 2))) from rfl]
        have hn9 : 0 ≤ clS R0 (M 78 9) s0 2 (dgV (M 82) (M 78 6)) (14 * M 78 9 + 1) ∧ clS R0 (M 78 9) s0 2 (dgV (M 82) (M 78 6)) (14 * M 78 9 + 1) ≤ 11 := by rw [clS_1]; omega
        refine v_callV (na := 1) (i := 78) (C := RX10) (T := TX10) (N := 22) (f0 := (up (up (M 78) 6 (M 78 6 + 2)) 7 (M 78 6 + 2))) ok (ct_X10_tells z.2.1 g (up1 (up1 M 83 (clS R0 (M 78 9) s0 2 (dgV (M 82) (M 78 6)))) 78 (up (up (M 78) 6 (M 78 6 + 2)) 7 (M 78 6 + 2))) 0 (by show 0 ≤ (M 78 9) ∧ (M 78 9) ≤ 11; first | omega | assumption) hn9) gX10_readsDigits_X10_tells (kd_lt (show kd 78 = 10 from rfl) (by decide)) rfl rfl (cellF_10 _ (by decide)) rfl (by decide +kernel) rfl (by decide) [] rfl (Nat.le_of_ble_eq_true rfl) dX10_readsDigits_44 (fun v47 M48 hp46 => ?_)
        obtain ⟨rfl, rfl⟩ := hp46
        show V z g 4 (up1 (up1 (up1 M 83 (clS R0 (M 78 9) s0 2 (dgV (M 82) (M 78 6)))) 78 (up (up (M 78) 6 (M 78 6 + 2)) 7 (M 78 6 + 2))) 83 (up (up ((clS R0 (M 78 9) s0 2 (dgV (M 82) (M 78 6)))) (14 * (M 78 9) + 2 + (clS R0 (M 78 9) s0 2 (dgV (M 82) (M 78 6))) (14 * (M 78 9) + 1)) 0) (14 * (M 78 9) + 1) ((clS R0 (M 78 9) s0 2 (dgV (M 82) (M 78 6))) (14 * (M 78 9) + 1) + 1))) [(3, iv (14 * (M 78 9))), (0, rf g 78), (1, iv 3), (2, iv 3)] [] 47
        rw [show ((up1 (up1 (up1 M 83 (clS R0 (M 78 9) s0 2 (dgV (M 82) (M 78 6)))) 78 (up (up (M 78) 6 (M 78 6 + 2)) 7 (M 78 6 + 2))) 83 (up (up ((clS R0 (M 78 9) s0 2 (dgV (M 82) (M 78 6)))) (14 * (M 78 9) + 2 + (clS R0 (M 78 9) s0 2 (dgV (M 82) (M 78 6))) (14 * (M 78 9) + 1)) 0) (14 * (M 78 9) + 1) ((clS R0 (M 78 9) s0 2 (dgV (M 82) (M 78 6))) (14 * (M 78 9) + 1) + 1))) : Mem) = (up1 (up1 M 83 (up (up ((clS R0 (M 78 9) s0 2 (dgV (M 82) (M 78 6)))) (14 * (M 78 9) + 2 + (clS R0 (M 78 9) s0 2 (dgV (M 82) (M 78 6))) (14 * (M 78 9) + 1)) 0) (14 * (M 78 9) + 1) ((clS R0 (M 78 9) s0 2 (dgV (M 82) (M 78 6))) (14 * (M 78 9) + 1) + 1))) 78 (up (up (M 78) 6 (M 78 6 + 2)) 7 (M 78 6 + 2))) from (by
              funext j
              by_cases hj0 : j = 83
              · subst hj0; simp [up1, up1_self]
              by_cases hj1 : j = 78
              · subst hj1; simp [up1, up1_self]
              simp [up1, hj0, hj1])]
        rw [show ((up1 (up1 M 83 (up (up ((clS R0 (M 78 9) s0 2 (dgV (M 82) (M 78 6)))) (14 * (M 78 9) + 2 + (clS R0 (M 78 9) s0 2 (dgV (M 82) (M 78 6))) (14 * (M 78 9) + 1)) 0) (14 * (M 78 9) + 1) ((clS R0 (M 78 9) s0 2 (dgV (M 82) (M 78 6))) (14 * (M 78 9) + 1) + 1))) 78 (up (up (M 78) 6 (M 78 6 + 2)) 7 (M 78 6 + 2))) : Mem) = (up1 (up1 M 83 (clS R0 (M 78 9) s0 3 (up (dgV (M 82) (M 78 6)) 2 0))) 78 (up (up (M 78) 6 (M 78 6 + 2)) 7 (M 78 6 + 2))) from (by rw [clS_tl _ _ _ _ _ _ (by decide)]; rfl)]
        refine v_goto (tgt := 8) ok dX10_readsDigits_47 (by decide) ?_
        refine v_aload_n ok 1 dX10_readsDigits_8 rfl rfl ?_
        refine v_get (T := TX10) (N := 22) (f0 := (up (up (M 78) 6 (M 78 6 + 2)) 7 (M 78 6 + 2))) (v := rf g 83) ok mi_X10_readsDigits_10 (kd_lt (show kd 78 = 10 from rfl) (by decide)) rfl rfl (cellF_10 _ (by decide)) 8 (by decide) mk_X10_readsDigits_24 rfl rfl dX10_readsDigits_9 ?_
        refine v_iload_n ok 0 dX10_readsDigits_12 rfl rfl ?_
        refine v_iconst (n := 1) ok dX10_readsDigits_13 ?_
        refine v_iadd ok dX10_readsDigits_14 ?_
        refine v_iald (n := 168) (f0 := (clS R0 (M 78 9) s0 3 (up (dgV (M 82) (M 78 6)) 2 0))) ok (by decide) rfl (by omega) rfl dX10_readsDigits_15 ?_
        rw [show (((clS R0 (M 78 9) s0 3 (up (dgV (M 82) (M 78 6)) 2 0)) ((14 * (M 78 9)) + 1)) : Int) = 3 from (clS_1 _ _ _ _ _)]
        refine v_iload_n ok 2 dX10_readsDigits_16 rfl rfl ?_
        refine v_icmp_lt (tgt := 39) ok (by decide) (by decide) dX10_readsDigits_17 (by decide) (fun c49 => absurd c49 (by decide)) (fun c49 => ?_)
        refine v_aload_n ok 1 dX10_readsDigits_20 rfl rfl ?_
        refine v_callV (na := 0) (i := 78) (C := RX10) (T := TX10) (N := 22) (f0 := (up (up (M 78) 6 (M 78 6 + 2)) 7 (M 78 6 + 2))) ok (ct_X10_isDigit z.2.1 g (up1 (up1 M 83 (clS R0 (M 78 9) s0 3 (up (dgV (M 82) (M 78 6)) 2 0))) 78 (up (up (M 78) 6 (M 78 6 + 2)) 7 (M 78 6 + 2)))  (by show 0 ≤ (M 78 5) ∧ (M 78 5) ≤ 100; first | omega | assumption) (by show 0 ≤ (M 78 6 + 2) ∧ (M 78 6 + 2) ≤ 100; first | omega | assumption) (by show -1 ≤ (M 78 6 + 2) ∧ (M 78 6 + 2) ≤ 1000; first | omega | assumption) (by show bdf ((M 82)) 100 0 127; first | omega | assumption)) gX10_readsDigits_X10_isDigit (kd_lt (show kd 78 = 10 from rfl) (by decide)) rfl rfl (cellF_10 _ (by decide)) rfl (by decide +kernel) rfl (by decide) [] rfl (Nat.le_of_ble_eq_true rfl) dX10_readsDigits_21 (fun v51 M52 hp50 => ?_)
        rcases hp50 with ⟨rfl, rfl, h53⟩ | ⟨rfl, rfl, h54⟩
        · skip
          have h53 : (M 78 6 + 2) < 0 ∧ dig ((M 82)) ((M 78 5)) ((M 78 6 + 2)) := h53
          show V z g 4 (up1 (up1 M 83 (clS R0 (M 78 9) s0 3 (up (dgV (M 82) (M 78 6)) 2 0))) 78 (up (up (M 78) 6 (M 78 6 + 2)) 7 (M 78 6 + 2))) [(3, iv (14 * (M 78 9))), (0, rf g 78), (1, iv 3), (2, iv 3)] [iv 1] 24
          exfalso; omega
        · skip
          have h54 : ¬ ((M 78 6 + 2) < 0 ∧ dig ((M 82)) ((M 78 5)) ((M 78 6 + 2))) := h54
          show V z g 4 (up1 (up1 M 83 (clS R0 (M 78 9) s0 3 (up (dgV (M 82) (M 78 6)) 2 0))) 78 (up (up (M 78) 6 (M 78 6 + 2)) 7 (M 78 6 + 2))) [(3, iv (14 * (M 78 9))), (0, rf g 78), (1, iv 3), (2, iv 3)] [iv 0] 24
          refine v_if_eq (tgt := 50) ok (by decide) dX10_readsDigits_24 (by decide) (fun c55 => ?_) (fun c55 => absurd c55 (by decide))
          rw [show ((up1 (up1 M 83 (clS R0 (M 78 9) s0 3 (up (dgV (M 82) (M 78 6)) 2 0))) 78 (up (up (M 78) 6 (M 78 6 + 2)) 7 (M 78 6 + 2))) : Mem) = (up1 (up1 M 83 (clS R0 (M 78 9) s0 3 (up (dgV (M 82) (M 78 6)) 2 0))) 78 (up (up (M 78) 6 (M 78 6 + (dgs (M 82) (M 78 5) 3 (M 78 6)))) 7 (M 78 6 + (dgs (M 82) (M 78 5) 3 (M 78 6))))) from (by rw [hDf])]
          exact v_vret ok rt dX10_readsDigits_50 (Or.inr (⟨(clS R0 (M 78 9) s0 3 (up (dgV (M 82) (M 78 6)) 2 0)), rfl, rfl, (by omega)⟩))
      · skip
        have h33 : ¬ (M 78 7) < 0 := h33
        show V z g 4 (up1 (up1 (up1 M 83 (clS R0 (M 78 9) s0 2 (dgV (M 82) (M 78 6)))) 78 (up (M 78) 6 (M 78 6 + 2))) 78 (up ((up (M 78) 6 (M 78 6 + 2))) 7 ((M 78 7)))) [(3, iv (14 * (M 78 9))), (0, rf g 78), (1, iv 3), (2, iv 3)] [iv 0, rf g 78] 44
        rw [show ((up1 (up1 (up1 M 83 (clS R0 (M 78 9) s0 2 (dgV (M 82) (M 78 6)))) 78 (up (M 78) 6 (M 78 6 + 2))) 78 (up ((up (M 78) 6 (M 78 6 + 2))) 7 ((M 78 7)))) : Mem) = (up1 (up1 M 83 (clS R0 (M 78 9) s0 2 (dgV (M 82) (M 78 6)))) 78 (up ((up (M 78) 6 (M 78 6 + 2))) 7 ((M 78 7)))) from (by
              funext j
              by_cases hj0 : j = 83
              · subst hj0; simp [up1, up1_self]
              by_cases hj1 : j = 78
              · subst hj1; simp [up1, up1_self]
              simp [up1, hj0, hj1])]
        exfalso; omega
    · skip
      have h19 : (M 78 7) < 0 := h19
      have h20 : ¬ dig ((M 82)) ((M 78 5)) ((M 78 6 + 1)) := h20
      show V z g 4 (up1 (up1 (up1 M 83 (clS R0 (M 78 9) s0 1 (dgV (M 82) (M 78 6)))) 78 (up (M 78) 6 (M 78 6 + 1))) 78 (up ((up (M 78) 6 (M 78 6 + 1))) 7 ((M 78 6 + 1)))) [(3, iv (14 * (M 78 9))), (0, rf g 78), (1, iv 3), (2, iv 3)] [iv 0, rf g 78] 44
      rw [show ((up1 (up1 (up1 M 83 (clS R0 (M 78 9) s0 1 (dgV (M 82) (M 78 6)))) 78 (up (M 78) 6 (M 78 6 + 1))) 78 (up ((up (M 78) 6 (M 78 6 + 1))) 7 ((M 78 6 + 1)))) : Mem) = (up1 (up1 M 83 (clS R0 (M 78 9) s0 1 (dgV (M 82) (M 78 6)))) 78 (up ((up (M 78) 6 (M 78 6 + 1))) 7 ((M 78 6 + 1)))) from (by
            funext j
            by_cases hj0 : j = 83
            · subst hj0; simp [up1, up1_self]
            by_cases hj1 : j = 78
            · subst hj1; simp [up1, up1_self]
            simp [up1, hj0, hj1])]
      have hDf : (dgs (M 82) (M 78 5) 3 (M 78 6)) = 1 := by rw [hD1, dg_n (by omega)]; rfl
      rw [show ((up1 (up1 M 83 (clS R0 (M 78 9) s0 1 (dgV (M 82) (M 78 6)))) 78 (up ((up (M 78) 6 (M 78 6 + 1))) 7 ((M 78 6 + 1)))) : Mem) = (up1 (up1 M 83 (clS R0 (M 78 9) s0 1 (dgV (M 82) (M 78 6)))) 78 (up (up (M 78) 6 (M 78 6 + 1)) 7 (M 78 6 + 1))) from rfl]
      have hn9 : 0 ≤ clS R0 (M 78 9) s0 1 (dgV (M 82) (M 78 6)) (14 * M 78 9 + 1) ∧ clS R0 (M 78 9) s0 1 (dgV (M 82) (M 78 6)) (14 * M 78 9 + 1) ≤ 11 := by rw [clS_1]; omega
      refine v_callV (na := 1) (i := 78) (C := RX10) (T := TX10) (N := 22) (f0 := (up (up (M 78) 6 (M 78 6 + 1)) 7 (M 78 6 + 1))) ok (ct_X10_tells z.2.1 g (up1 (up1 M 83 (clS R0 (M 78 9) s0 1 (dgV (M 82) (M 78 6)))) 78 (up (up (M 78) 6 (M 78 6 + 1)) 7 (M 78 6 + 1))) 0 (by show 0 ≤ (M 78 9) ∧ (M 78 9) ≤ 11; first | omega | assumption) hn9) gX10_readsDigits_X10_tells (kd_lt (show kd 78 = 10 from rfl) (by decide)) rfl rfl (cellF_10 _ (by decide)) rfl (by decide +kernel) rfl (by decide) [] rfl (Nat.le_of_ble_eq_true rfl) dX10_readsDigits_44 (fun v57 M58 hp56 => ?_)
      obtain ⟨rfl, rfl⟩ := hp56
      show V z g 4 (up1 (up1 (up1 M 83 (clS R0 (M 78 9) s0 1 (dgV (M 82) (M 78 6)))) 78 (up (up (M 78) 6 (M 78 6 + 1)) 7 (M 78 6 + 1))) 83 (up (up ((clS R0 (M 78 9) s0 1 (dgV (M 82) (M 78 6)))) (14 * (M 78 9) + 2 + (clS R0 (M 78 9) s0 1 (dgV (M 82) (M 78 6))) (14 * (M 78 9) + 1)) 0) (14 * (M 78 9) + 1) ((clS R0 (M 78 9) s0 1 (dgV (M 82) (M 78 6))) (14 * (M 78 9) + 1) + 1))) [(3, iv (14 * (M 78 9))), (0, rf g 78), (1, iv 3), (2, iv 3)] [] 47
      rw [show ((up1 (up1 (up1 M 83 (clS R0 (M 78 9) s0 1 (dgV (M 82) (M 78 6)))) 78 (up (up (M 78) 6 (M 78 6 + 1)) 7 (M 78 6 + 1))) 83 (up (up ((clS R0 (M 78 9) s0 1 (dgV (M 82) (M 78 6)))) (14 * (M 78 9) + 2 + (clS R0 (M 78 9) s0 1 (dgV (M 82) (M 78 6))) (14 * (M 78 9) + 1)) 0) (14 * (M 78 9) + 1) ((clS R0 (M 78 9) s0 1 (dgV (M 82) (M 78 6))) (14 * (M 78 9) + 1) + 1))) : Mem) = (up1 (up1 M 83 (up (up ((clS R0 (M 78 9) s0 1 (dgV (M 82) (M 78 6)))) (14 * (M 78 9) + 2 + (clS R0 (M 78 9) s0 1 (dgV (M 82) (M 78 6))) (14 * (M 78 9) + 1)) 0) (14 * (M 78 9) + 1) ((clS R0 (M 78 9) s0 1 (dgV (M 82) (M 78 6))) (14 * (M 78 9) + 1) + 1))) 78 (up (up (M 78) 6 (M 78 6 + 1)) 7 (M 78 6 + 1))) from (by
            funext j
            by_cases hj0 : j = 83
            · subst hj0; simp [up1, up1_self]
            by_cases hj1 : j = 78
            · subst hj1; simp [up1, up1_self]
            simp [up1, hj0, hj1])]
      rw [show ((up1 (up1 M 83 (up (up ((clS R0 (M 78 9) s0 1 (dgV (M 82) (M 78 6)))) (14 * (M 78 9) + 2 + (clS R0 (M 78 9) s0 1 (dgV (M 82) (M 78 6))) (14 * (M 78 9) + 1)) 0) (14 * (M 78 9) + 1) ((clS R0 (M 78 9) s0 1 (dgV (M 82) (M 78 6))) (14 * (M 78 9) + 1) + 1))) 78 (up (up (M 78) 6 (M 78 6 + 1)) 7 (M 78 6 + 1))) : Mem) = (up1 (up1 M 83 (clS R0 (M 78 9) s0 2 (up (dgV (M 82) (M 78 6)) 1 0))) 78 (up (up (M 78) 6 (M 78 6 + 1)) 7 (M 78 6 + 1))) from (by rw [clS_tl _ _ _ _ _ _ (by decide)]; rfl)]
      refine v_goto (tgt := 8) ok dX10_readsDigits_47 (by decide) ?_
      refine v_aload_n ok 1 dX10_readsDigits_8 rfl rfl ?_
      refine v_get (T := TX10) (N := 22) (f0 := (up (up (M 78) 6 (M 78 6 + 1)) 7 (M 78 6 + 1))) (v := rf g 83) ok mi_X10_readsDigits_10 (kd_lt (show kd 78 = 10 from rfl) (by decide)) rfl rfl (cellF_10 _ (by decide)) 8 (by decide) mk_X10_readsDigits_24 rfl rfl dX10_readsDigits_9 ?_
      refine v_iload_n ok 0 dX10_readsDigits_12 rfl rfl ?_
      refine v_iconst (n := 1) ok dX10_readsDigits_13 ?_
      refine v_iadd ok dX10_readsDigits_14 ?_
      refine v_iald (n := 168) (f0 := (clS R0 (M 78 9) s0 2 (up (dgV (M 82) (M 78 6)) 1 0))) ok (by decide) rfl (by omega) rfl dX10_readsDigits_15 ?_
      rw [show (((clS R0 (M 78 9) s0 2 (up (dgV (M 82) (M 78 6)) 1 0)) ((14 * (M 78 9)) + 1)) : Int) = 2 from (clS_1 _ _ _ _ _)]
      refine v_iload_n ok 2 dX10_readsDigits_16 rfl rfl ?_
      refine v_icmp_lt (tgt := 39) ok (by decide) (by decide) dX10_readsDigits_17 (by decide) (fun c59 => ?_) (fun c59 => absurd c59 (by decide))
      refine v_aload_n ok 1 dX10_readsDigits_39 rfl rfl ?_
      refine v_aload_n ok 1 dX10_readsDigits_40 rfl rfl ?_
      refine v_callV (na := 0) (i := 78) (C := RX10) (T := TX10) (N := 22) (f0 := (up (up (M 78) 6 (M 78 6 + 1)) 7 (M 78 6 + 1))) ok (ct_X10_figure z.2.1 g (up1 (up1 M 83 (clS R0 (M 78 9) s0 2 (up (dgV (M 82) (M 78 6)) 1 0))) 78 (up (up (M 78) 6 (M 78 6 + 1)) 7 (M 78 6 + 1)))  (by show 0 ≤ (M 78 5) ∧ (M 78 5) ≤ 100; first | omega | assumption) (by show 0 ≤ (M 78 6 + 1) ∧ (M 78 6 + 1) ≤ 100; first | omega | assumption) (by show -1 ≤ (M 78 6 + 1) ∧ (M 78 6 + 1) ≤ 1000; first | omega | assumption) (by show bdf ((M 82)) 100 0 127; first | omega | assumption)) gX10_readsDigits_X10_figure (kd_lt (show kd 78 = 10 from rfl) (by decide)) rfl rfl (cellF_10 _ (by decide)) rfl (by decide +kernel) rfl (by decide) [rf g 78] rfl (Nat.le_of_ble_eq_true rfl) dX10_readsDigits_41 (fun v61 M62 hp60 => ?_)
      rcases hp60 with ⟨rfl, rfl, h63, h64⟩ | ⟨rfl, rfl, h65, h66⟩ | ⟨rfl, rfl, h67⟩
      · skip
        have h63 : (M 78 6 + 1) < 0 := h63
        have h64 : dig ((M 82)) ((M 78 5)) ((M 78 6 + 1)) := h64
        show V z g 4 (up1 (up1 (up1 M 83 (clS R0 (M 78 9) s0 2 (up (dgV (M 82) (M 78 6)) 1 0))) 78 (up (up (M 78) 6 (M 78 6 + 1)) 7 (M 78 6 + 1))) 78 (up ((up (up (M 78) 6 (M 78 6 + 1)) 7 (M 78 6 + 1))) 6 ((M 78 6 + 1) + 1))) [(3, iv (14 * (M 78 9))), (0, rf g 78), (1, iv 3), (2, iv 3)] [iv ((M 82) ((M 78 6 + 1)) - 48), rf g 78] 44
        rw [show ((up1 (up1 (up1 M 83 (clS R0 (M 78 9) s0 2 (up (dgV (M 82) (M 78 6)) 1 0))) 78 (up (up (M 78) 6 (M 78 6 + 1)) 7 (M 78 6 + 1))) 78 (up ((up (up (M 78) 6 (M 78 6 + 1)) 7 (M 78 6 + 1))) 6 ((M 78 6 + 1) + 1))) : Mem) = (up1 (up1 M 83 (clS R0 (M 78 9) s0 2 (up (dgV (M 82) (M 78 6)) 1 0))) 78 (up ((up (up (M 78) 6 (M 78 6 + 1)) 7 (M 78 6 + 1))) 6 ((M 78 6 + 1) + 1))) from (by
              funext j
              by_cases hj0 : j = 83
              · subst hj0; simp [up1, up1_self]
              by_cases hj1 : j = 78
              · subst hj1; simp [up1, up1_self]
              simp [up1, hj0, hj1])]
        exfalso; omega
      · skip
        have h65 : (M 78 6 + 1) < 0 := h65
        have h66 : ¬ dig ((M 82)) ((M 78 5)) ((M 78 6 + 1)) := h66
        show V z g 4 (up1 (up1 (up1 M 83 (clS R0 (M 78 9) s0 2 (up (dgV (M 82) (M 78 6)) 1 0))) 78 (up (up (M 78) 6 (M 78 6 + 1)) 7 (M 78 6 + 1))) 78 (up ((up (up (M 78) 6 (M 78 6 + 1)) 7 (M 78 6 + 1))) 7 ((M 78 6 + 1)))) [(3, iv (14 * (M 78 9))), (0, rf g 78), (1, iv 3), (2, iv 3)] [iv 0, rf g 78] 44
        rw [show ((up1 (up1 (up1 M 83 (clS R0 (M 78 9) s0 2 (up (dgV (M 82) (M 78 6)) 1 0))) 78 (up (up (M 78) 6 (M 78 6 + 1)) 7 (M 78 6 + 1))) 78 (up ((up (up (M 78) 6 (M 78 6 + 1)) 7 (M 78 6 + 1))) 7 ((M 78 6 + 1)))) : Mem) = (up1 (up1 M 83 (clS R0 (M 78 9) s0 2 (up (dgV (M 82) (M 78 6)) 1 0))) 78 (up ((up (up (M 78) 6 (M 78 6 + 1)) 7 (M 78 6 + 1))) 7 ((M 78 6 + 1)))) from (by
              funext j
              by_cases hj0 : j = 83
              · subst hj0; simp [up1, up1_self]
              by_cases hj1 : j = 78
              · subst hj1; simp [up1, up1_self]
              simp [up1, hj0, hj1])]
        exfalso; omega
      · skip
        have h67 : ¬ (M 78 6 + 1) < 0 := h67
        show V z g 4 (up1 (up1 (up1 M 83 (clS R0 (M 78 9) s0 2 (up (dgV (M 82) (M 78 6)) 1 0))) 78 (up (up (M 78) 6 (M 78 6 + 1)) 7 (M 78 6 + 1))) 78 (up ((up (up (M 78) 6 (M 78 6 + 1)) 7 (M 78 6 + 1))) 7 ((M 78 6 + 1)))) [(3, iv (14 * (M 78 9))), (0, rf g 78), (1, iv 3), (2, iv 3)] [iv 0, rf g 78] 44
        rw [show ((up1 (up1 (up1 M 83 (clS R0 (M 78 9) s0 2 (up (dgV (M 82) (M 78 6)) 1 0))) 78 (up (up (M 78) 6 (M 78 6 + 1)) 7 (M 78 6 + 1))) 78 (up ((up (up (M 78) 6 (M 78 6 + 1)) 7 (M 78 6 + 1))) 7 ((M 78 6 + 1)))) : Mem) = (up1 (up1 M 83 (clS R0 (M 78 9) s0 2 (up (dgV (M 82) (M 78 6)) 1 0))) 78 (up ((up (up (M 78) 6 (M 78 6 + 1)) 7 (M 78 6 + 1))) 7 ((M 78 6 + 1)))) from (by
              funext j
              by_cases hj0 : j = 83
              · subst hj0; simp [up1, up1_self]
              by_cases hj1 : j = 78
              · subst hj1; simp [up1, up1_self]
              simp [up1, hj0, hj1])]
        rw [show ((up1 (up1 M 83 (clS R0 (M 78 9) s0 2 (up (dgV (M 82) (M 78 6)) 1 0))) 78 (up ((up (up (M 78) 6 (M 78 6 + 1)) 7 (M 78 6 + 1))) 7 ((M 78 6 + 1)))) : Mem) = (up1 (up1 M 83 (clS R0 (M 78 9) s0 2 (up (dgV (M 82) (M 78 6)) 1 0))) 78 (up (up (M 78) 6 (M 78 6 + 1)) 7 (M 78 6 + 1))) from (by rw [up_up])]
        have hn9 : 0 ≤ clS R0 (M 78 9) s0 2 (up (dgV (M 82) (M 78 6)) 1 0) (14 * M 78 9 + 1) ∧ clS R0 (M 78 9) s0 2 (up (dgV (M 82) (M 78 6)) 1 0) (14 * M 78 9 + 1) ≤ 11 := by rw [clS_1]; omega
        refine v_callV (na := 1) (i := 78) (C := RX10) (T := TX10) (N := 22) (f0 := (up (up (M 78) 6 (M 78 6 + 1)) 7 (M 78 6 + 1))) ok (ct_X10_tells z.2.1 g (up1 (up1 M 83 (clS R0 (M 78 9) s0 2 (up (dgV (M 82) (M 78 6)) 1 0))) 78 (up (up (M 78) 6 (M 78 6 + 1)) 7 (M 78 6 + 1))) 0 (by show 0 ≤ (M 78 9) ∧ (M 78 9) ≤ 11; first | omega | assumption) hn9) gX10_readsDigits_X10_tells (kd_lt (show kd 78 = 10 from rfl) (by decide)) rfl rfl (cellF_10 _ (by decide)) rfl (by decide +kernel) rfl (by decide) [] rfl (Nat.le_of_ble_eq_true rfl) dX10_readsDigits_44 (fun v69 M70 hp68 => ?_)
        obtain ⟨rfl, rfl⟩ := hp68
        show V z g 4 (up1 (up1 (up1 M 83 (clS R0 (M 78 9) s0 2 (up (dgV (M 82) (M 78 6)) 1 0))) 78 (up (up (M 78) 6 (M 78 6 + 1)) 7 (M 78 6 + 1))) 83 (up (up ((clS R0 (M 78 9) s0 2 (up (dgV (M 82) (M 78 6)) 1 0))) (14 * (M 78 9) + 2 + (clS R0 (M 78 9) s0 2 (up (dgV (M 82) (M 78 6)) 1 0)) (14 * (M 78 9) + 1)) 0) (14 * (M 78 9) + 1) ((clS R0 (M 78 9) s0 2 (up (dgV (M 82) (M 78 6)) 1 0)) (14 * (M 78 9) + 1) + 1))) [(3, iv (14 * (M 78 9))), (0, rf g 78), (1, iv 3), (2, iv 3)] [] 47
        rw [show ((up1 (up1 (up1 M 83 (clS R0 (M 78 9) s0 2 (up (dgV (M 82) (M 78 6)) 1 0))) 78 (up (up (M 78) 6 (M 78 6 + 1)) 7 (M 78 6 + 1))) 83 (up (up ((clS R0 (M 78 9) s0 2 (up (dgV (M 82) (M 78 6)) 1 0))) (14 * (M 78 9) + 2 + (clS R0 (M 78 9) s0 2 (up (dgV (M 82) (M 78 6)) 1 0)) (14 * (M 78 9) + 1)) 0) (14 * (M 78 9) + 1) ((clS R0 (M 78 9) s0 2 (up (dgV (M 82) (M 78 6)) 1 0)) (14 * (M 78 9) + 1) + 1))) : Mem) = (up1 (up1 M 83 (up (up ((clS R0 (M 78 9) s0 2 (up (dgV (M 82) (M 78 6)) 1 0))) (14 * (M 78 9) + 2 + (clS R0 (M 78 9) s0 2 (up (dgV (M 82) (M 78 6)) 1 0)) (14 * (M 78 9) + 1)) 0) (14 * (M 78 9) + 1) ((clS R0 (M 78 9) s0 2 (up (dgV (M 82) (M 78 6)) 1 0)) (14 * (M 78 9) + 1) + 1))) 78 (up (up (M 78) 6 (M 78 6 + 1)) 7 (M 78 6 + 1))) from (by
              funext j
              by_cases hj0 : j = 83
              · subst hj0; simp [up1, up1_self]
              by_cases hj1 : j = 78
              · subst hj1; simp [up1, up1_self]
              simp [up1, hj0, hj1])]
        rw [show ((up1 (up1 M 83 (up (up ((clS R0 (M 78 9) s0 2 (up (dgV (M 82) (M 78 6)) 1 0))) (14 * (M 78 9) + 2 + (clS R0 (M 78 9) s0 2 (up (dgV (M 82) (M 78 6)) 1 0)) (14 * (M 78 9) + 1)) 0) (14 * (M 78 9) + 1) ((clS R0 (M 78 9) s0 2 (up (dgV (M 82) (M 78 6)) 1 0)) (14 * (M 78 9) + 1) + 1))) 78 (up (up (M 78) 6 (M 78 6 + 1)) 7 (M 78 6 + 1))) : Mem) = (up1 (up1 M 83 (clS R0 (M 78 9) s0 3 (up (up (dgV (M 82) (M 78 6)) 1 0) 2 0))) 78 (up (up (M 78) 6 (M 78 6 + 1)) 7 (M 78 6 + 1))) from (by rw [clS_tl _ _ _ _ _ _ (by decide)]; rfl)]
        refine v_goto (tgt := 8) ok dX10_readsDigits_47 (by decide) ?_
        refine v_aload_n ok 1 dX10_readsDigits_8 rfl rfl ?_
        refine v_get (T := TX10) (N := 22) (f0 := (up (up (M 78) 6 (M 78 6 + 1)) 7 (M 78 6 + 1))) (v := rf g 83) ok mi_X10_readsDigits_10 (kd_lt (show kd 78 = 10 from rfl) (by decide)) rfl rfl (cellF_10 _ (by decide)) 8 (by decide) mk_X10_readsDigits_24 rfl rfl dX10_readsDigits_9 ?_
        refine v_iload_n ok 0 dX10_readsDigits_12 rfl rfl ?_
        refine v_iconst (n := 1) ok dX10_readsDigits_13 ?_
        refine v_iadd ok dX10_readsDigits_14 ?_
        refine v_iald (n := 168) (f0 := (clS R0 (M 78 9) s0 3 (up (up (dgV (M 82) (M 78 6)) 1 0) 2 0))) ok (by decide) rfl (by omega) rfl dX10_readsDigits_15 ?_
        rw [show (((clS R0 (M 78 9) s0 3 (up (up (dgV (M 82) (M 78 6)) 1 0) 2 0)) ((14 * (M 78 9)) + 1)) : Int) = 3 from (clS_1 _ _ _ _ _)]
        refine v_iload_n ok 2 dX10_readsDigits_16 rfl rfl ?_
        refine v_icmp_lt (tgt := 39) ok (by decide) (by decide) dX10_readsDigits_17 (by decide) (fun c71 => absurd c71 (by decide)) (fun c71 => ?_)
        refine v_aload_n ok 1 dX10_readsDigits_20 rfl rfl ?_
        refine v_callV (na := 0) (i := 78) (C := RX10) (T := TX10) (N := 22) (f0 := (up (up (M 78) 6 (M 78 6 + 1)) 7 (M 78 6 + 1))) ok (ct_X10_isDigit z.2.1 g (up1 (up1 M 83 (clS R0 (M 78 9) s0 3 (up (up (dgV (M 82) (M 78 6)) 1 0) 2 0))) 78 (up (up (M 78) 6 (M 78 6 + 1)) 7 (M 78 6 + 1)))  (by show 0 ≤ (M 78 5) ∧ (M 78 5) ≤ 100; first | omega | assumption) (by show 0 ≤ (M 78 6 + 1) ∧ (M 78 6 + 1) ≤ 100; first | omega | assumption) (by show -1 ≤ (M 78 6 + 1) ∧ (M 78 6 + 1) ≤ 1000; first | omega | assumption) (by show bdf ((M 82)) 100 0 127; first | omega | assumption)) gX10_readsDigits_X10_isDigit (kd_lt (show kd 78 = 10 from rfl) (by decide)) rfl rfl (cellF_10 _ (by decide)) rfl (by decide +kernel) rfl (by decide) [] rfl (Nat.le_of_ble_eq_true rfl) dX10_readsDigits_21 (fun v73 M74 hp72 => ?_)
        rcases hp72 with ⟨rfl, rfl, h75⟩ | ⟨rfl, rfl, h76⟩
        · skip
          have h75 : (M 78 6 + 1) < 0 ∧ dig ((M 82)) ((M 78 5)) ((M 78 6 + 1)) := h75
          show V z g 4 (up1 (up1 M 83 (clS R0 (M 78 9) s0 3 (up (up (dgV (M 82) (M 78 6)) 1 0) 2 0))) 78 (up (up (M 78) 6 (M 78 6 + 1)) 7 (M 78 6 + 1))) [(3, iv (14 * (M 78 9))), (0, rf g 78), (1, iv 3), (2, iv 3)] [iv 1] 24
          exfalso; omega
        · skip
          have h76 : ¬ ((M 78 6 + 1) < 0 ∧ dig ((M 82)) ((M 78 5)) ((M 78 6 + 1))) := h76
          show V z g 4 (up1 (up1 M 83 (clS R0 (M 78 9) s0 3 (up (up (dgV (M 82) (M 78 6)) 1 0) 2 0))) 78 (up (up (M 78) 6 (M 78 6 + 1)) 7 (M 78 6 + 1))) [(3, iv (14 * (M 78 9))), (0, rf g 78), (1, iv 3), (2, iv 3)] [iv 0] 24
          refine v_if_eq (tgt := 50) ok (by decide) dX10_readsDigits_24 (by decide) (fun c77 => ?_) (fun c77 => absurd c77 (by decide))
          rw [show ((up1 (up1 M 83 (clS R0 (M 78 9) s0 3 (up (up (dgV (M 82) (M 78 6)) 1 0) 2 0))) 78 (up (up (M 78) 6 (M 78 6 + 1)) 7 (M 78 6 + 1))) : Mem) = (up1 (up1 M 83 (clS R0 (M 78 9) s0 3 (up (up (dgV (M 82) (M 78 6)) 1 0) 2 0))) 78 (up (up (M 78) 6 (M 78 6 + (dgs (M 82) (M 78 5) 3 (M 78 6)))) 7 (M 78 6 + (dgs (M 82) (M 78 5) 3 (M 78 6))))) from (by rw [hDf])]
          exact v_vret ok rt dX10_readsDigits_50 (Or.inr (⟨(clS R0 (M 78 9) s0 3 (up (up (dgV (M 82) (M 78 6)) 1 0) 2 0)), rfl, rfl, (by omega)⟩))
    · skip
      have h21 : ¬ (M 78 7) < 0 := h21
      show V z g 4 (up1 (up1 (up1 M 83 (clS R0 (M 78 9) s0 1 (dgV (M 82) (M 78 6)))) 78 (up (M 78) 6 (M 78 6 + 1))) 78 (up ((up (M 78) 6 (M 78 6 + 1))) 7 ((M 78 7)))) [(3, iv (14 * (M 78 9))), (0, rf g 78), (1, iv 3), (2, iv 3)] [iv 0, rf g 78] 44
      rw [show ((up1 (up1 (up1 M 83 (clS R0 (M 78 9) s0 1 (dgV (M 82) (M 78 6)))) 78 (up (M 78) 6 (M 78 6 + 1))) 78 (up ((up (M 78) 6 (M 78 6 + 1))) 7 ((M 78 7)))) : Mem) = (up1 (up1 M 83 (clS R0 (M 78 9) s0 1 (dgV (M 82) (M 78 6)))) 78 (up ((up (M 78) 6 (M 78 6 + 1))) 7 ((M 78 7)))) from (by
            funext j
            by_cases hj0 : j = 83
            · subst hj0; simp [up1, up1_self]
            by_cases hj1 : j = 78
            · subst hj1; simp [up1, up1_self]
            simp [up1, hj0, hj1])]
      exfalso; omega
  · skip
    have h7 : (M 78) 7 < 0 := h7
    have h8 : ¬ dig ((M 82)) ((M 78) 5) ((M 78) 6) := h8
    show V z g 4 (up1 (up1 M 83 (clS R0 (M 78 9) s0 0 (dgV (M 82) (M 78 6)))) 78 (up ((M 78)) 7 ((M 78) 6))) [(3, iv (14 * (M 78 9))), (0, rf g 78), (1, iv 3), (2, iv 3)] [iv 0, rf g 78] 44
    have hDf : (dgs (M 82) (M 78 5) 3 (M 78 6)) = 0 := by rw [dg_n (by omega)]
    have hn9 : 0 ≤ clS R0 (M 78 9) s0 0 (dgV (M 82) (M 78 6)) (14 * M 78 9 + 1) ∧ clS R0 (M 78 9) s0 0 (dgV (M 82) (M 78 6)) (14 * M 78 9 + 1) ≤ 11 := by rw [clS_1]; omega
    refine v_callV (na := 1) (i := 78) (C := RX10) (T := TX10) (N := 22) (f0 := (up ((M 78)) 7 ((M 78) 6))) ok (ct_X10_tells z.2.1 g (up1 (up1 M 83 (clS R0 (M 78 9) s0 0 (dgV (M 82) (M 78 6)))) 78 (up ((M 78)) 7 ((M 78) 6))) 0 (by show 0 ≤ ((M 78) 9) ∧ ((M 78) 9) ≤ 11; first | omega | assumption) hn9) gX10_readsDigits_X10_tells (kd_lt (show kd 78 = 10 from rfl) (by decide)) rfl rfl (cellF_10 _ (by decide)) rfl (by decide +kernel) rfl (by decide) [] rfl (Nat.le_of_ble_eq_true rfl) dX10_readsDigits_44 (fun v79 M80 hp78 => ?_)
    obtain ⟨rfl, rfl⟩ := hp78
    show V z g 4 (up1 (up1 (up1 M 83 (clS R0 (M 78 9) s0 0 (dgV (M 82) (M 78 6)))) 78 (up ((M 78)) 7 ((M 78) 6))) 83 (up (up ((clS R0 (M 78 9) s0 0 (dgV (M 82) (M 78 6)))) (14 * ((M 78) 9) + 2 + (clS R0 (M 78 9) s0 0 (dgV (M 82) (M 78 6))) (14 * ((M 78) 9) + 1)) 0) (14 * ((M 78) 9) + 1) ((clS R0 (M 78 9) s0 0 (dgV (M 82) (M 78 6))) (14 * ((M 78) 9) + 1) + 1))) [(3, iv (14 * (M 78 9))), (0, rf g 78), (1, iv 3), (2, iv 3)] [] 47
    rw [show ((up1 (up1 (up1 M 83 (clS R0 (M 78 9) s0 0 (dgV (M 82) (M 78 6)))) 78 (up ((M 78)) 7 ((M 78) 6))) 83 (up (up ((clS R0 (M 78 9) s0 0 (dgV (M 82) (M 78 6)))) (14 * ((M 78) 9) + 2 + (clS R0 (M 78 9) s0 0 (dgV (M 82) (M 78 6))) (14 * ((M 78) 9) + 1)) 0) (14 * ((M 78) 9) + 1) ((clS R0 (M 78 9) s0 0 (dgV (M 82) (M 78 6))) (14 * ((M 78) 9) + 1) + 1))) : Mem) = (up1 (up1 M 83 (up (up ((clS R0 (M 78 9) s0 0 (dgV (M 82) (M 78 6)))) (14 * ((M 78) 9) + 2 + (clS R0 (M 78 9) s0 0 (dgV (M 82) (M 78 6))) (14 * ((M 78) 9) + 1)) 0) (14 * ((M 78) 9) + 1) ((clS R0 (M 78 9) s0 0 (dgV (M 82) (M 78 6))) (14 * ((M 78) 9) + 1) + 1))) 78 (up ((M 78)) 7 ((M 78) 6))) from (by
          funext j
          by_cases hj0 : j = 83
          · subst hj0; simp [up1, up1_self]
          by_cases hj1 : j = 78
          · subst hj1; simp [up1, up1_self]
          simp [up1, hj0, hj1])]
    rw [show ((up1 (up1 M 83 (up (up ((clS R0 (M 78 9) s0 0 (dgV (M 82) (M 78 6)))) (14 * ((M 78) 9) + 2 + (clS R0 (M 78 9) s0 0 (dgV (M 82) (M 78 6))) (14 * ((M 78) 9) + 1)) 0) (14 * ((M 78) 9) + 1) ((clS R0 (M 78 9) s0 0 (dgV (M 82) (M 78 6))) (14 * ((M 78) 9) + 1) + 1))) 78 (up ((M 78)) 7 ((M 78) 6))) : Mem) = (up1 (up1 M 83 (clS R0 (M 78 9) s0 1 (up (dgV (M 82) (M 78 6)) 0 0))) 78 (up ((M 78)) 7 ((M 78) 6))) from (by rw [clS_tl _ _ _ _ _ _ (by decide)]; rfl)]
    refine v_goto (tgt := 8) ok dX10_readsDigits_47 (by decide) ?_
    refine v_aload_n ok 1 dX10_readsDigits_8 rfl rfl ?_
    refine v_get (T := TX10) (N := 22) (f0 := (up ((M 78)) 7 ((M 78) 6))) (v := rf g 83) ok mi_X10_readsDigits_10 (kd_lt (show kd 78 = 10 from rfl) (by decide)) rfl rfl (cellF_10 _ (by decide)) 8 (by decide) mk_X10_readsDigits_24 rfl rfl dX10_readsDigits_9 ?_
    refine v_iload_n ok 0 dX10_readsDigits_12 rfl rfl ?_
    refine v_iconst (n := 1) ok dX10_readsDigits_13 ?_
    refine v_iadd ok dX10_readsDigits_14 ?_
    refine v_iald (n := 168) (f0 := (clS R0 (M 78 9) s0 1 (up (dgV (M 82) (M 78 6)) 0 0))) ok (by decide) rfl (by omega) rfl dX10_readsDigits_15 ?_
    rw [show (((clS R0 (M 78 9) s0 1 (up (dgV (M 82) (M 78 6)) 0 0)) ((14 * (M 78 9)) + 1)) : Int) = 1 from (clS_1 _ _ _ _ _)]
    refine v_iload_n ok 2 dX10_readsDigits_16 rfl rfl ?_
    refine v_icmp_lt (tgt := 39) ok (by decide) (by decide) dX10_readsDigits_17 (by decide) (fun c81 => ?_) (fun c81 => absurd c81 (by decide))
    refine v_aload_n ok 1 dX10_readsDigits_39 rfl rfl ?_
    refine v_aload_n ok 1 dX10_readsDigits_40 rfl rfl ?_
    refine v_callV (na := 0) (i := 78) (C := RX10) (T := TX10) (N := 22) (f0 := (up ((M 78)) 7 ((M 78) 6))) ok (ct_X10_figure z.2.1 g (up1 (up1 M 83 (clS R0 (M 78 9) s0 1 (up (dgV (M 82) (M 78 6)) 0 0))) 78 (up ((M 78)) 7 ((M 78) 6)))  (by show 0 ≤ ((M 78) 5) ∧ ((M 78) 5) ≤ 100; first | omega | assumption) (by show 0 ≤ ((M 78) 6) ∧ ((M 78) 6) ≤ 100; first | omega | assumption) (by show -1 ≤ ((M 78) 6) ∧ ((M 78) 6) ≤ 1000; first | omega | assumption) (by show bdf ((M 82)) 100 0 127; first | omega | assumption)) gX10_readsDigits_X10_figure (kd_lt (show kd 78 = 10 from rfl) (by decide)) rfl rfl (cellF_10 _ (by decide)) rfl (by decide +kernel) rfl (by decide) [rf g 78] rfl (Nat.le_of_ble_eq_true rfl) dX10_readsDigits_41 (fun v83 M84 hp82 => ?_)
    rcases hp82 with ⟨rfl, rfl, h85, h86⟩ | ⟨rfl, rfl, h87, h88⟩ | ⟨rfl, rfl, h89⟩
    · skip
      have h85 : ((M 78) 6) < 0 := h85
      have h86 : dig ((M 82)) (((M 78) 5)) (((M 78) 6)) := h86
      show V z g 4 (up1 (up1 (up1 M 83 (clS R0 (M 78 9) s0 1 (up (dgV (M 82) (M 78 6)) 0 0))) 78 (up ((M 78)) 7 ((M 78) 6))) 78 (up ((up ((M 78)) 7 ((M 78) 6))) 6 (((M 78) 6) + 1))) [(3, iv (14 * (M 78 9))), (0, rf g 78), (1, iv 3), (2, iv 3)] [iv ((M 82) (((M 78) 6)) - 48), rf g 78] 44
      rw [show ((up1 (up1 (up1 M 83 (clS R0 (M 78 9) s0 1 (up (dgV (M 82) (M 78 6)) 0 0))) 78 (up ((M 78)) 7 ((M 78) 6))) 78 (up ((up ((M 78)) 7 ((M 78) 6))) 6 (((M 78) 6) + 1))) : Mem) = (up1 (up1 M 83 (clS R0 (M 78 9) s0 1 (up (dgV (M 82) (M 78 6)) 0 0))) 78 (up ((up ((M 78)) 7 ((M 78) 6))) 6 (((M 78) 6) + 1))) from (by
            funext j
            by_cases hj0 : j = 83
            · subst hj0; simp [up1, up1_self]
            by_cases hj1 : j = 78
            · subst hj1; simp [up1, up1_self]
            simp [up1, hj0, hj1])]
      exfalso; omega
    · skip
      have h87 : ((M 78) 6) < 0 := h87
      have h88 : ¬ dig ((M 82)) (((M 78) 5)) (((M 78) 6)) := h88
      show V z g 4 (up1 (up1 (up1 M 83 (clS R0 (M 78 9) s0 1 (up (dgV (M 82) (M 78 6)) 0 0))) 78 (up ((M 78)) 7 ((M 78) 6))) 78 (up ((up ((M 78)) 7 ((M 78) 6))) 7 (((M 78) 6)))) [(3, iv (14 * (M 78 9))), (0, rf g 78), (1, iv 3), (2, iv 3)] [iv 0, rf g 78] 44
      rw [show ((up1 (up1 (up1 M 83 (clS R0 (M 78 9) s0 1 (up (dgV (M 82) (M 78 6)) 0 0))) 78 (up ((M 78)) 7 ((M 78) 6))) 78 (up ((up ((M 78)) 7 ((M 78) 6))) 7 (((M 78) 6)))) : Mem) = (up1 (up1 M 83 (clS R0 (M 78 9) s0 1 (up (dgV (M 82) (M 78 6)) 0 0))) 78 (up ((up ((M 78)) 7 ((M 78) 6))) 7 (((M 78) 6)))) from (by
            funext j
            by_cases hj0 : j = 83
            · subst hj0; simp [up1, up1_self]
            by_cases hj1 : j = 78
            · subst hj1; simp [up1, up1_self]
            simp [up1, hj0, hj1])]
      exfalso; omega
    · skip
      have h89 : ¬ ((M 78) 6) < 0 := h89
      show V z g 4 (up1 (up1 (up1 M 83 (clS R0 (M 78 9) s0 1 (up (dgV (M 82) (M 78 6)) 0 0))) 78 (up ((M 78)) 7 ((M 78) 6))) 78 (up ((up ((M 78)) 7 ((M 78) 6))) 7 (((M 78) 6)))) [(3, iv (14 * (M 78 9))), (0, rf g 78), (1, iv 3), (2, iv 3)] [iv 0, rf g 78] 44
      rw [show ((up1 (up1 (up1 M 83 (clS R0 (M 78 9) s0 1 (up (dgV (M 82) (M 78 6)) 0 0))) 78 (up ((M 78)) 7 ((M 78) 6))) 78 (up ((up ((M 78)) 7 ((M 78) 6))) 7 (((M 78) 6)))) : Mem) = (up1 (up1 M 83 (clS R0 (M 78 9) s0 1 (up (dgV (M 82) (M 78 6)) 0 0))) 78 (up ((up ((M 78)) 7 ((M 78) 6))) 7 (((M 78) 6)))) from (by
            funext j
            by_cases hj0 : j = 83
            · subst hj0; simp [up1, up1_self]
            by_cases hj1 : j = 78
            · subst hj1; simp [up1, up1_self]
            simp [up1, hj0, hj1])]
      rw [show ((up1 (up1 M 83 (clS R0 (M 78 9) s0 1 (up (dgV (M 82) (M 78 6)) 0 0))) 78 (up ((up ((M 78)) 7 ((M 78) 6))) 7 (((M 78) 6)))) : Mem) = (up1 (up1 M 83 (clS R0 (M 78 9) s0 1 (up (dgV (M 82) (M 78 6)) 0 0))) 78 (up (M 78) 7 (M 78 6))) from (by rw [up_up])]
      have hn9 : 0 ≤ clS R0 (M 78 9) s0 1 (up (dgV (M 82) (M 78 6)) 0 0) (14 * M 78 9 + 1) ∧ clS R0 (M 78 9) s0 1 (up (dgV (M 82) (M 78 6)) 0 0) (14 * M 78 9 + 1) ≤ 11 := by rw [clS_1]; omega
      refine v_callV (na := 1) (i := 78) (C := RX10) (T := TX10) (N := 22) (f0 := (up (M 78) 7 (M 78 6))) ok (ct_X10_tells z.2.1 g (up1 (up1 M 83 (clS R0 (M 78 9) s0 1 (up (dgV (M 82) (M 78 6)) 0 0))) 78 (up (M 78) 7 (M 78 6))) 0 (by show 0 ≤ (M 78 9) ∧ (M 78 9) ≤ 11; first | omega | assumption) hn9) gX10_readsDigits_X10_tells (kd_lt (show kd 78 = 10 from rfl) (by decide)) rfl rfl (cellF_10 _ (by decide)) rfl (by decide +kernel) rfl (by decide) [] rfl (Nat.le_of_ble_eq_true rfl) dX10_readsDigits_44 (fun v91 M92 hp90 => ?_)
      obtain ⟨rfl, rfl⟩ := hp90
      show V z g 4 (up1 (up1 (up1 M 83 (clS R0 (M 78 9) s0 1 (up (dgV (M 82) (M 78 6)) 0 0))) 78 (up (M 78) 7 (M 78 6))) 83 (up (up ((clS R0 (M 78 9) s0 1 (up (dgV (M 82) (M 78 6)) 0 0))) (14 * (M 78 9) + 2 + (clS R0 (M 78 9) s0 1 (up (dgV (M 82) (M 78 6)) 0 0)) (14 * (M 78 9) + 1)) 0) (14 * (M 78 9) + 1) ((clS R0 (M 78 9) s0 1 (up (dgV (M 82) (M 78 6)) 0 0)) (14 * (M 78 9) + 1) + 1))) [(3, iv (14 * (M 78 9))), (0, rf g 78), (1, iv 3), (2, iv 3)] [] 47
      rw [show ((up1 (up1 (up1 M 83 (clS R0 (M 78 9) s0 1 (up (dgV (M 82) (M 78 6)) 0 0))) 78 (up (M 78) 7 (M 78 6))) 83 (up (up ((clS R0 (M 78 9) s0 1 (up (dgV (M 82) (M 78 6)) 0 0))) (14 * (M 78 9) + 2 + (clS R0 (M 78 9) s0 1 (up (dgV (M 82) (M 78 6)) 0 0)) (14 * (M 78 9) + 1)) 0) (14 * (M 78 9) + 1) ((clS R0 (M 78 9) s0 1 (up (dgV (M 82) (M 78 6)) 0 0)) (14 * (M 78 9) + 1) + 1))) : Mem) = (up1 (up1 M 83 (up (up ((clS R0 (M 78 9) s0 1 (up (dgV (M 82) (M 78 6)) 0 0))) (14 * (M 78 9) + 2 + (clS R0 (M 78 9) s0 1 (up (dgV (M 82) (M 78 6)) 0 0)) (14 * (M 78 9) + 1)) 0) (14 * (M 78 9) + 1) ((clS R0 (M 78 9) s0 1 (up (dgV (M 82) (M 78 6)) 0 0)) (14 * (M 78 9) + 1) + 1))) 78 (up (M 78) 7 (M 78 6))) from (by
            funext j
            by_cases hj0 : j = 83
            · subst hj0; simp [up1, up1_self]
            by_cases hj1 : j = 78
            · subst hj1; simp [up1, up1_self]
            simp [up1, hj0, hj1])]
      rw [show ((up1 (up1 M 83 (up (up ((clS R0 (M 78 9) s0 1 (up (dgV (M 82) (M 78 6)) 0 0))) (14 * (M 78 9) + 2 + (clS R0 (M 78 9) s0 1 (up (dgV (M 82) (M 78 6)) 0 0)) (14 * (M 78 9) + 1)) 0) (14 * (M 78 9) + 1) ((clS R0 (M 78 9) s0 1 (up (dgV (M 82) (M 78 6)) 0 0)) (14 * (M 78 9) + 1) + 1))) 78 (up (M 78) 7 (M 78 6))) : Mem) = (up1 (up1 M 83 (clS R0 (M 78 9) s0 2 (up (up (dgV (M 82) (M 78 6)) 0 0) 1 0))) 78 (up (M 78) 7 (M 78 6))) from (by rw [clS_tl _ _ _ _ _ _ (by decide)]; rfl)]
      refine v_goto (tgt := 8) ok dX10_readsDigits_47 (by decide) ?_
      refine v_aload_n ok 1 dX10_readsDigits_8 rfl rfl ?_
      refine v_get (T := TX10) (N := 22) (f0 := (up (M 78) 7 (M 78 6))) (v := rf g 83) ok mi_X10_readsDigits_10 (kd_lt (show kd 78 = 10 from rfl) (by decide)) rfl rfl (cellF_10 _ (by decide)) 8 (by decide) mk_X10_readsDigits_24 rfl rfl dX10_readsDigits_9 ?_
      refine v_iload_n ok 0 dX10_readsDigits_12 rfl rfl ?_
      refine v_iconst (n := 1) ok dX10_readsDigits_13 ?_
      refine v_iadd ok dX10_readsDigits_14 ?_
      refine v_iald (n := 168) (f0 := (clS R0 (M 78 9) s0 2 (up (up (dgV (M 82) (M 78 6)) 0 0) 1 0))) ok (by decide) rfl (by omega) rfl dX10_readsDigits_15 ?_
      rw [show (((clS R0 (M 78 9) s0 2 (up (up (dgV (M 82) (M 78 6)) 0 0) 1 0)) ((14 * (M 78 9)) + 1)) : Int) = 2 from (clS_1 _ _ _ _ _)]
      refine v_iload_n ok 2 dX10_readsDigits_16 rfl rfl ?_
      refine v_icmp_lt (tgt := 39) ok (by decide) (by decide) dX10_readsDigits_17 (by decide) (fun c93 => ?_) (fun c93 => absurd c93 (by decide))
      refine v_aload_n ok 1 dX10_readsDigits_39 rfl rfl ?_
      refine v_aload_n ok 1 dX10_readsDigits_40 rfl rfl ?_
      refine v_callV (na := 0) (i := 78) (C := RX10) (T := TX10) (N := 22) (f0 := (up (M 78) 7 (M 78 6))) ok (ct_X10_figure z.2.1 g (up1 (up1 M 83 (clS R0 (M 78 9) s0 2 (up (up (dgV (M 82) (M 78 6)) 0 0) 1 0))) 78 (up (M 78) 7 (M 78 6)))  (by show 0 ≤ (M 78 5) ∧ (M 78 5) ≤ 100; first | omega | assumption) (by show 0 ≤ (M 78 6) ∧ (M 78 6) ≤ 100; first | omega | assumption) (by show -1 ≤ (M 78 6) ∧ (M 78 6) ≤ 1000; first | omega | assumption) (by show bdf ((M 82)) 100 0 127; first | omega | assumption)) gX10_readsDigits_X10_figure (kd_lt (show kd 78 = 10 from rfl) (by decide)) rfl rfl (cellF_10 _ (by decide)) rfl (by decide +kernel) rfl (by decide) [rf g 78] rfl (Nat.le_of_ble_eq_true rfl) dX10_readsDigits_41 (fun v95 M96 hp94 => ?_)
      rcases hp94 with ⟨rfl, rfl, h97, h98⟩ | ⟨rfl, rfl, h99, h100⟩ | ⟨rfl, rfl, h101⟩
      · skip
        have h97 : (M 78 6) < 0 := h97
        have h98 : dig ((M 82)) ((M 78 5)) ((M 78 6)) := h98
        show V z g 4 (up1 (up1 (up1 M 83 (clS R0 (M 78 9) s0 2 (up (up (dgV (M 82) (M 78 6)) 0 0) 1 0))) 78 (up (M 78) 7 (M 78 6))) 78 (up ((up (M 78) 7 (M 78 6))) 6 ((M 78 6) + 1))) [(3, iv (14 * (M 78 9))), (0, rf g 78), (1, iv 3), (2, iv 3)] [iv ((M 82) ((M 78 6)) - 48), rf g 78] 44
        rw [show ((up1 (up1 (up1 M 83 (clS R0 (M 78 9) s0 2 (up (up (dgV (M 82) (M 78 6)) 0 0) 1 0))) 78 (up (M 78) 7 (M 78 6))) 78 (up ((up (M 78) 7 (M 78 6))) 6 ((M 78 6) + 1))) : Mem) = (up1 (up1 M 83 (clS R0 (M 78 9) s0 2 (up (up (dgV (M 82) (M 78 6)) 0 0) 1 0))) 78 (up ((up (M 78) 7 (M 78 6))) 6 ((M 78 6) + 1))) from (by
              funext j
              by_cases hj0 : j = 83
              · subst hj0; simp [up1, up1_self]
              by_cases hj1 : j = 78
              · subst hj1; simp [up1, up1_self]
              simp [up1, hj0, hj1])]
        exfalso; omega
      · skip
        have h99 : (M 78 6) < 0 := h99
        have h100 : ¬ dig ((M 82)) ((M 78 5)) ((M 78 6)) := h100
        show V z g 4 (up1 (up1 (up1 M 83 (clS R0 (M 78 9) s0 2 (up (up (dgV (M 82) (M 78 6)) 0 0) 1 0))) 78 (up (M 78) 7 (M 78 6))) 78 (up ((up (M 78) 7 (M 78 6))) 7 ((M 78 6)))) [(3, iv (14 * (M 78 9))), (0, rf g 78), (1, iv 3), (2, iv 3)] [iv 0, rf g 78] 44
        rw [show ((up1 (up1 (up1 M 83 (clS R0 (M 78 9) s0 2 (up (up (dgV (M 82) (M 78 6)) 0 0) 1 0))) 78 (up (M 78) 7 (M 78 6))) 78 (up ((up (M 78) 7 (M 78 6))) 7 ((M 78 6)))) : Mem) = (up1 (up1 M 83 (clS R0 (M 78 9) s0 2 (up (up (dgV (M 82) (M 78 6)) 0 0) 1 0))) 78 (up ((up (M 78) 7 (M 78 6))) 7 ((M 78 6)))) from (by
              funext j
              by_cases hj0 : j = 83
              · subst hj0; simp [up1, up1_self]
              by_cases hj1 : j = 78
              · subst hj1; simp [up1, up1_self]
              simp [up1, hj0, hj1])]
        exfalso; omega
      · skip
        have h101 : ¬ (M 78 6) < 0 := h101
        show V z g 4 (up1 (up1 (up1 M 83 (clS R0 (M 78 9) s0 2 (up (up (dgV (M 82) (M 78 6)) 0 0) 1 0))) 78 (up (M 78) 7 (M 78 6))) 78 (up ((up (M 78) 7 (M 78 6))) 7 ((M 78 6)))) [(3, iv (14 * (M 78 9))), (0, rf g 78), (1, iv 3), (2, iv 3)] [iv 0, rf g 78] 44
        rw [show ((up1 (up1 (up1 M 83 (clS R0 (M 78 9) s0 2 (up (up (dgV (M 82) (M 78 6)) 0 0) 1 0))) 78 (up (M 78) 7 (M 78 6))) 78 (up ((up (M 78) 7 (M 78 6))) 7 ((M 78 6)))) : Mem) = (up1 (up1 M 83 (clS R0 (M 78 9) s0 2 (up (up (dgV (M 82) (M 78 6)) 0 0) 1 0))) 78 (up ((up (M 78) 7 (M 78 6))) 7 ((M 78 6)))) from (by
              funext j
              by_cases hj0 : j = 83
              · subst hj0; simp [up1, up1_self]
              by_cases hj1 : j = 78
              · subst hj1; simp [up1, up1_self]
              simp [up1, hj0, hj1])]
        rw [show ((up1 (up1 M 83 (clS R0 (M 78 9) s0 2 (up (up (dgV (M 82) (M 78 6)) 0 0) 1 0))) 78 (up ((up (M 78) 7 (M 78 6))) 7 ((M 78 6)))) : Mem) = (up1 (up1 M 83 (clS R0 (M 78 9) s0 2 (up (up (dgV (M 82) (M 78 6)) 0 0) 1 0))) 78 (up (M 78) 7 (M 78 6))) from (by rw [up_up])]
        have hn9 : 0 ≤ clS R0 (M 78 9) s0 2 (up (up (dgV (M 82) (M 78 6)) 0 0) 1 0) (14 * M 78 9 + 1) ∧ clS R0 (M 78 9) s0 2 (up (up (dgV (M 82) (M 78 6)) 0 0) 1 0) (14 * M 78 9 + 1) ≤ 11 := by rw [clS_1]; omega
        refine v_callV (na := 1) (i := 78) (C := RX10) (T := TX10) (N := 22) (f0 := (up (M 78) 7 (M 78 6))) ok (ct_X10_tells z.2.1 g (up1 (up1 M 83 (clS R0 (M 78 9) s0 2 (up (up (dgV (M 82) (M 78 6)) 0 0) 1 0))) 78 (up (M 78) 7 (M 78 6))) 0 (by show 0 ≤ (M 78 9) ∧ (M 78 9) ≤ 11; first | omega | assumption) hn9) gX10_readsDigits_X10_tells (kd_lt (show kd 78 = 10 from rfl) (by decide)) rfl rfl (cellF_10 _ (by decide)) rfl (by decide +kernel) rfl (by decide) [] rfl (Nat.le_of_ble_eq_true rfl) dX10_readsDigits_44 (fun v103 M104 hp102 => ?_)
        obtain ⟨rfl, rfl⟩ := hp102
        show V z g 4 (up1 (up1 (up1 M 83 (clS R0 (M 78 9) s0 2 (up (up (dgV (M 82) (M 78 6)) 0 0) 1 0))) 78 (up (M 78) 7 (M 78 6))) 83 (up (up ((clS R0 (M 78 9) s0 2 (up (up (dgV (M 82) (M 78 6)) 0 0) 1 0))) (14 * (M 78 9) + 2 + (clS R0 (M 78 9) s0 2 (up (up (dgV (M 82) (M 78 6)) 0 0) 1 0)) (14 * (M 78 9) + 1)) 0) (14 * (M 78 9) + 1) ((clS R0 (M 78 9) s0 2 (up (up (dgV (M 82) (M 78 6)) 0 0) 1 0)) (14 * (M 78 9) + 1) + 1))) [(3, iv (14 * (M 78 9))), (0, rf g 78), (1, iv 3), (2, iv 3)] [] 47
        rw [show ((up1 (up1 (up1 M 83 (clS R0 (M 78 9) s0 2 (up (up (dgV (M 82) (M 78 6)) 0 0) 1 0))) 78 (up (M 78) 7 (M 78 6))) 83 (up (up ((clS R0 (M 78 9) s0 2 (up (up (dgV (M 82) (M 78 6)) 0 0) 1 0))) (14 * (M 78 9) + 2 + (clS R0 (M 78 9) s0 2 (up (up (dgV (M 82) (M 78 6)) 0 0) 1 0)) (14 * (M 78 9) + 1)) 0) (14 * (M 78 9) + 1) ((clS R0 (M 78 9) s0 2 (up (up (dgV (M 82) (M 78 6)) 0 0) 1 0)) (14 * (M 78 9) + 1) + 1))) : Mem) = (up1 (up1 M 83 (up (up ((clS R0 (M 78 9) s0 2 (up (up (dgV (M 82) (M 78 6)) 0 0) 1 0))) (14 * (M 78 9) + 2 + (clS R0 (M 78 9) s0 2 (up (up (dgV (M 82) (M 78 6)) 0 0) 1 0)) (14 * (M 78 9) + 1)) 0) (14 * (M 78 9) + 1) ((clS R0 (M 78 9) s0 2 (up (up (dgV (M 82) (M 78 6)) 0 0) 1 0)) (14 * (M 78 9) + 1) + 1))) 78 (up (M 78) 7 (M 78 6))) from (by
              funext j
              by_cases hj0 : j = 83
              · subst hj0; simp [up1, up1_self]
              by_cases hj1 : j = 78
              · subst hj1; simp [up1, up1_self]
              simp [up1, hj0, hj1])]
        rw [show ((up1 (up1 M 83 (up (up ((clS R0 (M 78 9) s0 2 (up (up (dgV (M 82) (M 78 6)) 0 0) 1 0))) (14 * (M 78 9) + 2 + (clS R0 (M 78 9) s0 2 (up (up (dgV (M 82) (M 78 6)) 0 0) 1 0)) (14 * (M 78 9) + 1)) 0) (14 * (M 78 9) + 1) ((clS R0 (M 78 9) s0 2 (up (up (dgV (M 82) (M 78 6)) 0 0) 1 0)) (14 * (M 78 9) + 1) + 1))) 78 (up (M 78) 7 (M 78 6))) : Mem) = (up1 (up1 M 83 (clS R0 (M 78 9) s0 3 (up (up (up (dgV (M 82) (M 78 6)) 0 0) 1 0) 2 0))) 78 (up (M 78) 7 (M 78 6))) from (by rw [clS_tl _ _ _ _ _ _ (by decide)]; rfl)]
        refine v_goto (tgt := 8) ok dX10_readsDigits_47 (by decide) ?_
        refine v_aload_n ok 1 dX10_readsDigits_8 rfl rfl ?_
        refine v_get (T := TX10) (N := 22) (f0 := (up (M 78) 7 (M 78 6))) (v := rf g 83) ok mi_X10_readsDigits_10 (kd_lt (show kd 78 = 10 from rfl) (by decide)) rfl rfl (cellF_10 _ (by decide)) 8 (by decide) mk_X10_readsDigits_24 rfl rfl dX10_readsDigits_9 ?_
        refine v_iload_n ok 0 dX10_readsDigits_12 rfl rfl ?_
        refine v_iconst (n := 1) ok dX10_readsDigits_13 ?_
        refine v_iadd ok dX10_readsDigits_14 ?_
        refine v_iald (n := 168) (f0 := (clS R0 (M 78 9) s0 3 (up (up (up (dgV (M 82) (M 78 6)) 0 0) 1 0) 2 0))) ok (by decide) rfl (by omega) rfl dX10_readsDigits_15 ?_
        rw [show (((clS R0 (M 78 9) s0 3 (up (up (up (dgV (M 82) (M 78 6)) 0 0) 1 0) 2 0)) ((14 * (M 78 9)) + 1)) : Int) = 3 from (clS_1 _ _ _ _ _)]
        refine v_iload_n ok 2 dX10_readsDigits_16 rfl rfl ?_
        refine v_icmp_lt (tgt := 39) ok (by decide) (by decide) dX10_readsDigits_17 (by decide) (fun c105 => absurd c105 (by decide)) (fun c105 => ?_)
        refine v_aload_n ok 1 dX10_readsDigits_20 rfl rfl ?_
        refine v_callV (na := 0) (i := 78) (C := RX10) (T := TX10) (N := 22) (f0 := (up (M 78) 7 (M 78 6))) ok (ct_X10_isDigit z.2.1 g (up1 (up1 M 83 (clS R0 (M 78 9) s0 3 (up (up (up (dgV (M 82) (M 78 6)) 0 0) 1 0) 2 0))) 78 (up (M 78) 7 (M 78 6)))  (by show 0 ≤ (M 78 5) ∧ (M 78 5) ≤ 100; first | omega | assumption) (by show 0 ≤ (M 78 6) ∧ (M 78 6) ≤ 100; first | omega | assumption) (by show -1 ≤ (M 78 6) ∧ (M 78 6) ≤ 1000; first | omega | assumption) (by show bdf ((M 82)) 100 0 127; first | omega | assumption)) gX10_readsDigits_X10_isDigit (kd_lt (show kd 78 = 10 from rfl) (by decide)) rfl rfl (cellF_10 _ (by decide)) rfl (by decide +kernel) rfl (by decide) [] rfl (Nat.le_of_ble_eq_true rfl) dX10_readsDigits_21 (fun v107 M108 hp106 => ?_)
        rcases hp106 with ⟨rfl, rfl, h109⟩ | ⟨rfl, rfl, h110⟩
        · skip
          have h109 : (M 78 6) < 0 ∧ dig ((M 82)) ((M 78 5)) ((M 78 6)) := h109
          show V z g 4 (up1 (up1 M 83 (clS R0 (M 78 9) s0 3 (up (up (up (dgV (M 82) (M 78 6)) 0 0) 1 0) 2 0))) 78 (up (M 78) 7 (M 78 6))) [(3, iv (14 * (M 78 9))), (0, rf g 78), (1, iv 3), (2, iv 3)] [iv 1] 24
          exfalso; omega
        · skip
          have h110 : ¬ ((M 78 6) < 0 ∧ dig ((M 82)) ((M 78 5)) ((M 78 6))) := h110
          show V z g 4 (up1 (up1 M 83 (clS R0 (M 78 9) s0 3 (up (up (up (dgV (M 82) (M 78 6)) 0 0) 1 0) 2 0))) 78 (up (M 78) 7 (M 78 6))) [(3, iv (14 * (M 78 9))), (0, rf g 78), (1, iv 3), (2, iv 3)] [iv 0] 24
          refine v_if_eq (tgt := 50) ok (by decide) dX10_readsDigits_24 (by decide) (fun c111 => ?_) (fun c111 => absurd c111 (by decide))
          rw [show ((up1 (up1 M 83 (clS R0 (M 78 9) s0 3 (up (up (up (dgV (M 82) (M 78 6)) 0 0) 1 0) 2 0))) 78 (up (M 78) 7 (M 78 6))) : Mem) = (up1 (up1 M 83 (clS R0 (M 78 9) s0 3 (up (up (up (dgV (M 82) (M 78 6)) 0 0) 1 0) 2 0))) 78 (up (up (M 78) 6 (M 78 6 + (dgs (M 82) (M 78 5) 3 (M 78 6)))) 7 (M 78 6 + (dgs (M 82) (M 78 5) 3 (M 78 6))))) from (by rw [hDf, Int.add_zero, up_self])]
          exact v_vret ok rt dX10_readsDigits_50 (Or.inr (⟨(clS R0 (M 78 9) s0 3 (up (up (up (dgV (M 82) (M 78 6)) 0 0) 1 0) 2 0)), rfl, rfl, (by omega)⟩))
  · skip
    have h9 : ¬ (M 78) 7 < 0 := h9
    show V z g 4 (up1 (up1 M 83 (clS R0 (M 78 9) s0 0 (dgV (M 82) (M 78 6)))) 78 (up ((M 78)) 7 ((M 78) 7))) [(3, iv (14 * (M 78 9))), (0, rf g 78), (1, iv 3), (2, iv 3)] [iv 0, rf g 78] 44
    exfalso; omega

theorem mk_X10_readsNumbers_119 : Cond.fieldLink RX10 119 "StormRunoffModel" "readMany" "I" ∈ wsX10_readsNumbers := by decide +kernel
theorem mi_X10_readsNumbers_10 : ∀ w ∈ wsX100, w ∈ wsX10_readsNumbers := by decide +kernel
theorem mk_X10_readsNumbers_24 : Cond.fieldLink RX10 24 "StormRunoffModel" "read" "[I" ∈ wsX10_readsNumbers := by decide +kernel
theorem mk_X10_readsNumbers_101 : Cond.fieldLink RX10 101 "StormRunoffModel" "at" "I" ∈ wsX10_readsNumbers := by decide +kernel
set_option maxRecDepth 100000 in
set_option maxHeartbeats 400000 in
theorem ct_X10_readsNumbers_8 (l : Launch) (g : Gl) (M : Mem) (R0 : Int → Int) (s0 : Int) (hL : 0 ≤ M 78 5 ∧ M 78 5 ≤ 100) (hp : 0 ≤ M 78 6 ∧ M 78 6 ≤ M 78 5) (hG : bdf (M 82) 100 0 127) (hf0 : M 78 7 = -1) (hm : 0 ≤ M 78 9 ∧ M 78 9 ≤ 11) (hcl : M 83 = clS R0 (M 78 9) s0 0 (nbV (M 82) (M 78 5) (M 78 6))) : Ct l g yX10_readsNumbers wsX10_readsNumbers 4 87 [rf g 78, iv 8] M (fun rv M' => (rv = none ∧ M' = (up1 (up1 M 83 (clS R0 (M 78 9) s0 (nrd (M 82) (M 78 5) (M 78 6) 8 0).2.2 (nbV (M 82) (M 78 5) (M 78 6)))) 78 (up (M 78) 6 (nrd (M 82) (M 78 5) (M 78 6) 8 0).2.1)) ∧ ((nrd (M 82) (M 78 5) (M 78 6) 8 0).1 = 1)) ∨ (∃ (G : Int → Int), rv = none ∧ M' = (up1 (up1 M 83 G) 78 (up (up (M 78) 6 (nrd (M 82) (M 78 5) (M 78 6) 8 0).2.1) 7 (nrd (M 82) (M 78 5) (M 78 6) 8 0).2.1)) ∧ ((nrd (M 82) (M 78 5) (M 78 6) 8 0).1 = 0))) := by
  refine Ct.of (cc := cX10_readsNumbers) (nL := 3) (ret := none) (by decide) rfl (Nat.le_of_ble_eq_true rfl) (fun z hz ok rt => ?_)
  have ok : Ok z g cX10_readsNumbers 3 RX10 wsX10_readsNumbers 4 87 := ok
  show V z g 3 M [(0, rf g 78), (1, iv 8)] [] 0
  rw [show (M : Mem) = (up1 M 83 (clS R0 (M 78 9) s0 0 (nbV (M 82) (M 78 5) (M 78 6)))) from (by rw [← hcl, up1_self])]
  refine v_aload_n ok 0 dX10_readsNumbers_0 rfl rfl ?_
  refine v_aload_n ok 0 dX10_readsNumbers_1 rfl rfl ?_
  refine v_callV (na := 0) (i := 78) (C := RX10) (T := TX10) (N := 22) (f0 := (M 78)) ok (ct_X10_number z.2.1 g (up1 M 83 (clS R0 (M 78 9) s0 0 (nbV (M 82) (M 78 5) (M 78 6))))  (by show 0 ≤ (M 78) 5 ∧ (M 78) 5 ≤ 100; first | omega | assumption) (by show 0 ≤ (M 78) 6 ∧ (M 78) 6 ≤ 100; first | omega | assumption) (by show -1 ≤ (M 78) 7 ∧ (M 78) 7 ≤ 1000; first | omega | assumption) (by show bdf ((M 82)) 100 0 127; first | omega | assumption) (by show (M 78) 7 < 0; first | omega | assumption)) gX10_readsNumbers_X10_number (kd_lt (show kd 78 = 10 from rfl) (by decide)) rfl rfl (cellF_10 _ (by decide)) rfl (by decide +kernel) rfl (by decide) [rf g 78] rfl (Nat.le_of_ble_eq_true rfl) dX10_readsNumbers_2 (fun v2 M3 hp1 => ?_)
  rcases hp1 with ⟨rfl, rfl, h4⟩ | ⟨rfl, rfl, h5⟩
  · skip
    have h4 : 0 < (dgs ((M 82)) ((M 78) 5) 3 ((M 78) 6)) := h4
    show V z g 3 (up1 (up1 M 83 (clS R0 (M 78 9) s0 0 (nbV (M 82) (M 78 5) (M 78 6)))) 78 (up ((M 78)) 6 ((M 78) 6 + (dgs ((M 82)) ((M 78) 5) 3 ((M 78) 6))))) [(0, rf g 78), (1, iv 8)] [iv (nmv ((M 82)) ((M 78) 6) (dgs ((M 82)) ((M 78) 5) 3 ((M 78) 6)).toNat), rf g 78] 5
    have hrg := dgs_rng (T := M 82) (L := M 78 5) 3 (M 78 6)
    have hz9 := h4
    have hrl := hrg.2.2 hz9
    have hv9 : nmv (M 82) (M 78 6) (dgs (M 82) (M 78 5) 3 (M 78 6)).toNat = nbV (M 82) (M 78 5) (M 78 6) 0 := rfl
    have hn9 : 0 ≤ clS R0 (M 78 9) s0 0 (nbV (M 82) (M 78 5) (M 78 6)) (14 * M 78 9 + 1) ∧ clS R0 (M 78 9) s0 0 (nbV (M 82) (M 78 5) (M 78 6)) (14 * M 78 9 + 1) ≤ 11 := by rw [clS_1]; omega
    refine v_callV (na := 1) (i := 78) (C := RX10) (T := TX10) (N := 22) (f0 := (up ((M 78)) 6 ((M 78) 6 + (dgs ((M 82)) ((M 78) 5) 3 ((M 78) 6))))) ok (ct_X10_tells z.2.1 g (up1 (up1 M 83 (clS R0 (M 78 9) s0 0 (nbV (M 82) (M 78 5) (M 78 6)))) 78 (up ((M 78)) 6 ((M 78) 6 + (dgs ((M 82)) ((M 78) 5) 3 ((M 78) 6))))) (nmv ((M 82)) ((M 78) 6) (dgs ((M 82)) ((M 78) 5) 3 ((M 78) 6)).toNat) (by show 0 ≤ ((M 78) 9) ∧ ((M 78) 9) ≤ 11; first | omega | assumption) hn9) gX10_readsNumbers_X10_tells (kd_lt (show kd 78 = 10 from rfl) (by decide)) rfl rfl (cellF_10 _ (by decide)) rfl (by decide +kernel) rfl (by decide) [] rfl (Nat.le_of_ble_eq_true rfl) dX10_readsNumbers_5 (fun v7 M8 hp6 => ?_)
    obtain ⟨rfl, rfl⟩ := hp6
    show V z g 3 (up1 (up1 (up1 M 83 (clS R0 (M 78 9) s0 0 (nbV (M 82) (M 78 5) (M 78 6)))) 78 (up ((M 78)) 6 ((M 78) 6 + (dgs ((M 82)) ((M 78) 5) 3 ((M 78) 6))))) 83 (up (up ((clS R0 (M 78 9) s0 0 (nbV (M 82) (M 78 5) (M 78 6)))) (14 * ((M 78) 9) + 2 + (clS R0 (M 78 9) s0 0 (nbV (M 82) (M 78 5) (M 78 6))) (14 * ((M 78) 9) + 1)) (nmv ((M 82)) ((M 78) 6) (dgs ((M 82)) ((M 78) 5) 3 ((M 78) 6)).toNat)) (14 * ((M 78) 9) + 1) ((clS R0 (M 78 9) s0 0 (nbV (M 82) (M 78 5) (M 78 6))) (14 * ((M 78) 9) + 1) + 1))) [(0, rf g 78), (1, iv 8)] [] 8
    rw [show ((up1 (up1 (up1 M 83 (clS R0 (M 78 9) s0 0 (nbV (M 82) (M 78 5) (M 78 6)))) 78 (up ((M 78)) 6 ((M 78) 6 + (dgs ((M 82)) ((M 78) 5) 3 ((M 78) 6))))) 83 (up (up ((clS R0 (M 78 9) s0 0 (nbV (M 82) (M 78 5) (M 78 6)))) (14 * ((M 78) 9) + 2 + (clS R0 (M 78 9) s0 0 (nbV (M 82) (M 78 5) (M 78 6))) (14 * ((M 78) 9) + 1)) (nmv ((M 82)) ((M 78) 6) (dgs ((M 82)) ((M 78) 5) 3 ((M 78) 6)).toNat)) (14 * ((M 78) 9) + 1) ((clS R0 (M 78 9) s0 0 (nbV (M 82) (M 78 5) (M 78 6))) (14 * ((M 78) 9) + 1) + 1))) : Mem) = (up1 (up1 M 83 (up (up ((clS R0 (M 78 9) s0 0 (nbV (M 82) (M 78 5) (M 78 6)))) (14 * ((M 78) 9) + 2 + (clS R0 (M 78 9) s0 0 (nbV (M 82) (M 78 5) (M 78 6))) (14 * ((M 78) 9) + 1)) (nmv ((M 82)) ((M 78) 6) (dgs ((M 82)) ((M 78) 5) 3 ((M 78) 6)).toNat)) (14 * ((M 78) 9) + 1) ((clS R0 (M 78 9) s0 0 (nbV (M 82) (M 78 5) (M 78 6))) (14 * ((M 78) 9) + 1) + 1))) 78 (up ((M 78)) 6 ((M 78) 6 + (dgs ((M 82)) ((M 78) 5) 3 ((M 78) 6))))) from (by
          funext j
          by_cases hj0 : j = 83
          · subst hj0; simp [up1, up1_self]
          by_cases hj1 : j = 78
          · subst hj1; simp [up1, up1_self]
          simp [up1, hj0, hj1])]
    rw [show ((up1 (up1 M 83 (up (up ((clS R0 (M 78 9) s0 0 (nbV (M 82) (M 78 5) (M 78 6)))) (14 * ((M 78) 9) + 2 + (clS R0 (M 78 9) s0 0 (nbV (M 82) (M 78 5) (M 78 6))) (14 * ((M 78) 9) + 1)) (nmv ((M 82)) ((M 78) 6) (dgs ((M 82)) ((M 78) 5) 3 ((M 78) 6)).toNat)) (14 * ((M 78) 9) + 1) ((clS R0 (M 78 9) s0 0 (nbV (M 82) (M 78 5) (M 78 6))) (14 * ((M 78) 9) + 1) + 1))) 78 (up ((M 78)) 6 ((M 78) 6 + (dgs ((M 82)) ((M 78) 5) 3 ((M 78) 6))))) : Mem) = (up1 (up1 M 83 (clS R0 (M 78 9) s0 1 (nbV (M 82) (M 78 5) (M 78 6)))) 78 (up ((M 78)) 6 ((M 78) 6 + (dgs ((M 82)) ((M 78) 5) 3 ((M 78) 6))))) from (by rw [clS_tv _ _ _ _ _ _ (by decide) hv9]; rfl)]
    refine v_bipush (n := 14) ok rfl dX10_readsNumbers_8 ?_
    refine v_aload_n ok 0 dX10_readsNumbers_10 rfl rfl ?_
    refine v_get (T := TX10) (N := 22) (f0 := (up ((M 78)) 6 ((M 78) 6 + (dgs ((M 82)) ((M 78) 5) 3 ((M 78) 6))))) (v := iv ((M 78) 9)) ok mi_X10_readsNumbers_10 (kd_lt (show kd 78 = 10 from rfl) (by decide)) rfl rfl (cellF_10 _ (by decide)) 9 (by decide) mk_X10_readsNumbers_119 rfl rfl dX10_readsNumbers_11 ?_
    refine v_imul ok dX10_readsNumbers_14 ?_
    refine v_istore_n ok [(2, iv (14 * ((M 78) 9))), (0, rf g 78), (1, iv 8)] dX10_readsNumbers_15 rfl (by decide) rfl ?_
    have lp16 : ∀ (fu : Nat) (i e : Int), (1 ≤ i ∧ i ≤ 8 ∧ 0 ≤ e ∧ e ≤ M 78 5) → (e = (nst (M 82) (M 78 5) (M 78 6) (i - 1).toNat) + (dgs (M 82) (M 78 5) 3 (nst (M 82) (M 78 5) (M 78 6) (i - 1).toNat)) ∧ 0 < (dgs (M 82) (M 78 5) 3 (nst (M 82) (M 78 5) (M 78 6) (i - 1).toNat))) → ((nrd (M 82) (M 78 5) (M 78 6) 8 0) = nrd (M 82) (M 78 5) (M 78 6) (8 - i + 1).toNat (i - 1).toNat) → (8 - i).toNat < fu → V z g 3 (up1 (up1 M 83 (clS R0 (M 78 9) s0 i (nbV (M 82) (M 78 5) (M 78 6)))) 78 (up (M 78) 6 e)) [(0, rf g 78), (1, iv 8), (2, iv (14 * M 78 9))] [] 16 := by
      intro fu
      induction fu with
      | zero => intro i e _ _ _ hm; exact absurd hm (Nat.not_lt_zero _)
      | succ fu ih16 =>
        intro i e i16_0 i16_1 i16_2 hm16
        refine v_aload_n ok 0 dX10_readsNumbers_16 rfl rfl ?_
        refine v_callV (na := 0) (i := 78) (C := RX10) (T := TX10) (N := 22) (f0 := (up (M 78) 6 e)) ok (ct_X10_here z.2.1 g (up1 (up1 M 83 (clS R0 (M 78 9) s0 i (nbV (M 82) (M 78 5) (M 78 6)))) 78 (up (M 78) 6 e))  (by show 0 ≤ (M 78 5) ∧ (M 78 5) ≤ 100; first | omega | assumption) (by show 0 ≤ e ∧ e ≤ 100; first | omega | assumption) (by show -1 ≤ (M 78 7) ∧ (M 78 7) ≤ 1000; first | omega | assumption) (by show bdf ((M 82)) 100 0 127; first | omega | assumption)) gX10_readsNumbers_X10_here (kd_lt (show kd 78 = 10 from rfl) (by decide)) rfl rfl (cellF_10 _ (by decide)) rfl (by decide +kernel) rfl (by decide) [] rfl (Nat.le_of_ble_eq_true rfl) dX10_readsNumbers_17 (fun v10 M11 hp9 => ?_)
        obtain ⟨rfl, rfl, h12⟩ := hp9
        have h12 : -1 ≤ (hrW ((M 78 7)) (e) ((M 82)) ((M 78 5))) ∧ (hrW ((M 78 7)) (e) ((M 82)) ((M 78 5))) ≤ 127 := h12
        show V z g 3 (up1 (up1 M 83 (clS R0 (M 78 9) s0 i (nbV (M 82) (M 78 5) (M 78 6)))) 78 (up (M 78) 6 e)) [(0, rf g 78), (1, iv 8), (2, iv (14 * M 78 9))] [iv (hrW ((M 78 7)) (e) ((M 82)) ((M 78 5)))] 20
        rw [show ((hrW ((M 78 7)) (e) ((M 82)) ((M 78 5))) : Int) = (sgn (M 82) (M 78 5) e) from (by unfold hrW; rw [if_pos (by omega)])]
        have hh8 := sgn_rng (p := e) hG (show M 78 5 ≤ 100 by omega)
        refine v_bipush (n := 44) ok rfl dX10_readsNumbers_20 ?_
        refine v_icmp_ne (tgt := 58) ok ⟨by omega, by omega⟩ (by decide) dX10_readsNumbers_22 (by decide) (fun c13 => ?_) (fun c13 => ?_)
        · skip
          have hR9 : (nrd (M 82) (M 78 5) (M 78 6) 8 0) = (1, e, i) := by
            rw [i16_2, show (8 - i + 1).toNat = (8 - i).toNat + 1 by omega, nrd_e i16_1.2 (Or.inr (by rw [← i16_1.1]; exact c13)), ← i16_1.1, Int.toNat_of_nonneg (by omega)]
            congr 2; omega
          rw [show ((up1 (up1 M 83 (clS R0 (M 78 9) s0 i (nbV (M 82) (M 78 5) (M 78 6)))) 78 (up (M 78) 6 e)) : Mem) = (up1 (up1 M 83 (clS R0 (M 78 9) s0 (nrd (M 82) (M 78 5) (M 78 6) 8 0).2.2 (nbV (M 82) (M 78 5) (M 78 6)))) 78 (up (M 78) 6 (nrd (M 82) (M 78 5) (M 78 6) 8 0).2.1)) from (by rw [hR9])]
          exact v_vret ok rt dX10_readsNumbers_58 (Or.inl (⟨rfl, rfl, (by rw [hR9])⟩))
        · skip
          have hcm : sgn (M 82) (M 78 5) e = 44 := by omega
          have hl9 := sgn_lt (T := M 82) (L := M 78 5) (p := e) (by omega)
          refine v_aload_n ok 0 dX10_readsNumbers_25 rfl rfl ?_
          refine v_get (T := TX10) (N := 22) (f0 := (up (M 78) 6 e)) (v := rf g 83) ok mi_X10_readsNumbers_10 (kd_lt (show kd 78 = 10 from rfl) (by decide)) rfl rfl (cellF_10 _ (by decide)) 8 (by decide) mk_X10_readsNumbers_24 rfl rfl dX10_readsNumbers_26 ?_
          refine v_iload_n ok 2 dX10_readsNumbers_29 rfl rfl ?_
          refine v_iconst (n := 1) ok dX10_readsNumbers_30 ?_
          refine v_iadd ok dX10_readsNumbers_31 ?_
          refine v_iald (n := 168) (f0 := (clS R0 (M 78 9) s0 i (nbV (M 82) (M 78 5) (M 78 6)))) ok (by decide) rfl (by omega) rfl dX10_readsNumbers_32 ?_
          rw [show (((clS R0 (M 78 9) s0 i (nbV (M 82) (M 78 5) (M 78 6))) ((14 * M 78 9) + 1)) : Int) = i from (clS_1 _ _ _ _ _)]
          refine v_iload_n ok 1 dX10_readsNumbers_33 rfl rfl ?_
          refine v_icmp_ge (tgt := 58) ok ⟨by omega, by omega⟩ (by decide) dX10_readsNumbers_34 (by decide) (fun c14 => ?_) (fun c14 => ?_)
          · skip
            have hR9 : (nrd (M 82) (M 78 5) (M 78 6) 8 0) = (1, e, i) := by
              rw [i16_2, show (8 - i + 1).toNat = 0 + 1 by omega, nrd_e i16_1.2 (Or.inl rfl), ← i16_1.1, Int.toNat_of_nonneg (by omega)]
              congr 2; omega
            rw [show ((up1 (up1 M 83 (clS R0 (M 78 9) s0 i (nbV (M 82) (M 78 5) (M 78 6)))) 78 (up (M 78) 6 e)) : Mem) = (up1 (up1 M 83 (clS R0 (M 78 9) s0 (nrd (M 82) (M 78 5) (M 78 6) 8 0).2.2 (nbV (M 82) (M 78 5) (M 78 6)))) 78 (up (M 78) 6 (nrd (M 82) (M 78 5) (M 78 6) 8 0).2.1)) from (by rw [hR9])]
            exact v_vret ok rt dX10_readsNumbers_58 (Or.inl (⟨rfl, rfl, (by rw [hR9])⟩))
          · skip
            have hst : (nst (M 82) (M 78 5) (M 78 6) i.toNat) = e + 1 := by rw [show i.toNat = (i - 1).toNat + 1 by omega, nst, ← i16_1.1]
            have hRn : (nrd (M 82) (M 78 5) (M 78 6) 8 0) = nrd (M 82) (M 78 5) (M 78 6) (8 - i).toNat i.toNat := by
              rw [i16_2, show (8 - i + 1).toNat = (8 - i).toNat + 1 by omega, nrd_n i16_1.2 (by omega) (by rw [← i16_1.1]; exact hcm), show (i - 1).toNat + 1 = i.toNat by omega]
            have hrg := dgs_rng (T := M 82) (L := M 78 5) 3 (e + 1)
            have hn9 : 0 ≤ clS R0 (M 78 9) s0 i (nbV (M 82) (M 78 5) (M 78 6)) (14 * M 78 9 + 1) ∧ clS R0 (M 78 9) s0 i (nbV (M 82) (M 78 5) (M 78 6)) (14 * M 78 9 + 1) ≤ 11 := by rw [clS_1]; omega
            refine v_aload_n ok 0 dX10_readsNumbers_37 rfl rfl ?_
            refine v_dup ok rfl dX10_readsNumbers_38 ?_
            refine v_get (T := TX10) (N := 22) (f0 := (up (M 78) 6 e)) (v := iv e) ok mi_X10_readsNumbers_10 (kd_lt (show kd 78 = 10 from rfl) (by decide)) rfl rfl (cellF_10 _ (by decide)) 6 (by decide) mk_X10_readsNumbers_101 rfl rfl dX10_readsNumbers_39 ?_
            refine v_iconst (n := 1) ok dX10_readsNumbers_42 ?_
            refine v_iadd ok dX10_readsNumbers_43 ?_
            refine v_put (T := TX10) (N := 22) (f0 := (up (M 78) 6 e)) (f' := up (up (M 78) 6 e) 6 (e + 1)) (ty := .int) ok mi_X10_readsNumbers_10 (kd_lt (show kd 78 = 10 from rfl) (by decide)) rfl rfl (cellF_10 _ (by decide)) tyX10 tyX10_ok nmX10 6 (by decide) mk_X10_readsNumbers_101 rfl rfl (by decide +kernel) rfl rfl (Nat.le_of_ble_eq_true rfl) ((cellF_10 _ (by decide)).trans rfl) dX10_readsNumbers_44 ?_
            rw [up_up]
            rw [up1_up1]
            refine v_aload_n ok 0 dX10_readsNumbers_47 rfl rfl ?_
            refine v_aload_n ok 0 dX10_readsNumbers_48 rfl rfl ?_
            refine v_callV (na := 0) (i := 78) (C := RX10) (T := TX10) (N := 22) (f0 := up (M 78) 6 (e + 1)) ok (ct_X10_number z.2.1 g (up1 (up1 M 83 (clS R0 (M 78 9) s0 i (nbV (M 82) (M 78 5) (M 78 6)))) 78 (up (M 78) 6 (e + 1)))  (by show 0 ≤ (M 78 5) ∧ (M 78 5) ≤ 100; first | omega | assumption) (by show 0 ≤ (e + 1) ∧ (e + 1) ≤ 100; first | omega | assumption) (by show -1 ≤ (M 78 7) ∧ (M 78 7) ≤ 1000; first | omega | assumption) (by show bdf ((M 82)) 100 0 127; first | omega | assumption) (by show (M 78 7) < 0; first | omega | assumption)) gX10_readsNumbers_X10_number (kd_lt (show kd 78 = 10 from rfl) (by decide)) rfl rfl (cellF_10 _ (by decide)) rfl (by decide +kernel) rfl (by decide) [rf g 78] rfl (Nat.le_of_ble_eq_true rfl) dX10_readsNumbers_49 (fun v16 M17 hp15 => ?_)
            rcases hp15 with ⟨rfl, rfl, h18⟩ | ⟨rfl, rfl, h19⟩
            · skip
              have h18 : 0 < (dgs ((M 82)) ((M 78 5)) 3 ((e + 1))) := h18
              show V z g 3 (up1 (up1 (up1 M 83 (clS R0 (M 78 9) s0 i (nbV (M 82) (M 78 5) (M 78 6)))) 78 (up (M 78) 6 (e + 1))) 78 (up (up (M 78) 6 (e + 1)) 6 ((e + 1) + (dgs ((M 82)) ((M 78 5)) 3 ((e + 1)))))) [(0, rf g 78), (1, iv 8), (2, iv (14 * M 78 9))] [iv (nmv ((M 82)) ((e + 1)) (dgs ((M 82)) ((M 78 5)) 3 ((e + 1))).toNat), rf g 78] 52
              rw [show ((up1 (up1 (up1 M 83 (clS R0 (M 78 9) s0 i (nbV (M 82) (M 78 5) (M 78 6)))) 78 (up (M 78) 6 (e + 1))) 78 (up (up (M 78) 6 (e + 1)) 6 ((e + 1) + (dgs ((M 82)) ((M 78 5)) 3 ((e + 1)))))) : Mem) = (up1 (up1 M 83 (clS R0 (M 78 9) s0 i (nbV (M 82) (M 78 5) (M 78 6)))) 78 (up (up (M 78) 6 (e + 1)) 6 ((e + 1) + (dgs ((M 82)) ((M 78 5)) 3 ((e + 1)))))) from (by
                    funext j
                    by_cases hj0 : j = 83
                    · subst hj0; simp [up1, up1_self]
                    by_cases hj1 : j = 78
                    · subst hj1; simp [up1, up1_self]
                    simp [up1, hj0, hj1])]
              have hz9 := h18
              have hrl := hrg.2.2 hz9
              have hv9 : nmv (M 82) (e + 1) (dgs (M 82) (M 78 5) 3 (e + 1)).toNat = nbV (M 82) (M 78 5) (M 78 6) i := by unfold nbV; rw [hst]
              have hb1 : e + 1 + (dgs (M 82) (M 78 5) 3 (e + 1)) = (nst (M 82) (M 78 5) (M 78 6) (i + 1 - 1).toNat) + (dgs (M 82) (M 78 5) 3 (nst (M 82) (M 78 5) (M 78 6) (i + 1 - 1).toNat)) ∧ 0 < (dgs (M 82) (M 78 5) 3 (nst (M 82) (M 78 5) (M 78 6) (i + 1 - 1).toNat)) := by rw [show i + 1 - 1 = i by omega, hst]; exact ⟨rfl, hz9⟩
              have hb2 : (nrd (M 82) (M 78 5) (M 78 6) 8 0) = nrd (M 82) (M 78 5) (M 78 6) (8 - (i + 1) + 1).toNat (i + 1 - 1).toNat := by rw [hRn, show i + 1 - 1 = i by omega, show 8 - (i + 1) + 1 = 8 - i by omega]
              rw [show ((up1 (up1 M 83 (clS R0 (M 78 9) s0 i (nbV (M 82) (M 78 5) (M 78 6)))) 78 (up (up (M 78) 6 (e + 1)) 6 ((e + 1) + (dgs ((M 82)) ((M 78 5)) 3 ((e + 1)))))) : Mem) = (up1 (up1 M 83 (clS R0 (M 78 9) s0 i (nbV (M 82) (M 78 5) (M 78 6)))) 78 (up (M 78) 6 (e + 1 + (dgs (M 82) (M 78 5) 3 (e + 1))))) from (by rw [up_up])]
              refine v_callV (na := 1) (i := 78) (C := RX10) (T := TX10) (N := 22) (f0 := (up (M 78) 6 (e + 1 + (dgs (M 82) (M 78 5) 3 (e + 1))))) ok (ct_X10_tells z.2.1 g (up1 (up1 M 83 (clS R0 (M 78 9) s0 i (nbV (M 82) (M 78 5) (M 78 6)))) 78 (up (M 78) 6 (e + 1 + (dgs (M 82) (M 78 5) 3 (e + 1))))) (nmv ((M 82)) ((e + 1)) (dgs ((M 82)) ((M 78 5)) 3 ((e + 1))).toNat) (by show 0 ≤ (M 78 9) ∧ (M 78 9) ≤ 11; first | omega | assumption) hn9) gX10_readsNumbers_X10_tells (kd_lt (show kd 78 = 10 from rfl) (by decide)) rfl rfl (cellF_10 _ (by decide)) rfl (by decide +kernel) rfl (by decide) [] rfl (Nat.le_of_ble_eq_true rfl) dX10_readsNumbers_52 (fun v21 M22 hp20 => ?_)
              obtain ⟨rfl, rfl⟩ := hp20
              show V z g 3 (up1 (up1 (up1 M 83 (clS R0 (M 78 9) s0 i (nbV (M 82) (M 78 5) (M 78 6)))) 78 (up (M 78) 6 (e + 1 + (dgs (M 82) (M 78 5) 3 (e + 1))))) 83 (up (up ((clS R0 (M 78 9) s0 i (nbV (M 82) (M 78 5) (M 78 6)))) (14 * (M 78 9) + 2 + (clS R0 (M 78 9) s0 i (nbV (M 82) (M 78 5) (M 78 6))) (14 * (M 78 9) + 1)) (nmv ((M 82)) ((e + 1)) (dgs ((M 82)) ((M 78 5)) 3 ((e + 1))).toNat)) (14 * (M 78 9) + 1) ((clS R0 (M 78 9) s0 i (nbV (M 82) (M 78 5) (M 78 6))) (14 * (M 78 9) + 1) + 1))) [(0, rf g 78), (1, iv 8), (2, iv (14 * M 78 9))] [] 55
              rw [show ((up1 (up1 (up1 M 83 (clS R0 (M 78 9) s0 i (nbV (M 82) (M 78 5) (M 78 6)))) 78 (up (M 78) 6 (e + 1 + (dgs (M 82) (M 78 5) 3 (e + 1))))) 83 (up (up ((clS R0 (M 78 9) s0 i (nbV (M 82) (M 78 5) (M 78 6)))) (14 * (M 78 9) + 2 + (clS R0 (M 78 9) s0 i (nbV (M 82) (M 78 5) (M 78 6))) (14 * (M 78 9) + 1)) (nmv ((M 82)) ((e + 1)) (dgs ((M 82)) ((M 78 5)) 3 ((e + 1))).toNat)) (14 * (M 78 9) + 1) ((clS R0 (M 78 9) s0 i (nbV (M 82) (M 78 5) (M 78 6))) (14 * (M 78 9) + 1) + 1))) : Mem) = (up1 (up1 M 83 (up (up ((clS R0 (M 78 9) s0 i (nbV (M 82) (M 78 5) (M 78 6)))) (14 * (M 78 9) + 2 + (clS R0 (M 78 9) s0 i (nbV (M 82) (M 78 5) (M 78 6))) (14 * (M 78 9) + 1)) (nmv ((M 82)) ((e + 1)) (dgs ((M 82)) ((M 78 5)) 3 ((e + 1))).toNat)) (14 * (M 78 9) + 1) ((clS R0 (M 78 9) s0 i (nbV (M 82) (M 78 5) (M 78 6))) (14 * (M 78 9) + 1) + 1))) 78 (up (M 78) 6 (e + 1 + (dgs (M 82) (M 78 5) 3 (e + 1))))) from (by
                    funext j
                    by_cases hj0 : j = 83
                    · subst hj0; simp [up1, up1_self]
                    by_cases hj1 : j = 78
                    · subst hj1; simp [up1, up1_self]
                    simp [up1, hj0, hj1])]
              rw [show ((up1 (up1 M 83 (up (up ((clS R0 (M 78 9) s0 i (nbV (M 82) (M 78 5) (M 78 6)))) (14 * (M 78 9) + 2 + (clS R0 (M 78 9) s0 i (nbV (M 82) (M 78 5) (M 78 6))) (14 * (M 78 9) + 1)) (nmv ((M 82)) ((e + 1)) (dgs ((M 82)) ((M 78 5)) 3 ((e + 1))).toNat)) (14 * (M 78 9) + 1) ((clS R0 (M 78 9) s0 i (nbV (M 82) (M 78 5) (M 78 6))) (14 * (M 78 9) + 1) + 1))) 78 (up (M 78) 6 (e + 1 + (dgs (M 82) (M 78 5) 3 (e + 1))))) : Mem) = (up1 (up1 M 83 (clS R0 (M 78 9) s0 (i + 1) (nbV (M 82) (M 78 5) (M 78 6)))) 78 (up (M 78) 6 (e + 1 + (dgs (M 82) (M 78 5) 3 (e + 1))))) from (by rw [clS_tv _ _ _ _ _ _ (by omega) hv9])]
              refine v_goto (tgt := 16) ok dX10_readsNumbers_55 (by decide) ?_
              exact ih16 (i + 1) (e + 1 + (dgs (M 82) (M 78 5) 3 (e + 1))) (by omega) hb1 hb2 (by omega)
            · skip
              have h19 : (dgs ((M 82)) ((M 78 5)) 3 ((e + 1))) = 0 := h19
              show V z g 3 (up1 (up1 (up1 M 83 (clS R0 (M 78 9) s0 i (nbV (M 82) (M 78 5) (M 78 6)))) 78 (up (M 78) 6 (e + 1))) 78 (up (up (M 78) 6 (e + 1)) 7 ((e + 1)))) [(0, rf g 78), (1, iv 8), (2, iv (14 * M 78 9))] [iv 0, rf g 78] 52
              rw [show ((up1 (up1 (up1 M 83 (clS R0 (M 78 9) s0 i (nbV (M 82) (M 78 5) (M 78 6)))) 78 (up (M 78) 6 (e + 1))) 78 (up (up (M 78) 6 (e + 1)) 7 ((e + 1)))) : Mem) = (up1 (up1 M 83 (clS R0 (M 78 9) s0 i (nbV (M 82) (M 78 5) (M 78 6)))) 78 (up (up (M 78) 6 (e + 1)) 7 ((e + 1)))) from (by
                    funext j
                    by_cases hj0 : j = 83
                    · subst hj0; simp [up1, up1_self]
                    by_cases hj1 : j = 78
                    · subst hj1; simp [up1, up1_self]
                    simp [up1, hj0, hj1])]
              have hz9 := h19
              have hR9 : (nrd (M 82) (M 78 5) (M 78 6) 8 0) = (0, e + 1, i) := by rw [hRn, show (8 - i).toNat = (8 - i - 1).toNat + 1 by omega, nrd_f (by rw [hst]; exact hz9), hst, Int.toNat_of_nonneg (by omega)]
              rw [show ((up1 (up1 M 83 (clS R0 (M 78 9) s0 i (nbV (M 82) (M 78 5) (M 78 6)))) 78 (up (up (M 78) 6 (e + 1)) 7 ((e + 1)))) : Mem) = (up1 (up1 M 83 (clS R0 (M 78 9) s0 i (nbV (M 82) (M 78 5) (M 78 6)))) 78 (up (up (M 78) 6 (e + 1)) 7 (e + 1))) from rfl]
              refine v_callV (na := 1) (i := 78) (C := RX10) (T := TX10) (N := 22) (f0 := (up (up (M 78) 6 (e + 1)) 7 (e + 1))) ok (ct_X10_tells z.2.1 g (up1 (up1 M 83 (clS R0 (M 78 9) s0 i (nbV (M 82) (M 78 5) (M 78 6)))) 78 (up (up (M 78) 6 (e + 1)) 7 (e + 1))) 0 (by show 0 ≤ (M 78 9) ∧ (M 78 9) ≤ 11; first | omega | assumption) hn9) gX10_readsNumbers_X10_tells (kd_lt (show kd 78 = 10 from rfl) (by decide)) rfl rfl (cellF_10 _ (by decide)) rfl (by decide +kernel) rfl (by decide) [] rfl (Nat.le_of_ble_eq_true rfl) dX10_readsNumbers_52 (fun v24 M25 hp23 => ?_)
              obtain ⟨rfl, rfl⟩ := hp23
              show V z g 3 (up1 (up1 (up1 M 83 (clS R0 (M 78 9) s0 i (nbV (M 82) (M 78 5) (M 78 6)))) 78 (up (up (M 78) 6 (e + 1)) 7 (e + 1))) 83 (up (up ((clS R0 (M 78 9) s0 i (nbV (M 82) (M 78 5) (M 78 6)))) (14 * (M 78 9) + 2 + (clS R0 (M 78 9) s0 i (nbV (M 82) (M 78 5) (M 78 6))) (14 * (M 78 9) + 1)) 0) (14 * (M 78 9) + 1) ((clS R0 (M 78 9) s0 i (nbV (M 82) (M 78 5) (M 78 6))) (14 * (M 78 9) + 1) + 1))) [(0, rf g 78), (1, iv 8), (2, iv (14 * M 78 9))] [] 55
              rw [show ((up1 (up1 (up1 M 83 (clS R0 (M 78 9) s0 i (nbV (M 82) (M 78 5) (M 78 6)))) 78 (up (up (M 78) 6 (e + 1)) 7 (e + 1))) 83 (up (up ((clS R0 (M 78 9) s0 i (nbV (M 82) (M 78 5) (M 78 6)))) (14 * (M 78 9) + 2 + (clS R0 (M 78 9) s0 i (nbV (M 82) (M 78 5) (M 78 6))) (14 * (M 78 9) + 1)) 0) (14 * (M 78 9) + 1) ((clS R0 (M 78 9) s0 i (nbV (M 82) (M 78 5) (M 78 6))) (14 * (M 78 9) + 1) + 1))) : Mem) = (up1 (up1 M 83 (up (up ((clS R0 (M 78 9) s0 i (nbV (M 82) (M 78 5) (M 78 6)))) (14 * (M 78 9) + 2 + (clS R0 (M 78 9) s0 i (nbV (M 82) (M 78 5) (M 78 6))) (14 * (M 78 9) + 1)) 0) (14 * (M 78 9) + 1) ((clS R0 (M 78 9) s0 i (nbV (M 82) (M 78 5) (M 78 6))) (14 * (M 78 9) + 1) + 1))) 78 (up (up (M 78) 6 (e + 1)) 7 (e + 1))) from (by
                    funext j
                    by_cases hj0 : j = 83
                    · subst hj0; simp [up1, up1_self]
                    by_cases hj1 : j = 78
                    · subst hj1; simp [up1, up1_self]
                    simp [up1, hj0, hj1])]
              refine v_goto (tgt := 16) ok dX10_readsNumbers_55 (by decide) ?_
              refine v_aload_n ok 0 dX10_readsNumbers_16 rfl rfl ?_
              refine v_callV (na := 0) (i := 78) (C := RX10) (T := TX10) (N := 22) (f0 := (up (up (M 78) 6 (e + 1)) 7 (e + 1))) ok (ct_X10_here z.2.1 g (up1 (up1 M 83 (up (up ((clS R0 (M 78 9) s0 i (nbV (M 82) (M 78 5) (M 78 6)))) (14 * (M 78 9) + 2 + (clS R0 (M 78 9) s0 i (nbV (M 82) (M 78 5) (M 78 6))) (14 * (M 78 9) + 1)) 0) (14 * (M 78 9) + 1) ((clS R0 (M 78 9) s0 i (nbV (M 82) (M 78 5) (M 78 6))) (14 * (M 78 9) + 1) + 1))) 78 (up (up (M 78) 6 (e + 1)) 7 (e + 1)))  (by show 0 ≤ (M 78 5) ∧ (M 78 5) ≤ 100; first | omega | assumption) (by show 0 ≤ (e + 1) ∧ (e + 1) ≤ 100; first | omega | assumption) (by show -1 ≤ (e + 1) ∧ (e + 1) ≤ 1000; first | omega | assumption) (by show bdf ((M 82)) 100 0 127; first | omega | assumption)) gX10_readsNumbers_X10_here (kd_lt (show kd 78 = 10 from rfl) (by decide)) rfl rfl (cellF_10 _ (by decide)) rfl (by decide +kernel) rfl (by decide) [] rfl (Nat.le_of_ble_eq_true rfl) dX10_readsNumbers_17 (fun v27 M28 hp26 => ?_)
              obtain ⟨rfl, rfl, h29⟩ := hp26
              have h29 : -1 ≤ (hrW ((e + 1)) ((e + 1)) ((M 82)) ((M 78 5))) ∧ (hrW ((e + 1)) ((e + 1)) ((M 82)) ((M 78 5))) ≤ 127 := h29
              show V z g 3 (up1 (up1 M 83 (up (up ((clS R0 (M 78 9) s0 i (nbV (M 82) (M 78 5) (M 78 6)))) (14 * (M 78 9) + 2 + (clS R0 (M 78 9) s0 i (nbV (M 82) (M 78 5) (M 78 6))) (14 * (M 78 9) + 1)) 0) (14 * (M 78 9) + 1) ((clS R0 (M 78 9) s0 i (nbV (M 82) (M 78 5) (M 78 6))) (14 * (M 78 9) + 1) + 1))) 78 (up (up (M 78) 6 (e + 1)) 7 (e + 1))) [(0, rf g 78), (1, iv 8), (2, iv (14 * M 78 9))] [iv (hrW ((e + 1)) ((e + 1)) ((M 82)) ((M 78 5)))] 20
              rw [show ((hrW ((e + 1)) ((e + 1)) ((M 82)) ((M 78 5))) : Int) = (-1) from (by unfold hrW; rw [if_neg (by omega)])]
              refine v_bipush (n := 44) ok rfl dX10_readsNumbers_20 ?_
              refine v_icmp_ne (tgt := 58) ok (by decide) (by decide) dX10_readsNumbers_22 (by decide) (fun c30 => ?_) (fun c30 => absurd c30 (by decide))
              rw [show ((up1 (up1 M 83 (up (up ((clS R0 (M 78 9) s0 i (nbV (M 82) (M 78 5) (M 78 6)))) (14 * (M 78 9) + 2 + (clS R0 (M 78 9) s0 i (nbV (M 82) (M 78 5) (M 78 6))) (14 * (M 78 9) + 1)) 0) (14 * (M 78 9) + 1) ((clS R0 (M 78 9) s0 i (nbV (M 82) (M 78 5) (M 78 6))) (14 * (M 78 9) + 1) + 1))) 78 (up (up (M 78) 6 (e + 1)) 7 (e + 1))) : Mem) = (up1 (up1 M 83 (up (up ((clS R0 (M 78 9) s0 i (nbV (M 82) (M 78 5) (M 78 6)))) (14 * (M 78 9) + 2 + (clS R0 (M 78 9) s0 i (nbV (M 82) (M 78 5) (M 78 6))) (14 * (M 78 9) + 1)) 0) (14 * (M 78 9) + 1) ((clS R0 (M 78 9) s0 i (nbV (M 82) (M 78 5) (M 78 6))) (14 * (M 78 9) + 1) + 1))) 78 (up (up (M 78) 6 (nrd (M 82) (M 78 5) (M 78 6) 8 0).2.1) 7 (nrd (M 82) (M 78 5) (M 78 6) 8 0).2.1)) from (by rw [hR9])]
              exact v_vret ok rt dX10_readsNumbers_58 (Or.inr (⟨(up (up ((clS R0 (M 78 9) s0 i (nbV (M 82) (M 78 5) (M 78 6)))) (14 * (M 78 9) + 2 + (clS R0 (M 78 9) s0 i (nbV (M 82) (M 78 5) (M 78 6))) (14 * (M 78 9) + 1)) 0) (14 * (M 78 9) + 1) ((clS R0 (M 78 9) s0 i (nbV (M 82) (M 78 5) (M 78 6))) (14 * (M 78 9) + 1) + 1)), rfl, rfl, (by rw [hR9])⟩))
    refine v_lv (ls' := [(0, rf g 78), (1, iv 8), (2, iv (14 * ((M 78) 9)))]) ok [1, 2, 0] rfl ?_
    rw [show ((up1 (up1 M 83 (clS R0 (M 78 9) s0 1 (nbV (M 82) (M 78 5) (M 78 6)))) 78 (up ((M 78)) 6 ((M 78) 6 + (dgs ((M 82)) ((M 78) 5) 3 ((M 78) 6))))) : Mem) = (up1 (up1 M 83 (clS R0 (M 78 9) s0 (1 : Int) (nbV (M 82) (M 78 5) (M 78 6)))) 78 (up (M 78) 6 (M 78 6 + (dgs (M 82) (M 78 5) 3 (M 78 6))))) from (by
          funext j
          by_cases hj0 : j = 83
          · subst hj0; simp [up1, up1_self]
          by_cases hj1 : j = 78
          · subst hj1; simp [up1, up1_self]
          simp [up1, hj0, hj1])]
    exact lp16 _ 1 (M 78 6 + (dgs (M 82) (M 78 5) 3 (M 78 6))) (by omega) ⟨rfl, hz9⟩ rfl (Nat.lt_succ_self _)
  · skip
    have h5 : (dgs ((M 82)) ((M 78) 5) 3 ((M 78) 6)) = 0 := h5
    show V z g 3 (up1 (up1 M 83 (clS R0 (M 78 9) s0 0 (nbV (M 82) (M 78 5) (M 78 6)))) 78 (up ((M 78)) 7 ((M 78) 6))) [(0, rf g 78), (1, iv 8)] [iv 0, rf g 78] 5
    have hz9 := h5
    have hn9 : 0 ≤ clS R0 (M 78 9) s0 0 (nbV (M 82) (M 78 5) (M 78 6)) (14 * M 78 9 + 1) ∧ clS R0 (M 78 9) s0 0 (nbV (M 82) (M 78 5) (M 78 6)) (14 * M 78 9 + 1) ≤ 11 := by rw [clS_1]; omega
    have hR9 : (nrd (M 82) (M 78 5) (M 78 6) 8 0) = (0, M 78 6, 0) := nrd_f (i := 0) (k := 7) hz9
    rw [show ((up1 (up1 M 83 (clS R0 (M 78 9) s0 0 (nbV (M 82) (M 78 5) (M 78 6)))) 78 (up ((M 78)) 7 ((M 78) 6))) : Mem) = (up1 (up1 M 83 (clS R0 (M 78 9) s0 0 (nbV (M 82) (M 78 5) (M 78 6)))) 78 (up (up (M 78) 6 (M 78 6)) 7 (M 78 6))) from (by rw [up_self])]
    refine v_callV (na := 1) (i := 78) (C := RX10) (T := TX10) (N := 22) (f0 := (up (up (M 78) 6 (M 78 6)) 7 (M 78 6))) ok (ct_X10_tells z.2.1 g (up1 (up1 M 83 (clS R0 (M 78 9) s0 0 (nbV (M 82) (M 78 5) (M 78 6)))) 78 (up (up (M 78) 6 (M 78 6)) 7 (M 78 6))) 0 (by show 0 ≤ (M 78 9) ∧ (M 78 9) ≤ 11; first | omega | assumption) hn9) gX10_readsNumbers_X10_tells (kd_lt (show kd 78 = 10 from rfl) (by decide)) rfl rfl (cellF_10 _ (by decide)) rfl (by decide +kernel) rfl (by decide) [] rfl (Nat.le_of_ble_eq_true rfl) dX10_readsNumbers_5 (fun v32 M33 hp31 => ?_)
    obtain ⟨rfl, rfl⟩ := hp31
    show V z g 3 (up1 (up1 (up1 M 83 (clS R0 (M 78 9) s0 0 (nbV (M 82) (M 78 5) (M 78 6)))) 78 (up (up (M 78) 6 (M 78 6)) 7 (M 78 6))) 83 (up (up ((clS R0 (M 78 9) s0 0 (nbV (M 82) (M 78 5) (M 78 6)))) (14 * (M 78 9) + 2 + (clS R0 (M 78 9) s0 0 (nbV (M 82) (M 78 5) (M 78 6))) (14 * (M 78 9) + 1)) 0) (14 * (M 78 9) + 1) ((clS R0 (M 78 9) s0 0 (nbV (M 82) (M 78 5) (M 78 6))) (14 * (M 78 9) + 1) + 1))) [(0, rf g 78), (1, iv 8)] [] 8
    rw [show ((up1 (up1 (up1 M 83 (clS R0 (M 78 9) s0 0 (nbV (M 82) (M 78 5) (M 78 6)))) 78 (up (up (M 78) 6 (M 78 6)) 7 (M 78 6))) 83 (up (up ((clS R0 (M 78 9) s0 0 (nbV (M 82) (M 78 5) (M 78 6)))) (14 * (M 78 9) + 2 + (clS R0 (M 78 9) s0 0 (nbV (M 82) (M 78 5) (M 78 6))) (14 * (M 78 9) + 1)) 0) (14 * (M 78 9) + 1) ((clS R0 (M 78 9) s0 0 (nbV (M 82) (M 78 5) (M 78 6))) (14 * (M 78 9) + 1) + 1))) : Mem) = (up1 (up1 M 83 (up (up ((clS R0 (M 78 9) s0 0 (nbV (M 82) (M 78 5) (M 78 6)))) (14 * (M 78 9) + 2 + (clS R0 (M 78 9) s0 0 (nbV (M 82) (M 78 5) (M 78 6))) (14 * (M 78 9) + 1)) 0) (14 * (M 78 9) + 1) ((clS R0 (M 78 9) s0 0 (nbV (M 82) (M 78 5) (M 78 6))) (14 * (M 78 9) + 1) + 1))) 78 (up (up (M 78) 6 (M 78 6)) 7 (M 78 6))) from (by
          funext j
          by_cases hj0 : j = 83
          · subst hj0; simp [up1, up1_self]
          by_cases hj1 : j = 78
          · subst hj1; simp [up1, up1_self]
          simp [up1, hj0, hj1])]
    rw [show ((up1 (up1 M 83 (up (up ((clS R0 (M 78 9) s0 0 (nbV (M 82) (M 78 5) (M 78 6)))) (14 * (M 78 9) + 2 + (clS R0 (M 78 9) s0 0 (nbV (M 82) (M 78 5) (M 78 6))) (14 * (M 78 9) + 1)) 0) (14 * (M 78 9) + 1) ((clS R0 (M 78 9) s0 0 (nbV (M 82) (M 78 5) (M 78 6))) (14 * (M 78 9) + 1) + 1))) 78 (up (up (M 78) 6 (M 78 6)) 7 (M 78 6))) : Mem) = (up1 (up1 M 83 (clS R0 (M 78 9) s0 1 (up (nbV (M 82) (M 78 5) (M 78 6)) 0 0))) 78 (up (up (M 78) 6 (M 78 6)) 7 (M 78 6))) from (by rw [clS_tl _ _ _ _ _ _ (by decide)]; rfl)]
    refine v_bipush (n := 14) ok rfl dX10_readsNumbers_8 ?_
    refine v_aload_n ok 0 dX10_readsNumbers_10 rfl rfl ?_
    refine v_get (T := TX10) (N := 22) (f0 := (up (up (M 78) 6 (M 78 6)) 7 (M 78 6))) (v := iv (M 78 9)) ok mi_X10_readsNumbers_10 (kd_lt (show kd 78 = 10 from rfl) (by decide)) rfl rfl (cellF_10 _ (by decide)) 9 (by decide) mk_X10_readsNumbers_119 rfl rfl dX10_readsNumbers_11 ?_
    refine v_imul ok dX10_readsNumbers_14 ?_
    refine v_istore_n ok [(2, iv (14 * (M 78 9))), (0, rf g 78), (1, iv 8)] dX10_readsNumbers_15 rfl (by decide) rfl ?_
    refine v_aload_n ok 1 dX10_readsNumbers_16 rfl rfl ?_
    refine v_callV (na := 0) (i := 78) (C := RX10) (T := TX10) (N := 22) (f0 := (up (up (M 78) 6 (M 78 6)) 7 (M 78 6))) ok (ct_X10_here z.2.1 g (up1 (up1 M 83 (clS R0 (M 78 9) s0 1 (up (nbV (M 82) (M 78 5) (M 78 6)) 0 0))) 78 (up (up (M 78) 6 (M 78 6)) 7 (M 78 6)))  (by show 0 ≤ (M 78 5) ∧ (M 78 5) ≤ 100; first | omega | assumption) (by show 0 ≤ (M 78 6) ∧ (M 78 6) ≤ 100; first | omega | assumption) (by show -1 ≤ (M 78 6) ∧ (M 78 6) ≤ 1000; first | omega | assumption) (by show bdf ((M 82)) 100 0 127; first | omega | assumption)) gX10_readsNumbers_X10_here (kd_lt (show kd 78 = 10 from rfl) (by decide)) rfl rfl (cellF_10 _ (by decide)) rfl (by decide +kernel) rfl (by decide) [] rfl (Nat.le_of_ble_eq_true rfl) dX10_readsNumbers_17 (fun v35 M36 hp34 => ?_)
    obtain ⟨rfl, rfl, h37⟩ := hp34
    have h37 : -1 ≤ (hrW ((M 78 6)) ((M 78 6)) ((M 82)) ((M 78 5))) ∧ (hrW ((M 78 6)) ((M 78 6)) ((M 82)) ((M 78 5))) ≤ 127 := h37
    show V z g 3 (up1 (up1 M 83 (clS R0 (M 78 9) s0 1 (up (nbV (M 82) (M 78 5) (M 78 6)) 0 0))) 78 (up (up (M 78) 6 (M 78 6)) 7 (M 78 6))) [(2, iv (14 * (M 78 9))), (0, rf g 78), (1, iv 8)] [iv (hrW ((M 78 6)) ((M 78 6)) ((M 82)) ((M 78 5)))] 20
    rw [show ((hrW ((M 78 6)) ((M 78 6)) ((M 82)) ((M 78 5))) : Int) = (-1) from (by unfold hrW; rw [if_neg (by omega)])]
    refine v_bipush (n := 44) ok rfl dX10_readsNumbers_20 ?_
    refine v_icmp_ne (tgt := 58) ok (by decide) (by decide) dX10_readsNumbers_22 (by decide) (fun c38 => ?_) (fun c38 => absurd c38 (by decide))
    rw [show ((up1 (up1 M 83 (clS R0 (M 78 9) s0 1 (up (nbV (M 82) (M 78 5) (M 78 6)) 0 0))) 78 (up (up (M 78) 6 (M 78 6)) 7 (M 78 6))) : Mem) = (up1 (up1 M 83 (clS R0 (M 78 9) s0 1 (up (nbV (M 82) (M 78 5) (M 78 6)) 0 0))) 78 (up (up (M 78) 6 (nrd (M 82) (M 78 5) (M 78 6) 8 0).2.1) 7 (nrd (M 82) (M 78 5) (M 78 6) 8 0).2.1)) from (by rw [hR9])]
    exact v_vret ok rt dX10_readsNumbers_58 (Or.inr (⟨(clS R0 (M 78 9) s0 1 (up (nbV (M 82) (M 78 5) (M 78 6)) 0 0)), rfl, rfl, (by rw [hR9])⟩))

set_option maxRecDepth 100000 in
set_option maxHeartbeats 400000 in
theorem ct_X10_readsNumbers_12 (l : Launch) (g : Gl) (M : Mem) (R0 : Int → Int) (s0 : Int) (hL : 0 ≤ M 78 5 ∧ M 78 5 ≤ 100) (hp : 0 ≤ M 78 6 ∧ M 78 6 ≤ M 78 5) (hG : bdf (M 82) 100 0 127) (hf0 : M 78 7 = -1) (hm : 0 ≤ M 78 9 ∧ M 78 9 ≤ 11) (hcl : M 83 = clS R0 (M 78 9) s0 0 (nbV (M 82) (M 78 5) (M 78 6))) : Ct l g yX10_readsNumbers wsX10_readsNumbers 4 87 [rf g 78, iv 12] M (fun rv M' => (rv = none ∧ M' = (up1 (up1 M 83 (clS R0 (M 78 9) s0 (nrd (M 82) (M 78 5) (M 78 6) 12 0).2.2 (nbV (M 82) (M 78 5) (M 78 6)))) 78 (up (M 78) 6 (nrd (M 82) (M 78 5) (M 78 6) 12 0).2.1)) ∧ ((nrd (M 82) (M 78 5) (M 78 6) 12 0).1 = 1)) ∨ (∃ (G : Int → Int), rv = none ∧ M' = (up1 (up1 M 83 G) 78 (up (up (M 78) 6 (nrd (M 82) (M 78 5) (M 78 6) 12 0).2.1) 7 (nrd (M 82) (M 78 5) (M 78 6) 12 0).2.1)) ∧ ((nrd (M 82) (M 78 5) (M 78 6) 12 0).1 = 0))) := by
  refine Ct.of (cc := cX10_readsNumbers) (nL := 3) (ret := none) (by decide) rfl (Nat.le_of_ble_eq_true rfl) (fun z hz ok rt => ?_)
  have ok : Ok z g cX10_readsNumbers 3 RX10 wsX10_readsNumbers 4 87 := ok
  show V z g 3 M [(0, rf g 78), (1, iv 12)] [] 0
  rw [show (M : Mem) = (up1 M 83 (clS R0 (M 78 9) s0 0 (nbV (M 82) (M 78 5) (M 78 6)))) from (by rw [← hcl, up1_self])]
  refine v_aload_n ok 0 dX10_readsNumbers_0 rfl rfl ?_
  refine v_aload_n ok 0 dX10_readsNumbers_1 rfl rfl ?_
  refine v_callV (na := 0) (i := 78) (C := RX10) (T := TX10) (N := 22) (f0 := (M 78)) ok (ct_X10_number z.2.1 g (up1 M 83 (clS R0 (M 78 9) s0 0 (nbV (M 82) (M 78 5) (M 78 6))))  (by show 0 ≤ (M 78) 5 ∧ (M 78) 5 ≤ 100; first | omega | assumption) (by show 0 ≤ (M 78) 6 ∧ (M 78) 6 ≤ 100; first | omega | assumption) (by show -1 ≤ (M 78) 7 ∧ (M 78) 7 ≤ 1000; first | omega | assumption) (by show bdf ((M 82)) 100 0 127; first | omega | assumption) (by show (M 78) 7 < 0; first | omega | assumption)) gX10_readsNumbers_X10_number (kd_lt (show kd 78 = 10 from rfl) (by decide)) rfl rfl (cellF_10 _ (by decide)) rfl (by decide +kernel) rfl (by decide) [rf g 78] rfl (Nat.le_of_ble_eq_true rfl) dX10_readsNumbers_2 (fun v2 M3 hp1 => ?_)
  rcases hp1 with ⟨rfl, rfl, h4⟩ | ⟨rfl, rfl, h5⟩
  · skip
    have h4 : 0 < (dgs ((M 82)) ((M 78) 5) 3 ((M 78) 6)) := h4
    show V z g 3 (up1 (up1 M 83 (clS R0 (M 78 9) s0 0 (nbV (M 82) (M 78 5) (M 78 6)))) 78 (up ((M 78)) 6 ((M 78) 6 + (dgs ((M 82)) ((M 78) 5) 3 ((M 78) 6))))) [(0, rf g 78), (1, iv 12)] [iv (nmv ((M 82)) ((M 78) 6) (dgs ((M 82)) ((M 78) 5) 3 ((M 78) 6)).toNat), rf g 78] 5
    have hrg := dgs_rng (T := M 82) (L := M 78 5) 3 (M 78 6)
    have hz9 := h4
    have hrl := hrg.2.2 hz9
    have hv9 : nmv (M 82) (M 78 6) (dgs (M 82) (M 78 5) 3 (M 78 6)).toNat = nbV (M 82) (M 78 5) (M 78 6) 0 := rfl
    have hn9 : 0 ≤ clS R0 (M 78 9) s0 0 (nbV (M 82) (M 78 5) (M 78 6)) (14 * M 78 9 + 1) ∧ clS R0 (M 78 9) s0 0 (nbV (M 82) (M 78 5) (M 78 6)) (14 * M 78 9 + 1) ≤ 11 := by rw [clS_1]; omega
    refine v_callV (na := 1) (i := 78) (C := RX10) (T := TX10) (N := 22) (f0 := (up ((M 78)) 6 ((M 78) 6 + (dgs ((M 82)) ((M 78) 5) 3 ((M 78) 6))))) ok (ct_X10_tells z.2.1 g (up1 (up1 M 83 (clS R0 (M 78 9) s0 0 (nbV (M 82) (M 78 5) (M 78 6)))) 78 (up ((M 78)) 6 ((M 78) 6 + (dgs ((M 82)) ((M 78) 5) 3 ((M 78) 6))))) (nmv ((M 82)) ((M 78) 6) (dgs ((M 82)) ((M 78) 5) 3 ((M 78) 6)).toNat) (by show 0 ≤ ((M 78) 9) ∧ ((M 78) 9) ≤ 11; first | omega | assumption) hn9) gX10_readsNumbers_X10_tells (kd_lt (show kd 78 = 10 from rfl) (by decide)) rfl rfl (cellF_10 _ (by decide)) rfl (by decide +kernel) rfl (by decide) [] rfl (Nat.le_of_ble_eq_true rfl) dX10_readsNumbers_5 (fun v7 M8 hp6 => ?_)
    obtain ⟨rfl, rfl⟩ := hp6
    show V z g 3 (up1 (up1 (up1 M 83 (clS R0 (M 78 9) s0 0 (nbV (M 82) (M 78 5) (M 78 6)))) 78 (up ((M 78)) 6 ((M 78) 6 + (dgs ((M 82)) ((M 78) 5) 3 ((M 78) 6))))) 83 (up (up ((clS R0 (M 78 9) s0 0 (nbV (M 82) (M 78 5) (M 78 6)))) (14 * ((M 78) 9) + 2 + (clS R0 (M 78 9) s0 0 (nbV (M 82) (M 78 5) (M 78 6))) (14 * ((M 78) 9) + 1)) (nmv ((M 82)) ((M 78) 6) (dgs ((M 82)) ((M 78) 5) 3 ((M 78) 6)).toNat)) (14 * ((M 78) 9) + 1) ((clS R0 (M 78 9) s0 0 (nbV (M 82) (M 78 5) (M 78 6))) (14 * ((M 78) 9) + 1) + 1))) [(0, rf g 78), (1, iv 12)] [] 8
    rw [show ((up1 (up1 (up1 M 83 (clS R0 (M 78 9) s0 0 (nbV (M 82) (M 78 5) (M 78 6)))) 78 (up ((M 78)) 6 ((M 78) 6 + (dgs ((M 82)) ((M 78) 5) 3 ((M 78) 6))))) 83 (up (up ((clS R0 (M 78 9) s0 0 (nbV (M 82) (M 78 5) (M 78 6)))) (14 * ((M 78) 9) + 2 + (clS R0 (M 78 9) s0 0 (nbV (M 82) (M 78 5) (M 78 6))) (14 * ((M 78) 9) + 1)) (nmv ((M 82)) ((M 78) 6) (dgs ((M 82)) ((M 78) 5) 3 ((M 78) 6)).toNat)) (14 * ((M 78) 9) + 1) ((clS R0 (M 78 9) s0 0 (nbV (M 82) (M 78 5) (M 78 6))) (14 * ((M 78) 9) + 1) + 1))) : Mem) = (up1 (up1 M 83 (up (up ((clS R0 (M 78 9) s0 0 (nbV (M 82) (M 78 5) (M 78 6)))) (14 * ((M 78) 9) + 2 + (clS R0 (M 78 9) s0 0 (nbV (M 82) (M 78 5) (M 78 6))) (14 * ((M 78) 9) + 1)) (nmv ((M 82)) ((M 78) 6) (dgs ((M 82)) ((M 78) 5) 3 ((M 78) 6)).toNat)) (14 * ((M 78) 9) + 1) ((clS R0 (M 78 9) s0 0 (nbV (M 82) (M 78 5) (M 78 6))) (14 * ((M 78) 9) + 1) + 1))) 78 (up ((M 78)) 6 ((M 78) 6 + (dgs ((M 82)) ((M 78) 5) 3 ((M 78) 6))))) from (by
          funext j
          by_cases hj0 : j = 83
          · subst hj0; simp [up1, up1_self]
          by_cases hj1 : j = 78
          · subst hj1; simp [up1, up1_self]
          simp [up1, hj0, hj1])]
    rw [show ((up1 (up1 M 83 (up (up ((clS R0 (M 78 9) s0 0 (nbV (M 82) (M 78 5) (M 78 6)))) (14 * ((M 78) 9) + 2 + (clS R0 (M 78 9) s0 0 (nbV (M 82) (M 78 5) (M 78 6))) (14 * ((M 78) 9) + 1)) (nmv ((M 82)) ((M 78) 6) (dgs ((M 82)) ((M 78) 5) 3 ((M 78) 6)).toNat)) (14 * ((M 78) 9) + 1) ((clS R0 (M 78 9) s0 0 (nbV (M 82) (M 78 5) (M 78 6))) (14 * ((M 78) 9) + 1) + 1))) 78 (up ((M 78)) 6 ((M 78) 6 + (dgs ((M 82)) ((M 78) 5) 3 ((M 78) 6))))) : Mem) = (up1 (up1 M 83 (clS R0 (M 78 9) s0 1 (nbV (M 82) (M 78 5) (M 78 6)))) 78 (up ((M 78)) 6 ((M 78) 6 + (dgs ((M 82)) ((M 78) 5) 3 ((M 78) 6))))) from (by rw [clS_tv _ _ _ _ _ _ (by decide) hv9]; rfl)]
    refine v_bipush (n := 14) ok rfl dX10_readsNumbers_8 ?_
    refine v_aload_n ok 0 dX10_readsNumbers_10 rfl rfl ?_
    refine v_get (T := TX10) (N := 22) (f0 := (up ((M 78)) 6 ((M 78) 6 + (dgs ((M 82)) ((M 78) 5) 3 ((M 78) 6))))) (v := iv ((M 78) 9)) ok mi_X10_readsNumbers_10 (kd_lt (show kd 78 = 10 from rfl) (by decide)) rfl rfl (cellF_10 _ (by decide)) 9 (by decide) mk_X10_readsNumbers_119 rfl rfl dX10_readsNumbers_11 ?_
    refine v_imul ok dX10_readsNumbers_14 ?_
    refine v_istore_n ok [(2, iv (14 * ((M 78) 9))), (0, rf g 78), (1, iv 12)] dX10_readsNumbers_15 rfl (by decide) rfl ?_
    have lp16 : ∀ (fu : Nat) (i e : Int), (1 ≤ i ∧ i ≤ 12 ∧ 0 ≤ e ∧ e ≤ M 78 5) → (e = (nst (M 82) (M 78 5) (M 78 6) (i - 1).toNat) + (dgs (M 82) (M 78 5) 3 (nst (M 82) (M 78 5) (M 78 6) (i - 1).toNat)) ∧ 0 < (dgs (M 82) (M 78 5) 3 (nst (M 82) (M 78 5) (M 78 6) (i - 1).toNat))) → ((nrd (M 82) (M 78 5) (M 78 6) 12 0) = nrd (M 82) (M 78 5) (M 78 6) (12 - i + 1).toNat (i - 1).toNat) → (12 - i).toNat < fu → V z g 3 (up1 (up1 M 83 (clS R0 (M 78 9) s0 i (nbV (M 82) (M 78 5) (M 78 6)))) 78 (up (M 78) 6 e)) [(0, rf g 78), (1, iv 12), (2, iv (14 * M 78 9))] [] 16 := by
      intro fu
      induction fu with
      | zero => intro i e _ _ _ hm; exact absurd hm (Nat.not_lt_zero _)
      | succ fu ih16 =>
        intro i e i16_0 i16_1 i16_2 hm16
        refine v_aload_n ok 0 dX10_readsNumbers_16 rfl rfl ?_
        refine v_callV (na := 0) (i := 78) (C := RX10) (T := TX10) (N := 22) (f0 := (up (M 78) 6 e)) ok (ct_X10_here z.2.1 g (up1 (up1 M 83 (clS R0 (M 78 9) s0 i (nbV (M 82) (M 78 5) (M 78 6)))) 78 (up (M 78) 6 e))  (by show 0 ≤ (M 78 5) ∧ (M 78 5) ≤ 100; first | omega | assumption) (by show 0 ≤ e ∧ e ≤ 100; first | omega | assumption) (by show -1 ≤ (M 78 7) ∧ (M 78 7) ≤ 1000; first | omega | assumption) (by show bdf ((M 82)) 100 0 127; first | omega | assumption)) gX10_readsNumbers_X10_here (kd_lt (show kd 78 = 10 from rfl) (by decide)) rfl rfl (cellF_10 _ (by decide)) rfl (by decide +kernel) rfl (by decide) [] rfl (Nat.le_of_ble_eq_true rfl) dX10_readsNumbers_17 (fun v10 M11 hp9 => ?_)
        obtain ⟨rfl, rfl, h12⟩ := hp9
        have h12 : -1 ≤ (hrW ((M 78 7)) (e) ((M 82)) ((M 78 5))) ∧ (hrW ((M 78 7)) (e) ((M 82)) ((M 78 5))) ≤ 127 := h12
        show V z g 3 (up1 (up1 M 83 (clS R0 (M 78 9) s0 i (nbV (M 82) (M 78 5) (M 78 6)))) 78 (up (M 78) 6 e)) [(0, rf g 78), (1, iv 12), (2, iv (14 * M 78 9))] [iv (hrW ((M 78 7)) (e) ((M 82)) ((M 78 5)))] 20
        rw [show ((hrW ((M 78 7)) (e) ((M 82)) ((M 78 5))) : Int) = (sgn (M 82) (M 78 5) e) from (by unfold hrW; rw [if_pos (by omega)])]
        have hh8 := sgn_rng (p := e) hG (show M 78 5 ≤ 100 by omega)
        refine v_bipush (n := 44) ok rfl dX10_readsNumbers_20 ?_
        refine v_icmp_ne (tgt := 58) ok ⟨by omega, by omega⟩ (by decide) dX10_readsNumbers_22 (by decide) (fun c13 => ?_) (fun c13 => ?_)
        · skip
          have hR9 : (nrd (M 82) (M 78 5) (M 78 6) 12 0) = (1, e, i) := by
            rw [i16_2, show (12 - i + 1).toNat = (12 - i).toNat + 1 by omega, nrd_e i16_1.2 (Or.inr (by rw [← i16_1.1]; exact c13)), ← i16_1.1, Int.toNat_of_nonneg (by omega)]
            congr 2; omega
          rw [show ((up1 (up1 M 83 (clS R0 (M 78 9) s0 i (nbV (M 82) (M 78 5) (M 78 6)))) 78 (up (M 78) 6 e)) : Mem) = (up1 (up1 M 83 (clS R0 (M 78 9) s0 (nrd (M 82) (M 78 5) (M 78 6) 12 0).2.2 (nbV (M 82) (M 78 5) (M 78 6)))) 78 (up (M 78) 6 (nrd (M 82) (M 78 5) (M 78 6) 12 0).2.1)) from (by rw [hR9])]
          exact v_vret ok rt dX10_readsNumbers_58 (Or.inl (⟨rfl, rfl, (by rw [hR9])⟩))
        · skip
          have hcm : sgn (M 82) (M 78 5) e = 44 := by omega
          have hl9 := sgn_lt (T := M 82) (L := M 78 5) (p := e) (by omega)
          refine v_aload_n ok 0 dX10_readsNumbers_25 rfl rfl ?_
          refine v_get (T := TX10) (N := 22) (f0 := (up (M 78) 6 e)) (v := rf g 83) ok mi_X10_readsNumbers_10 (kd_lt (show kd 78 = 10 from rfl) (by decide)) rfl rfl (cellF_10 _ (by decide)) 8 (by decide) mk_X10_readsNumbers_24 rfl rfl dX10_readsNumbers_26 ?_
          refine v_iload_n ok 2 dX10_readsNumbers_29 rfl rfl ?_
          refine v_iconst (n := 1) ok dX10_readsNumbers_30 ?_
          refine v_iadd ok dX10_readsNumbers_31 ?_
          refine v_iald (n := 168) (f0 := (clS R0 (M 78 9) s0 i (nbV (M 82) (M 78 5) (M 78 6)))) ok (by decide) rfl (by omega) rfl dX10_readsNumbers_32 ?_
          rw [show (((clS R0 (M 78 9) s0 i (nbV (M 82) (M 78 5) (M 78 6))) ((14 * M 78 9) + 1)) : Int) = i from (clS_1 _ _ _ _ _)]
          refine v_iload_n ok 1 dX10_readsNumbers_33 rfl rfl ?_
          refine v_icmp_ge (tgt := 58) ok ⟨by omega, by omega⟩ (by decide) dX10_readsNumbers_34 (by decide) (fun c14 => ?_) (fun c14 => ?_)
          · skip
            have hR9 : (nrd (M 82) (M 78 5) (M 78 6) 12 0) = (1, e, i) := by
              rw [i16_2, show (12 - i + 1).toNat = 0 + 1 by omega, nrd_e i16_1.2 (Or.inl rfl), ← i16_1.1, Int.toNat_of_nonneg (by omega)]
              congr 2; omega
            rw [show ((up1 (up1 M 83 (clS R0 (M 78 9) s0 i (nbV (M 82) (M 78 5) (M 78 6)))) 78 (up (M 78) 6 e)) : Mem) = (up1 (up1 M 83 (clS R0 (M 78 9) s0 (nrd (M 82) (M 78 5) (M 78 6) 12 0).2.2 (nbV (M 82) (M 78 5) (M 78 6)))) 78 (up (M 78) 6 (nrd (M 82) (M 78 5) (M 78 6) 12 0).2.1)) from (by rw [hR9])]
            exact v_vret ok rt dX10_readsNumbers_58 (Or.inl (⟨rfl, rfl, (by rw [hR9])⟩))
          · skip
            have hst : (nst (M 82) (M 78 5) (M 78 6) i.toNat) = e + 1 := by rw [show i.toNat = (i - 1).toNat + 1 by omega, nst, ← i16_1.1]
            have hRn : (nrd (M 82) (M 78 5) (M 78 6) 12 0) = nrd (M 82) (M 78 5) (M 78 6) (12 - i).toNat i.toNat := by
              rw [i16_2, show (12 - i + 1).toNat = (12 - i).toNat + 1 by omega, nrd_n i16_1.2 (by omega) (by rw [← i16_1.1]; exact hcm), show (i - 1).toNat + 1 = i.toNat by omega]
            have hrg := dgs_rng (T := M 82) (L := M 78 5) 3 (e + 1)
            have hn9 : 0 ≤ clS R0 (M 78 9) s0 i (nbV (M 82) (M 78 5) (M 78 6)) (14 * M 78 9 + 1) ∧ clS R0 (M 78 9) s0 i (nbV (M 82) (M 78 5) (M 78 6)) (14 * M 78 9 + 1) ≤ 11 := by rw [clS_1]; omega
            refine v_aload_n ok 0 dX10_readsNumbers_37 rfl rfl ?_
            refine v_dup ok rfl dX10_readsNumbers_38 ?_
            refine v_get (T := TX10) (N := 22) (f0 := (up (M 78) 6 e)) (v := iv e) ok mi_X10_readsNumbers_10 (kd_lt (show kd 78 = 10 from rfl) (by decide)) rfl rfl (cellF_10 _ (by decide)) 6 (by decide) mk_X10_readsNumbers_101 rfl rfl dX10_readsNumbers_39 ?_
            refine v_iconst (n := 1) ok dX10_readsNumbers_42 ?_
            refine v_iadd ok dX10_readsNumbers_43 ?_
            refine v_put (T := TX10) (N := 22) (f0 := (up (M 78) 6 e)) (f' := up (up (M 78) 6 e) 6 (e + 1)) (ty := .int) ok mi_X10_readsNumbers_10 (kd_lt (show kd 78 = 10 from rfl) (by decide)) rfl rfl (cellF_10 _ (by decide)) tyX10 tyX10_ok nmX10 6 (by decide) mk_X10_readsNumbers_101 rfl rfl (by decide +kernel) rfl rfl (Nat.le_of_ble_eq_true rfl) ((cellF_10 _ (by decide)).trans rfl) dX10_readsNumbers_44 ?_
            rw [up_up]
            rw [up1_up1]
            refine v_aload_n ok 0 dX10_readsNumbers_47 rfl rfl ?_
            refine v_aload_n ok 0 dX10_readsNumbers_48 rfl rfl ?_
            refine v_callV (na := 0) (i := 78) (C := RX10) (T := TX10) (N := 22) (f0 := up (M 78) 6 (e + 1)) ok (ct_X10_number z.2.1 g (up1 (up1 M 83 (clS R0 (M 78 9) s0 i (nbV (M 82) (M 78 5) (M 78 6)))) 78 (up (M 78) 6 (e + 1)))  (by show 0 ≤ (M 78 5) ∧ (M 78 5) ≤ 100; first | omega | assumption) (by show 0 ≤ (e + 1) ∧ (e + 1) ≤ 100; first | omega | assumption) (by show -1 ≤ (M 78 7) ∧ (M 78 7) ≤ 1000; first | omega | assumption) (by show bdf ((M 82)) 100 0 127; first | omega | assumption) (by show (M 78 7) < 0; first | omega | assumption)) gX10_readsNumbers_X10_number (kd_lt (show kd 78 = 10 from rfl) (by decide)) rfl rfl (cellF_10 _ (by decide)) rfl (by decide +kernel) rfl (by decide) [rf g 78] rfl (Nat.le_of_ble_eq_true rfl) dX10_readsNumbers_49 (fun v16 M17 hp15 => ?_)
            rcases hp15 with ⟨rfl, rfl, h18⟩ | ⟨rfl, rfl, h19⟩
            · skip
              have h18 : 0 < (dgs ((M 82)) ((M 78 5)) 3 ((e + 1))) := h18
              show V z g 3 (up1 (up1 (up1 M 83 (clS R0 (M 78 9) s0 i (nbV (M 82) (M 78 5) (M 78 6)))) 78 (up (M 78) 6 (e + 1))) 78 (up (up (M 78) 6 (e + 1)) 6 ((e + 1) + (dgs ((M 82)) ((M 78 5)) 3 ((e + 1)))))) [(0, rf g 78), (1, iv 12), (2, iv (14 * M 78 9))] [iv (nmv ((M 82)) ((e + 1)) (dgs ((M 82)) ((M 78 5)) 3 ((e + 1))).toNat), rf g 78] 52
              rw [show ((up1 (up1 (up1 M 83 (clS R0 (M 78 9) s0 i (nbV (M 82) (M 78 5) (M 78 6)))) 78 (up (M 78) 6 (e + 1))) 78 (up (up (M 78) 6 (e + 1)) 6 ((e + 1) + (dgs ((M 82)) ((M 78 5)) 3 ((e + 1)))))) : Mem) = (up1 (up1 M 83 (clS R0 (M 78 9) s0 i (nbV (M 82) (M 78 5) (M 78 6)))) 78 (up (up (M 78) 6 (e + 1)) 6 ((e + 1) + (dgs ((M 82)) ((M 78 5)) 3 ((e + 1)))))) from (by
                    funext j
                    by_cases hj0 : j = 83
                    · subst hj0; simp [up1, up1_self]
                    by_cases hj1 : j = 78
                    · subst hj1; simp [up1, up1_self]
                    simp [up1, hj0, hj1])]
              have hz9 := h18
              have hrl := hrg.2.2 hz9
              have hv9 : nmv (M 82) (e + 1) (dgs (M 82) (M 78 5) 3 (e + 1)).toNat = nbV (M 82) (M 78 5) (M 78 6) i := by unfold nbV; rw [hst]
              have hb1 : e + 1 + (dgs (M 82) (M 78 5) 3 (e + 1)) = (nst (M 82) (M 78 5) (M 78 6) (i + 1 - 1).toNat) + (dgs (M 82) (M 78 5) 3 (nst (M 82) (M 78 5) (M 78 6) (i + 1 - 1).toNat)) ∧ 0 < (dgs (M 82) (M 78 5) 3 (nst (M 82) (M 78 5) (M 78 6) (i + 1 - 1).toNat)) := by rw [show i + 1 - 1 = i by omega, hst]; exact ⟨rfl, hz9⟩
              have hb2 : (nrd (M 82) (M 78 5) (M 78 6) 12 0) = nrd (M 82) (M 78 5) (M 78 6) (12 - (i + 1) + 1).toNat (i + 1 - 1).toNat := by rw [hRn, show i + 1 - 1 = i by omega, show 12 - (i + 1) + 1 = 12 - i by omega]
              rw [show ((up1 (up1 M 83 (clS R0 (M 78 9) s0 i (nbV (M 82) (M 78 5) (M 78 6)))) 78 (up (up (M 78) 6 (e + 1)) 6 ((e + 1) + (dgs ((M 82)) ((M 78 5)) 3 ((e + 1)))))) : Mem) = (up1 (up1 M 83 (clS R0 (M 78 9) s0 i (nbV (M 82) (M 78 5) (M 78 6)))) 78 (up (M 78) 6 (e + 1 + (dgs (M 82) (M 78 5) 3 (e + 1))))) from (by rw [up_up])]
              refine v_callV (na := 1) (i := 78) (C := RX10) (T := TX10) (N := 22) (f0 := (up (M 78) 6 (e + 1 + (dgs (M 82) (M 78 5) 3 (e + 1))))) ok (ct_X10_tells z.2.1 g (up1 (up1 M 83 (clS R0 (M 78 9) s0 i (nbV (M 82) (M 78 5) (M 78 6)))) 78 (up (M 78) 6 (e + 1 + (dgs (M 82) (M 78 5) 3 (e + 1))))) (nmv ((M 82)) ((e + 1)) (dgs ((M 82)) ((M 78 5)) 3 ((e + 1))).toNat) (by show 0 ≤ (M 78 9) ∧ (M 78 9) ≤ 11; first | omega | assumption) hn9) gX10_readsNumbers_X10_tells (kd_lt (show kd 78 = 10 from rfl) (by decide)) rfl rfl (cellF_10 _ (by decide)) rfl (by decide +kernel) rfl (by decide) [] rfl (Nat.le_of_ble_eq_true rfl) dX10_readsNumbers_52 (fun v21 M22 hp20 => ?_)
              obtain ⟨rfl, rfl⟩ := hp20
              show V z g 3 (up1 (up1 (up1 M 83 (clS R0 (M 78 9) s0 i (nbV (M 82) (M 78 5) (M 78 6)))) 78 (up (M 78) 6 (e + 1 + (dgs (M 82) (M 78 5) 3 (e + 1))))) 83 (up (up ((clS R0 (M 78 9) s0 i (nbV (M 82) (M 78 5) (M 78 6)))) (14 * (M 78 9) + 2 + (clS R0 (M 78 9) s0 i (nbV (M 82) (M 78 5) (M 78 6))) (14 * (M 78 9) + 1)) (nmv ((M 82)) ((e + 1)) (dgs ((M 82)) ((M 78 5)) 3 ((e + 1))).toNat)) (14 * (M 78 9) + 1) ((clS R0 (M 78 9) s0 i (nbV (M 82) (M 78 5) (M 78 6))) (14 * (M 78 9) + 1) + 1))) [(0, rf g 78), (1, iv 12), (2, iv (14 * M 78 9))] [] 55
              rw [show ((up1 (up1 (up1 M 83 (clS R0 (M 78 9) s0 i (nbV (M 82) (M 78 5) (M 78 6)))) 78 (up (M 78) 6 (e + 1 + (dgs (M 82) (M 78 5) 3 (e + 1))))) 83 (up (up ((clS R0 (M 78 9) s0 i (nbV (M 82) (M 78 5) (M 78 6)))) (14 * (M 78 9) + 2 + (clS R0 (M 78 9) s0 i (nbV (M 82) (M 78 5) (M 78 6))) (14 * (M 78 9) + 1)) (nmv ((M 82)) ((e + 1)) (dgs ((M 82)) ((M 78 5)) 3 ((e + 1))).toNat)) (14 * (M 78 9) + 1) ((clS R0 (M 78 9) s0 i (nbV (M 82) (M 78 5) (M 78 6))) (14 * (M 78 9) + 1) + 1))) : Mem) = (up1 (up1 M 83 (up (up ((clS R0 (M 78 9) s0 i (nbV (M 82) (M 78 5) (M 78 6)))) (14 * (M 78 9) + 2 + (clS R0 (M 78 9) s0 i (nbV (M 82) (M 78 5) (M 78 6))) (14 * (M 78 9) + 1)) (nmv ((M 82)) ((e + 1)) (dgs ((M 82)) ((M 78 5)) 3 ((e + 1))).toNat)) (14 * (M 78 9) + 1) ((clS R0 (M 78 9) s0 i (nbV (M 82) (M 78 5) (M 78 6))) (14 * (M 78 9) + 1) + 1))) 78 (up (M 78) 6 (e + 1 + (dgs (M 82) (M 78 5) 3 (e + 1))))) from (by
                    funext j
                    by_cases hj0 : j = 83
                    · subst hj0; simp [up1, up1_self]
                    by_cases hj1 : j = 78
                    · subst hj1; simp [up1, up1_self]
                    simp [up1, hj0, hj1])]
              rw [show ((up1 (up1 M 83 (up (up ((clS R0 (M 78 9) s0 i (nbV (M 82) (M 78 5) (M 78 6)))) (14 * (M 78 9) + 2 + (clS R0 (M 78 9) s0 i (nbV (M 82) (M 78 5) (M 78 6))) (14 * (M 78 9) + 1)) (nmv ((M 82)) ((e + 1)) (dgs ((M 82)) ((M 78 5)) 3 ((e + 1))).toNat)) (14 * (M 78 9) + 1) ((clS R0 (M 78 9) s0 i (nbV (M 82) (M 78 5) (M 78 6))) (14 * (M 78 9) + 1) + 1))) 78 (up (M 78) 6 (e + 1 + (dgs (M 82) (M 78 5) 3 (e + 1))))) : Mem) = (up1 (up1 M 83 (clS R0 (M 78 9) s0 (i + 1) (nbV (M 82) (M 78 5) (M 78 6)))) 78 (up (M 78) 6 (e + 1 + (dgs (M 82) (M 78 5) 3 (e + 1))))) from (by rw [clS_tv _ _ _ _ _ _ (by omega) hv9])]
              refine v_goto (tgt := 16) ok dX10_readsNumbers_55 (by decide) ?_
              exact ih16 (i + 1) (e + 1 + (dgs (M 82) (M 78 5) 3 (e + 1))) (by omega) hb1 hb2 (by omega)
            · skip
              have h19 : (dgs ((M 82)) ((M 78 5)) 3 ((e + 1))) = 0 := h19
              show V z g 3 (up1 (up1 (up1 M 83 (clS R0 (M 78 9) s0 i (nbV (M 82) (M 78 5) (M 78 6)))) 78 (up (M 78) 6 (e + 1))) 78 (up (up (M 78) 6 (e + 1)) 7 ((e + 1)))) [(0, rf g 78), (1, iv 12), (2, iv (14 * M 78 9))] [iv 0, rf g 78] 52
              rw [show ((up1 (up1 (up1 M 83 (clS R0 (M 78 9) s0 i (nbV (M 82) (M 78 5) (M 78 6)))) 78 (up (M 78) 6 (e + 1))) 78 (up (up (M 78) 6 (e + 1)) 7 ((e + 1)))) : Mem) = (up1 (up1 M 83 (clS R0 (M 78 9) s0 i (nbV (M 82) (M 78 5) (M 78 6)))) 78 (up (up (M 78) 6 (e + 1)) 7 ((e + 1)))) from (by
                    funext j
                    by_cases hj0 : j = 83
                    · subst hj0; simp [up1, up1_self]
                    by_cases hj1 : j = 78
                    · subst hj1; simp [up1, up1_self]
                    simp [up1, hj0, hj1])]
              have hz9 := h19
              have hR9 : (nrd (M 82) (M 78 5) (M 78 6) 12 0) = (0, e + 1, i) := by rw [hRn, show (12 - i).toNat = (12 - i - 1).toNat + 1 by omega, nrd_f (by rw [hst]; exact hz9), hst, Int.toNat_of_nonneg (by omega)]
              rw [show ((up1 (up1 M 83 (clS R0 (M 78 9) s0 i (nbV (M 82) (M 78 5) (M 78 6)))) 78 (up (up (M 78) 6 (e + 1)) 7 ((e + 1)))) : Mem) = (up1 (up1 M 83 (clS R0 (M 78 9) s0 i (nbV (M 82) (M 78 5) (M 78 6)))) 78 (up (up (M 78) 6 (e + 1)) 7 (e + 1))) from rfl]
              refine v_callV (na := 1) (i := 78) (C := RX10) (T := TX10) (N := 22) (f0 := (up (up (M 78) 6 (e + 1)) 7 (e + 1))) ok (ct_X10_tells z.2.1 g (up1 (up1 M 83 (clS R0 (M 78 9) s0 i (nbV (M 82) (M 78 5) (M 78 6)))) 78 (up (up (M 78) 6 (e + 1)) 7 (e + 1))) 0 (by show 0 ≤ (M 78 9) ∧ (M 78 9) ≤ 11; first | omega | assumption) hn9) gX10_readsNumbers_X10_tells (kd_lt (show kd 78 = 10 from rfl) (by decide)) rfl rfl (cellF_10 _ (by decide)) rfl (by decide +kernel) rfl (by decide) [] rfl (Nat.le_of_ble_eq_true rfl) dX10_readsNumbers_52 (fun v24 M25 hp23 => ?_)
              obtain ⟨rfl, rfl⟩ := hp23
              show V z g 3 (up1 (up1 (up1 M 83 (clS R0 (M 78 9) s0 i (nbV (M 82) (M 78 5) (M 78 6)))) 78 (up (up (M 78) 6 (e + 1)) 7 (e + 1))) 83 (up (up ((clS R0 (M 78 9) s0 i (nbV (M 82) (M 78 5) (M 78 6)))) (14 * (M 78 9) + 2 + (clS R0 (M 78 9) s0 i (nbV (M 82) (M 78 5) (M 78 6))) (14 * (M 78 9) + 1)) 0) (14 * (M 78 9) + 1) ((clS R0 (M 78 9) s0 i (nbV (M 82) (M 78 5) (M 78 6))) (14 * (M 78 9) + 1) + 1))) [(0, rf g 78), (1, iv 12), (2, iv (14 * M 78 9))] [] 55
              rw [show ((up1 (up1 (up1 M 83 (clS R0 (M 78 9) s0 i (nbV (M 82) (M 78 5) (M 78 6)))) 78 (up (up (M 78) 6 (e + 1)) 7 (e + 1))) 83 (up (up ((clS R0 (M 78 9) s0 i (nbV (M 82) (M 78 5) (M 78 6)))) (14 * (M 78 9) + 2 + (clS R0 (M 78 9) s0 i (nbV (M 82) (M 78 5) (M 78 6))) (14 * (M 78 9) + 1)) 0) (14 * (M 78 9) + 1) ((clS R0 (M 78 9) s0 i (nbV (M 82) (M 78 5) (M 78 6))) (14 * (M 78 9) + 1) + 1))) : Mem) = (up1 (up1 M 83 (up (up ((clS R0 (M 78 9) s0 i (nbV (M 82) (M 78 5) (M 78 6)))) (14 * (M 78 9) + 2 + (clS R0 (M 78 9) s0 i (nbV (M 82) (M 78 5) (M 78 6))) (14 * (M 78 9) + 1)) 0) (14 * (M 78 9) + 1) ((clS R0 (M 78 9) s0 i (nbV (M 82) (M 78 5) (M 78 6))) (14 * (M 78 9) + 1) + 1))) 78 (up (up (M 78) 6 (e + 1)) 7 (e + 1))) from (by
                    funext j
                    by_cases hj0 : j = 83
                    · subst hj0; simp [up1, up1_self]
                    by_cases hj1 : j = 78
                    · subst hj1; simp [up1, up1_self]
                    simp [up1, hj0, hj1])]
              refine v_goto (tgt := 16) ok dX10_readsNumbers_55 (by decide) ?_
              refine v_aload_n ok 0 dX10_readsNumbers_16 rfl rfl ?_
              refine v_callV (na := 0) (i := 78) (C := RX10) (T := TX10) (N := 22) (f0 := (up (up (M 78) 6 (e + 1)) 7 (e + 1))) ok (ct_X10_here z.2.1 g (up1 (up1 M 83 (up (up ((clS R0 (M 78 9) s0 i (nbV (M 82) (M 78 5) (M 78 6)))) (14 * (M 78 9) + 2 + (clS R0 (M 78 9) s0 i (nbV (M 82) (M 78 5) (M 78 6))) (14 * (M 78 9) + 1)) 0) (14 * (M 78 9) + 1) ((clS R0 (M 78 9) s0 i (nbV (M 82) (M 78 5) (M 78 6))) (14 * (M 78 9) + 1) + 1))) 78 (up (up (M 78) 6 (e + 1)) 7 (e + 1)))  (by show 0 ≤ (M 78 5) ∧ (M 78 5) ≤ 100; first | omega | assumption) (by show 0 ≤ (e + 1) ∧ (e + 1) ≤ 100; first | omega | assumption) (by show -1 ≤ (e + 1) ∧ (e + 1) ≤ 1000; first | omega | assumption) (by show bdf ((M 82)) 100 0 127; first | omega | assumption)) gX10_readsNumbers_X10_here (kd_lt (show kd 78 = 10 from rfl) (by decide)) rfl rfl (cellF_10 _ (by decide)) rfl (by decide +kernel) rfl (by decide) [] rfl (Nat.le_of_ble_eq_true rfl) dX10_readsNumbers_17 (fun v27 M28 hp26 => ?_)
              obtain ⟨rfl, rfl, h29⟩ := hp26
              have h29 : -1 ≤ (hrW ((e + 1)) ((e + 1)) ((M 82)) ((M 78 5))) ∧ (hrW ((e + 1)) ((e + 1)) ((M 82)) ((M 78 5))) ≤ 127 := h29
              show V z g 3 (up1 (up1 M 83 (up (up ((clS R0 (M 78 9) s0 i (nbV (M 82) (M 78 5) (M 78 6)))) (14 * (M 78 9) + 2 + (clS R0 (M 78 9) s0 i (nbV (M 82) (M 78 5) (M 78 6))) (14 * (M 78 9) + 1)) 0) (14 * (M 78 9) + 1) ((clS R0 (M 78 9) s0 i (nbV (M 82) (M 78 5) (M 78 6))) (14 * (M 78 9) + 1) + 1))) 78 (up (up (M 78) 6 (e + 1)) 7 (e + 1))) [(0, rf g 78), (1, iv 12), (2, iv (14 * M 78 9))] [iv (hrW ((e + 1)) ((e + 1)) ((M 82)) ((M 78 5)))] 20
              rw [show ((hrW ((e + 1)) ((e + 1)) ((M 82)) ((M 78 5))) : Int) = (-1) from (by unfold hrW; rw [if_neg (by omega)])]
              refine v_bipush (n := 44) ok rfl dX10_readsNumbers_20 ?_
              refine v_icmp_ne (tgt := 58) ok (by decide) (by decide) dX10_readsNumbers_22 (by decide) (fun c30 => ?_) (fun c30 => absurd c30 (by decide))
              rw [show ((up1 (up1 M 83 (up (up ((clS R0 (M 78 9) s0 i (nbV (M 82) (M 78 5) (M 78 6)))) (14 * (M 78 9) + 2 + (clS R0 (M 78 9) s0 i (nbV (M 82) (M 78 5) (M 78 6))) (14 * (M 78 9) + 1)) 0) (14 * (M 78 9) + 1) ((clS R0 (M 78 9) s0 i (nbV (M 82) (M 78 5) (M 78 6))) (14 * (M 78 9) + 1) + 1))) 78 (up (up (M 78) 6 (e + 1)) 7 (e + 1))) : Mem) = (up1 (up1 M 83 (up (up ((clS R0 (M 78 9) s0 i (nbV (M 82) (M 78 5) (M 78 6)))) (14 * (M 78 9) + 2 + (clS R0 (M 78 9) s0 i (nbV (M 82) (M 78 5) (M 78 6))) (14 * (M 78 9) + 1)) 0) (14 * (M 78 9) + 1) ((clS R0 (M 78 9) s0 i (nbV (M 82) (M 78 5) (M 78 6))) (14 * (M 78 9) + 1) + 1))) 78 (up (up (M 78) 6 (nrd (M 82) (M 78 5) (M 78 6) 12 0).2.1) 7 (nrd (M 82) (M 78 5) (M 78 6) 12 0).2.1)) from (by rw [hR9])]
              exact v_vret ok rt dX10_readsNumbers_58 (Or.inr (⟨(up (up ((clS R0 (M 78 9) s0 i (nbV (M 82) (M 78 5) (M 78 6)))) (14 * (M 78 9) + 2 + (clS R0 (M 78 9) s0 i (nbV (M 82) (M 78 5) (M 78 6))) (14 * (M 78 9) + 1)) 0) (14 * (M 78 9) + 1) ((clS R0 (M 78 9) s0 i (nbV (M 82) (M 78 5) (M 78 6))) (14 * (M 78 9) + 1) + 1)), rfl, rfl, (by rw [hR9])⟩))
    refine v_lv (ls' := [(0, rf g 78), (1, iv 12), (2, iv (14 * ((M 78) 9)))]) ok [1, 2, 0] rfl ?_
    rw [show ((up1 (up1 M 83 (clS R0 (M 78 9) s0 1 (nbV (M 82) (M 78 5) (M 78 6)))) 78 (up ((M 78)) 6 ((M 78) 6 + (dgs ((M 82)) ((M 78) 5) 3 ((M 78) 6))))) : Mem) = (up1 (up1 M 83 (clS R0 (M 78 9) s0 (1 : Int) (nbV (M 82) (M 78 5) (M 78 6)))) 78 (up (M 78) 6 (M 78 6 + (dgs (M 82) (M 78 5) 3 (M 78 6))))) from (by
          funext j
          by_cases hj0 : j = 83
          · subst hj0; simp [up1, up1_self]
          by_cases hj1 : j = 78
          · subst hj1; simp [up1, up1_self]
          simp [up1, hj0, hj1])]
    exact lp16 _ 1 (M 78 6 + (dgs (M 82) (M 78 5) 3 (M 78 6))) (by omega) ⟨rfl, hz9⟩ rfl (Nat.lt_succ_self _)
  · skip
    have h5 : (dgs ((M 82)) ((M 78) 5) 3 ((M 78) 6)) = 0 := h5
    show V z g 3 (up1 (up1 M 83 (clS R0 (M 78 9) s0 0 (nbV (M 82) (M 78 5) (M 78 6)))) 78 (up ((M 78)) 7 ((M 78) 6))) [(0, rf g 78), (1, iv 12)] [iv 0, rf g 78] 5
    have hz9 := h5
    have hn9 : 0 ≤ clS R0 (M 78 9) s0 0 (nbV (M 82) (M 78 5) (M 78 6)) (14 * M 78 9 + 1) ∧ clS R0 (M 78 9) s0 0 (nbV (M 82) (M 78 5) (M 78 6)) (14 * M 78 9 + 1) ≤ 11 := by rw [clS_1]; omega
    have hR9 : (nrd (M 82) (M 78 5) (M 78 6) 12 0) = (0, M 78 6, 0) := nrd_f (i := 0) (k := 11) hz9
    rw [show ((up1 (up1 M 83 (clS R0 (M 78 9) s0 0 (nbV (M 82) (M 78 5) (M 78 6)))) 78 (up ((M 78)) 7 ((M 78) 6))) : Mem) = (up1 (up1 M 83 (clS R0 (M 78 9) s0 0 (nbV (M 82) (M 78 5) (M 78 6)))) 78 (up (up (M 78) 6 (M 78 6)) 7 (M 78 6))) from (by rw [up_self])]
    refine v_callV (na := 1) (i := 78) (C := RX10) (T := TX10) (N := 22) (f0 := (up (up (M 78) 6 (M 78 6)) 7 (M 78 6))) ok (ct_X10_tells z.2.1 g (up1 (up1 M 83 (clS R0 (M 78 9) s0 0 (nbV (M 82) (M 78 5) (M 78 6)))) 78 (up (up (M 78) 6 (M 78 6)) 7 (M 78 6))) 0 (by show 0 ≤ (M 78 9) ∧ (M 78 9) ≤ 11; first | omega | assumption) hn9) gX10_readsNumbers_X10_tells (kd_lt (show kd 78 = 10 from rfl) (by decide)) rfl rfl (cellF_10 _ (by decide)) rfl (by decide +kernel) rfl (by decide) [] rfl (Nat.le_of_ble_eq_true rfl) dX10_readsNumbers_5 (fun v32 M33 hp31 => ?_)
    obtain ⟨rfl, rfl⟩ := hp31
    show V z g 3 (up1 (up1 (up1 M 83 (clS R0 (M 78 9) s0 0 (nbV (M 82) (M 78 5) (M 78 6)))) 78 (up (up (M 78) 6 (M 78 6)) 7 (M 78 6))) 83 (up (up ((clS R0 (M 78 9) s0 0 (nbV (M 82) (M 78 5) (M 78 6)))) (14 * (M 78 9) + 2 + (clS R0 (M 78 9) s0 0 (nbV (M 82) (M 78 5) (M 78 6))) (14 * (M 78 9) + 1)) 0) (14 * (M 78 9) + 1) ((clS R0 (M 78 9) s0 0 (nbV (M 82) (M 78 5) (M 78 6))) (14 * (M 78 9) + 1) + 1))) [(0, rf g 78), (1, iv 12)] [] 8
    rw [show ((up1 (up1 (up1 M 83 (clS R0 (M 78 9) s0 0 (nbV (M 82) (M 78 5) (M 78 6)))) 78 (up (up (M 78) 6 (M 78 6)) 7 (M 78 6))) 83 (up (up ((clS R0 (M 78 9) s0 0 (nbV (M 82) (M 78 5) (M 78 6)))) (14 * (M 78 9) + 2 + (clS R0 (M 78 9) s0 0 (nbV (M 82) (M 78 5) (M 78 6))) (14 * (M 78 9) + 1)) 0) (14 * (M 78 9) + 1) ((clS R0 (M 78 9) s0 0 (nbV (M 82) (M 78 5) (M 78 6))) (14 * (M 78 9) + 1) + 1))) : Mem) = (up1 (up1 M 83 (up (up ((clS R0 (M 78 9) s0 0 (nbV (M 82) (M 78 5) (M 78 6)))) (14 * (M 78 9) + 2 + (clS R0 (M 78 9) s0 0 (nbV (M 82) (M 78 5) (M 78 6))) (14 * (M 78 9) + 1)) 0) (14 * (M 78 9) + 1) ((clS R0 (M 78 9) s0 0 (nbV (M 82) (M 78 5) (M 78 6))) (14 * (M 78 9) + 1) + 1))) 78 (up (up (M 78) 6 (M 78 6)) 7 (M 78 6))) from (by
          funext j
          by_cases hj0 : j = 83
          · subst hj0; simp [up1, up1_self]
          by_cases hj1 : j = 78
          · subst hj1; simp [up1, up1_self]
          simp [up1, hj0, hj1])]
    rw [show ((up1 (up1 M 83 (up (up ((clS R0 (M 78 9) s0 0 (nbV (M 82) (M 78 5) (M 78 6)))) (14 * (M 78 9) + 2 + (clS R0 (M 78 9) s0 0 (nbV (M 82) (M 78 5) (M 78 6))) (14 * (M 78 9) + 1)) 0) (14 * (M 78 9) + 1) ((clS R0 (M 78 9) s0 0 (nbV (M 82) (M 78 5) (M 78 6))) (14 * (M 78 9) + 1) + 1))) 78 (up (up (M 78) 6 (M 78 6)) 7 (M 78 6))) : Mem) = (up1 (up1 M 83 (clS R0 (M 78 9) s0 1 (up (nbV (M 82) (M 78 5) (M 78 6)) 0 0))) 78 (up (up (M 78) 6 (M 78 6)) 7 (M 78 6))) from (by rw [clS_tl _ _ _ _ _ _ (by decide)]; rfl)]
    refine v_bipush (n := 14) ok rfl dX10_readsNumbers_8 ?_
    refine v_aload_n ok 0 dX10_readsNumbers_10 rfl rfl ?_
    refine v_get (T := TX10) (N := 22) (f0 := (up (up (M 78) 6 (M 78 6)) 7 (M 78 6))) (v := iv (M 78 9)) ok mi_X10_readsNumbers_10 (kd_lt (show kd 78 = 10 from rfl) (by decide)) rfl rfl (cellF_10 _ (by decide)) 9 (by decide) mk_X10_readsNumbers_119 rfl rfl dX10_readsNumbers_11 ?_
    refine v_imul ok dX10_readsNumbers_14 ?_
    refine v_istore_n ok [(2, iv (14 * (M 78 9))), (0, rf g 78), (1, iv 12)] dX10_readsNumbers_15 rfl (by decide) rfl ?_
    refine v_aload_n ok 1 dX10_readsNumbers_16 rfl rfl ?_
    refine v_callV (na := 0) (i := 78) (C := RX10) (T := TX10) (N := 22) (f0 := (up (up (M 78) 6 (M 78 6)) 7 (M 78 6))) ok (ct_X10_here z.2.1 g (up1 (up1 M 83 (clS R0 (M 78 9) s0 1 (up (nbV (M 82) (M 78 5) (M 78 6)) 0 0))) 78 (up (up (M 78) 6 (M 78 6)) 7 (M 78 6)))  (by show 0 ≤ (M 78 5) ∧ (M 78 5) ≤ 100; first | omega | assumption) (by show 0 ≤ (M 78 6) ∧ (M 78 6) ≤ 100; first | omega | assumption) (by show -1 ≤ (M 78 6) ∧ (M 78 6) ≤ 1000; first | omega | assumption) (by show bdf ((M 82)) 100 0 127; first | omega | assumption)) gX10_readsNumbers_X10_here (kd_lt (show kd 78 = 10 from rfl) (by decide)) rfl rfl (cellF_10 _ (by decide)) rfl (by decide +kernel) rfl (by decide) [] rfl (Nat.le_of_ble_eq_true rfl) dX10_readsNumbers_17 (fun v35 M36 hp34 => ?_)
    obtain ⟨rfl, rfl, h37⟩ := hp34
    have h37 : -1 ≤ (hrW ((M 78 6)) ((M 78 6)) ((M 82)) ((M 78 5))) ∧ (hrW ((M 78 6)) ((M 78 6)) ((M 82)) ((M 78 5))) ≤ 127 := h37
    show V z g 3 (up1 (up1 M 83 (clS R0 (M 78 9) s0 1 (up (nbV (M 82) (M 78 5) (M 78 6)) 0 0))) 78 (up (up (M 78) 6 (M 78 6)) 7 (M 78 6))) [(2, iv (14 * (M 78 9))), (0, rf g 78), (1, iv 12)] [iv (hrW ((M 78 6)) ((M 78 6)) ((M 82)) ((M 78 5)))] 20
    rw [show ((hrW ((M 78 6)) ((M 78 6)) ((M 82)) ((M 78 5))) : Int) = (-1) from (by unfold hrW; rw [if_neg (by omega)])]
    refine v_bipush (n := 44) ok rfl dX10_readsNumbers_20 ?_
    refine v_icmp_ne (tgt := 58) ok (by decide) (by decide) dX10_readsNumbers_22 (by decide) (fun c38 => ?_) (fun c38 => absurd c38 (by decide))
    rw [show ((up1 (up1 M 83 (clS R0 (M 78 9) s0 1 (up (nbV (M 82) (M 78 5) (M 78 6)) 0 0))) 78 (up (up (M 78) 6 (M 78 6)) 7 (M 78 6))) : Mem) = (up1 (up1 M 83 (clS R0 (M 78 9) s0 1 (up (nbV (M 82) (M 78 5) (M 78 6)) 0 0))) 78 (up (up (M 78) 6 (nrd (M 82) (M 78 5) (M 78 6) 12 0).2.1) 7 (nrd (M 82) (M 78 5) (M 78 6) 12 0).2.1)) from (by rw [hR9])]
    exact v_vret ok rt dX10_readsNumbers_58 (Or.inr (⟨(clS R0 (M 78 9) s0 1 (up (nbV (M 82) (M 78 5) (M 78 6)) 0 0)), rfl, rfl, (by rw [hR9])⟩))
