theorem mk_X10_here_98 : Cond.fieldLink RX10 98 "StormRunoffModel" "fault" "I" ∈ wsX10_here := by decide +kernel
theorem mi_X10_here_10 : ∀ w ∈ wsX100, w ∈ wsX10_here := by decide +kernel
theorem mk_X10_here_101 : Cond.fieldLink RX10 101 "StormRunoffModel" "at" "I" ∈ wsX10_here := by decide +kernel
theorem mk_X10_here_94 : Cond.fieldLink RX10 94 "StormRunoffModel" "length" "I" ∈ wsX10_here := by decide +kernel
theorem mk_X10_here_21 : Cond.fieldLink RX10 21 "StormRunoffModel" "text" "[I" ∈ wsX10_here := by decide +kernel
set_option maxRecDepth 100000 in
set_option maxHeartbeats 400000 in
theorem ct_X10_here (l : Launch) (g : Gl) (M : Mem)  (hL : 0 ≤ M 78 5 ∧ M 78 5 ≤ 100) (hp : 0 ≤ M 78 6 ∧ M 78 6 ≤ 100) (hf : -1 ≤ M 78 7 ∧ M 78 7 ≤ 1000) (hG : bdf (M 82) 100 0 127) : Ct l g yX10_here wsX10_here 0 0 [rf g 78] M (fun rv M' => rv = some (iv (hrW (M 78 7) (M 78 6) (M 82) (M 78 5))) ∧ M' = M ∧ (-1 ≤ (hrW (M 78 7) (M 78 6) (M 82) (M 78 5)) ∧ (hrW (M 78 7) (M 78 6) (M 82) (M 78 5)) ≤ 127)) := by
  refine Ct.of (cc := cX10_here) (nL := 1) (ret := (some .int)) (by decide) rfl (Nat.le_of_ble_eq_true rfl) (fun z hz ok rt => ?_)
  have ok : Ok z g cX10_here 1 RX10 wsX10_here 0 0 := ok
  show V z g 1 M [(0, rf g 78)] [] 0
  refine v_aload_n ok 0 dX10_here_0 rfl rfl ?_
  refine v_get (T := TX10) (N := 22) (f0 := (M 78)) (v := iv (M 78 7)) ok mi_X10_here_10 (kd_lt (show kd 78 = 10 from rfl) (by decide)) rfl rfl (cellF_10 _ (by decide)) 7 (by decide) mk_X10_here_98 rfl rfl dX10_here_1 ?_
  refine v_if_ge (tgt := 30) ok ⟨by omega, by omega⟩ dX10_here_4 (by decide) (fun c1 => ?_) (fun c1 => ?_)
  · skip
    refine v_iconst (n := -1) ok dX10_here_30 ?_
    exact v_iret ok rt dX10_here_31 (⟨(congrArg (fun q : Int => some (iv q)) (show (-1) = (hrW (M 78 7) (M 78 6) (M 82) (M 78 5)) from by first | (unfold hrW sgn; rw [if_pos (by omega), if_pos (by omega)]) | (unfold hrW sgn; rw [if_pos (by omega), if_neg (by omega)]) | (unfold hrW; rw [if_neg (by omega)]))), rfl, (by unfold hrW; first | (unfold sgn; rw [if_pos (by omega), if_pos (by omega)]; omega) | (unfold sgn; rw [if_pos (by omega), if_neg (by omega)]; omega) | (rw [if_neg (by omega)]; omega))⟩)
  · skip
    refine v_aload_n ok 0 dX10_here_7 rfl rfl ?_
    refine v_get (T := TX10) (N := 22) (f0 := (M 78)) (v := iv (M 78 6)) ok mi_X10_here_10 (kd_lt (show kd 78 = 10 from rfl) (by decide)) rfl rfl (cellF_10 _ (by decide)) 6 (by decide) mk_X10_here_101 rfl rfl dX10_here_8 ?_
    refine v_aload_n ok 0 dX10_here_11 rfl rfl ?_
    refine v_get (T := TX10) (N := 22) (f0 := (M 78)) (v := iv (M 78 5)) ok mi_X10_here_10 (kd_lt (show kd 78 = 10 from rfl) (by decide)) rfl rfl (cellF_10 _ (by decide)) 5 (by decide) mk_X10_here_94 rfl rfl dX10_here_12 ?_
    refine v_icmp_ge (tgt := 30) ok ⟨by omega, by omega⟩ ⟨by omega, by omega⟩ dX10_here_15 (by decide) (fun c2 => ?_) (fun c2 => ?_)
    · skip
      refine v_iconst (n := -1) ok dX10_here_30 ?_
      exact v_iret ok rt dX10_here_31 (⟨(congrArg (fun q : Int => some (iv q)) (show (-1) = (hrW (M 78 7) (M 78 6) (M 82) (M 78 5)) from by first | (unfold hrW sgn; rw [if_pos (by omega), if_pos (by omega)]) | (unfold hrW sgn; rw [if_pos (by omega), if_neg (by omega)]) | (unfold hrW; rw [if_neg (by omega)]))), rfl, (by unfold hrW; first | (unfold sgn; rw [if_pos (by omega), if_pos (by omega)]; omega) | (unfold sgn; rw [if_pos (by omega), if_neg (by omega)]; omega) | (rw [if_neg (by omega)]; omega))⟩)
    · skip
      refine v_aload_n ok 0 dX10_here_18 rfl rfl ?_
      refine v_get (T := TX10) (N := 22) (f0 := (M 78)) (v := rf g 82) ok mi_X10_here_10 (kd_lt (show kd 78 = 10 from rfl) (by decide)) rfl rfl (cellF_10 _ (by decide)) 4 (by decide) mk_X10_here_21 rfl rfl dX10_here_19 ?_
      refine v_aload_n ok 0 dX10_here_22 rfl rfl ?_
      refine v_get (T := TX10) (N := 22) (f0 := (M 78)) (v := iv (M 78 6)) ok mi_X10_here_10 (kd_lt (show kd 78 = 10 from rfl) (by decide)) rfl rfl (cellF_10 _ (by decide)) 6 (by decide) mk_X10_here_101 rfl rfl dX10_here_23 ?_
      refine v_iald (n := 100) (f0 := (M 82)) ok (by decide) rfl (by omega) rfl dX10_here_26 ?_
      have b3 := hG (M 78 6) (by omega) (by omega)
      refine v_goto (tgt := 31) ok dX10_here_27 (by decide) ?_
      exact v_iret ok rt dX10_here_31 (⟨(congrArg (fun q : Int => some (iv q)) (show (M 82 (M 78 6)) = (hrW (M 78 7) (M 78 6) (M 82) (M 78 5)) from by first | (unfold hrW sgn; rw [if_pos (by omega), if_pos (by omega)]) | (unfold hrW sgn; rw [if_pos (by omega), if_neg (by omega)]) | (unfold hrW; rw [if_neg (by omega)]))), rfl, (by unfold hrW; first | (unfold sgn; rw [if_pos (by omega), if_pos (by omega)]; omega) | (unfold sgn; rw [if_pos (by omega), if_neg (by omega)]; omega) | (rw [if_neg (by omega)]; omega))⟩)

theorem mk_X10_isDigit_108 : Cond.constantLong RX10 108 (48) ∈ wsX10_isDigit := by decide +kernel
theorem mk_X10_isDigit_110 : Cond.constantLong RX10 110 (57) ∈ wsX10_isDigit := by decide +kernel
set_option maxRecDepth 100000 in
set_option maxHeartbeats 400000 in
theorem ct_X10_isDigit (l : Launch) (g : Gl) (M : Mem)  (hL : 0 ≤ M 78 5 ∧ M 78 5 ≤ 100) (hp : 0 ≤ M 78 6 ∧ M 78 6 ≤ 100) (hf : -1 ≤ M 78 7 ∧ M 78 7 ≤ 1000) (hG : bdf (M 82) 100 0 127) : Ct l g yX10_isDigit wsX10_isDigit 1 25 [rf g 78] M (fun rv M' => (rv = some (iv 1) ∧ M' = M ∧ (M 78 7 < 0 ∧ dig (M 82) (M 78 5) (M 78 6))) ∨ (rv = some (iv 0) ∧ M' = M ∧ (¬ (M 78 7 < 0 ∧ dig (M 82) (M 78 5) (M 78 6))))) := by
  refine Ct.of (cc := cX10_isDigit) (nL := 1) (ret := (some .boolean)) (by decide) rfl (Nat.le_of_ble_eq_true rfl) (fun z hz ok rt => ?_)
  have ok : Ok z g cX10_isDigit 1 RX10 wsX10_isDigit 1 25 := ok
  show V z g 1 M [(0, rf g 78)] [] 0
  refine v_aload_n ok 0 dX10_isDigit_0 rfl rfl ?_
  refine v_callV (na := 0) (i := 78) (C := RX10) (T := TX10) (N := 22) (f0 := (M 78)) ok (ct_X10_here z.2.1 g M  (by first | omega | assumption) (by first | omega | assumption) (by first | omega | assumption) (by first | omega | assumption)) gX10_isDigit_X10_here (kd_lt (show kd 78 = 10 from rfl) (by decide)) rfl rfl (cellF_10 _ (by decide)) rfl (by decide +kernel) rfl (by decide) [] rfl (Nat.le_of_ble_eq_true rfl) dX10_isDigit_1 (fun v2 M3 hp1 => ?_)
  obtain ⟨rfl, eM3, h4⟩ := hp1
  subst M3
  have h4 : -1 ≤ (hrW ((M 78) 7) ((M 78) 6) ((M 82)) ((M 78) 5)) ∧ (hrW ((M 78) 7) ((M 78) 6) ((M 82)) ((M 78) 5)) ≤ 127 := h4
  show V z g 1 M [(0, rf g 78)] [iv (hrW ((M 78) 7) ((M 78) 6) ((M 82)) ((M 78) 5))] 4
  have hh9 : (M 78 7 < 0 ∧ (hrW (M 78 7) (M 78 6) (M 82) (M 78 5)) = (sgn (M 82) (M 78 5) (M 78 6))) ∨ (¬ M 78 7 < 0 ∧ (hrW (M 78 7) (M 78 6) (M 82) (M 78 5)) = -1) := by
    unfold hrW
    by_cases x9 : M 78 7 < 0
    · rw [if_pos x9]; exact Or.inl ⟨x9, rfl⟩
    · rw [if_neg x9]; exact Or.inr ⟨x9, rfl⟩
  refine v_i2l ok ⟨by omega, by omega⟩ dX10_isDigit_4 ?_
  refine v_ldc2 (n := 48) ok mk_X10_isDigit_108 rfl dX10_isDigit_5 ?_
  refine v_ldc2 (n := 57) ok mk_X10_isDigit_110 rfl dX10_isDigit_8 ?_
  refine v_callS (na := 3) ok (ct_X10_in z.2.1 g M (hrW ((M 78) 7) ((M 78) 6) ((M 82)) ((M 78) 5)) 48 57 ⟨by omega, by omega⟩ (by decide) (by decide)) gX10_isDigit_X10_in rfl (by decide +kernel) rfl (by decide) [] rfl (Nat.le_of_ble_eq_true rfl) dX10_isDigit_11 (fun v6 M7 hp5 => ?_)
  rcases hp5 with ⟨rfl, eM7, h8⟩ | ⟨rfl, eM7, h9⟩
  · skip
    subst M7
    show V z g 1 M [(0, rf g 78)] [iv 1] 14
    exact v_zret ok rt (by omega) dX10_isDigit_14 (Or.inl (⟨rfl, rfl, (by omega)⟩))
  · skip
    subst M7
    show V z g 1 M [(0, rf g 78)] [iv 0] 14
    exact v_zret ok rt (by omega) dX10_isDigit_14 (Or.inr (⟨rfl, rfl, (by omega)⟩))

theorem mk_X10_figure_101 : Cond.fieldLink RX10 101 "StormRunoffModel" "at" "I" ∈ wsX10_figure := by decide +kernel
theorem mi_X10_figure_10 : ∀ w ∈ wsX100, w ∈ wsX10_figure := by decide +kernel
theorem mk_X10_figure_21 : Cond.fieldLink RX10 21 "StormRunoffModel" "text" "[I" ∈ wsX10_figure := by decide +kernel
theorem mk_X10_figure_98 : Cond.fieldLink RX10 98 "StormRunoffModel" "fault" "I" ∈ wsX10_figure := by decide +kernel
set_option maxRecDepth 100000 in
set_option maxHeartbeats 400000 in
theorem ct_X10_figure (l : Launch) (g : Gl) (M : Mem)  (hL : 0 ≤ M 78 5 ∧ M 78 5 ≤ 100) (hp : 0 ≤ M 78 6 ∧ M 78 6 ≤ 100) (hf : -1 ≤ M 78 7 ∧ M 78 7 ≤ 1000) (hG : bdf (M 82) 100 0 127) : Ct l g yX10_figure wsX10_figure 2 45 [rf g 78] M (fun rv M' => (rv = some (iv (M 82 (M 78 6) - 48)) ∧ M' = (up1 M 78 (up (M 78) 6 (M 78 6 + 1))) ∧ (M 78 7 < 0) ∧ (dig (M 82) (M 78 5) (M 78 6))) ∨ (rv = some (iv 0) ∧ M' = (up1 M 78 (up (M 78) 7 (M 78 6))) ∧ (M 78 7 < 0) ∧ (¬ dig (M 82) (M 78 5) (M 78 6))) ∨ (rv = some (iv 0) ∧ M' = (up1 M 78 (up (M 78) 7 (M 78 7))) ∧ (¬ M 78 7 < 0))) := by
  refine Ct.of (cc := cX10_figure) (nL := 1) (ret := (some .int)) (by decide) rfl (Nat.le_of_ble_eq_true rfl) (fun z hz ok rt => ?_)
  have ok : Ok z g cX10_figure 1 RX10 wsX10_figure 2 45 := ok
  show V z g 1 M [(0, rf g 78)] [] 0
  refine v_aload_n ok 0 dX10_figure_0 rfl rfl ?_
  refine v_callV (na := 0) (i := 78) (C := RX10) (T := TX10) (N := 22) (f0 := (M 78)) ok (ct_X10_isDigit z.2.1 g M  (by first | omega | assumption) (by first | omega | assumption) (by first | omega | assumption) (by first | omega | assumption)) gX10_figure_X10_isDigit (kd_lt (show kd 78 = 10 from rfl) (by decide)) rfl rfl (cellF_10 _ (by decide)) rfl (by decide +kernel) rfl (by decide) [] rfl (Nat.le_of_ble_eq_true rfl) dX10_figure_1 (fun v2 M3 hp1 => ?_)
  rcases hp1 with ⟨rfl, eM3, h4⟩ | ⟨rfl, eM3, h5⟩
  · skip
    subst M3
    have h4 : (M 78) 7 < 0 ∧ dig ((M 82)) ((M 78) 5) ((M 78) 6) := h4
    show V z g 1 M [(0, rf g 78)] [iv 1] 4
    have hl9 := sgn_lt (T := M 82) (L := M 78 5) (p := M 78 6) (by omega)
    refine v_if_ne (tgt := 31) ok (by decide) dX10_figure_4 (by decide) (fun c6 => ?_) (fun c6 => absurd c6 (by decide))
    refine v_aload_n ok 0 dX10_figure_31 rfl rfl ?_
    refine v_dup ok rfl dX10_figure_32 ?_
    refine v_get (T := TX10) (N := 22) (f0 := (M 78)) (v := iv (M 78 6)) ok mi_X10_figure_10 (kd_lt (show kd 78 = 10 from rfl) (by decide)) rfl rfl (cellF_10 _ (by decide)) 6 (by decide) mk_X10_figure_101 rfl rfl dX10_figure_33 ?_
    refine v_iconst (n := 1) ok dX10_figure_36 ?_
    refine v_iadd ok dX10_figure_37 ?_
    refine v_put (T := TX10) (N := 22) (f0 := (M 78)) (f' := up (M 78) 6 ((M 78 6) + 1)) (ty := .int) ok mi_X10_figure_10 (kd_lt (show kd 78 = 10 from rfl) (by decide)) rfl rfl (cellF_10 _ (by decide)) tyX10 tyX10_ok nmX10 6 (by decide) mk_X10_figure_101 rfl rfl (by decide +kernel) rfl rfl (Nat.le_of_ble_eq_true rfl) ((cellF_10 _ (by decide)).trans rfl) dX10_figure_38 ?_
    refine v_aload_n ok 0 dX10_figure_41 rfl rfl ?_
    refine v_get (T := TX10) (N := 22) (f0 := up (M 78) 6 ((M 78 6) + 1)) (v := rf g 82) ok mi_X10_figure_10 (kd_lt (show kd 78 = 10 from rfl) (by decide)) rfl rfl (cellF_10 _ (by decide)) 4 (by decide) mk_X10_figure_21 rfl rfl dX10_figure_42 ?_
    refine v_aload_n ok 0 dX10_figure_45 rfl rfl ?_
    refine v_get (T := TX10) (N := 22) (f0 := up (M 78) 6 ((M 78 6) + 1)) (v := iv ((M 78 6) + 1)) ok mi_X10_figure_10 (kd_lt (show kd 78 = 10 from rfl) (by decide)) rfl rfl (cellF_10 _ (by decide)) 6 (by decide) mk_X10_figure_101 rfl rfl dX10_figure_46 ?_
    refine v_iconst (n := 1) ok dX10_figure_49 ?_
    refine v_isub ok dX10_figure_50 ?_
    refine v_iald (n := 100) (f0 := (M 82)) ok (by decide) rfl (by omega) rfl dX10_figure_51 ?_
    rw [show ((M 82 (((M 78 6) + 1) - 1)) : Int) = (M 82 (M 78 6)) from (by rw [show M 78 6 + 1 - 1 = M 78 6 by omega])]
    refine v_bipush (n := 48) ok rfl dX10_figure_52 ?_
    refine v_isub ok dX10_figure_54 ?_
    exact v_iret ok rt dX10_figure_55 (Or.inl (⟨(congrArg (fun q : Int => some (iv q)) (show ((M 82 (M 78 6)) - 48) = (M 82 (M 78 6) - 48) from by rfl)), rfl, (by omega), (by omega)⟩))
  · skip
    subst M3
    have h5 : ¬ ((M 78) 7 < 0 ∧ dig ((M 82)) ((M 78) 5) ((M 78) 6)) := h5
    show V z g 1 M [(0, rf g 78)] [iv 0] 4
    refine v_if_ne (tgt := 31) ok (by decide) dX10_figure_4 (by decide) (fun c7 => absurd c7 (by decide)) (fun c7 => ?_)
    refine v_aload_n ok 0 dX10_figure_7 rfl rfl ?_
    refine v_aload_n ok 0 dX10_figure_8 rfl rfl ?_
    refine v_get (T := TX10) (N := 22) (f0 := (M 78)) (v := iv (M 78 7)) ok mi_X10_figure_10 (kd_lt (show kd 78 = 10 from rfl) (by decide)) rfl rfl (cellF_10 _ (by decide)) 7 (by decide) mk_X10_figure_98 rfl rfl dX10_figure_9 ?_
    refine v_if_ge (tgt := 22) ok ⟨by omega, by omega⟩ dX10_figure_12 (by decide) (fun c8 => ?_) (fun c8 => ?_)
    · skip
      refine v_aload_n ok 0 dX10_figure_22 rfl rfl ?_
      refine v_get (T := TX10) (N := 22) (f0 := (M 78)) (v := iv (M 78 7)) ok mi_X10_figure_10 (kd_lt (show kd 78 = 10 from rfl) (by decide)) rfl rfl (cellF_10 _ (by decide)) 7 (by decide) mk_X10_figure_98 rfl rfl dX10_figure_23 ?_
      refine v_put (T := TX10) (N := 22) (f0 := (M 78)) (f' := up (M 78) 7 (M 78 7)) (ty := .int) ok mi_X10_figure_10 (kd_lt (show kd 78 = 10 from rfl) (by decide)) rfl rfl (cellF_10 _ (by decide)) tyX10 tyX10_ok nmX10 7 (by decide) mk_X10_figure_98 rfl rfl (by decide +kernel) rfl rfl (Nat.le_of_ble_eq_true rfl) ((cellF_10 _ (by decide)).trans rfl) dX10_figure_26 ?_
      refine v_iconst (n := 0) ok dX10_figure_29 ?_
      exact v_iret ok rt dX10_figure_30 (Or.inr (Or.inr (⟨rfl, rfl, (by omega)⟩)))
    · skip
      refine v_aload_n ok 0 dX10_figure_15 rfl rfl ?_
      refine v_get (T := TX10) (N := 22) (f0 := (M 78)) (v := iv (M 78 6)) ok mi_X10_figure_10 (kd_lt (show kd 78 = 10 from rfl) (by decide)) rfl rfl (cellF_10 _ (by decide)) 6 (by decide) mk_X10_figure_101 rfl rfl dX10_figure_16 ?_
      refine v_goto (tgt := 26) ok dX10_figure_19 (by decide) ?_
      refine v_put (T := TX10) (N := 22) (f0 := (M 78)) (f' := up (M 78) 7 (M 78 6)) (ty := .int) ok mi_X10_figure_10 (kd_lt (show kd 78 = 10 from rfl) (by decide)) rfl rfl (cellF_10 _ (by decide)) tyX10 tyX10_ok nmX10 7 (by decide) mk_X10_figure_98 rfl rfl (by decide +kernel) rfl rfl (Nat.le_of_ble_eq_true rfl) ((cellF_10 _ (by decide)).trans rfl) dX10_figure_26 ?_
      refine v_iconst (n := 0) ok dX10_figure_29 ?_
      exact v_iret ok rt dX10_figure_30 (Or.inr (Or.inl (⟨rfl, rfl, (by omega), (by omega)⟩)))

set_option maxRecDepth 100000 in
set_option maxHeartbeats 400000 in
theorem ct_X10_number (l : Launch) (g : Gl) (M : Mem)  (hL : 0 ≤ M 78 5 ∧ M 78 5 ≤ 100) (hp : 0 ≤ M 78 6 ∧ M 78 6 ≤ 100) (hf : -1 ≤ M 78 7 ∧ M 78 7 ≤ 1000) (hG : bdf (M 82) 100 0 127) (hf0 : M 78 7 < 0) : Ct l g yX10_number wsX10_number 3 65 [rf g 78] M (fun rv M' => (rv = some (iv (nmv (M 82) (M 78 6) (dgs (M 82) (M 78 5) 3 (M 78 6)).toNat)) ∧ M' = (up1 M 78 (up (M 78) 6 (M 78 6 + (dgs (M 82) (M 78 5) 3 (M 78 6))))) ∧ (0 < (dgs (M 82) (M 78 5) 3 (M 78 6)))) ∨ (rv = some (iv 0) ∧ M' = (up1 M 78 (up (M 78) 7 (M 78 6))) ∧ ((dgs (M 82) (M 78 5) 3 (M 78 6)) = 0))) := by
  refine Ct.of (cc := cX10_number) (nL := 3) (ret := (some .int)) (by decide) rfl (Nat.le_of_ble_eq_true rfl) (fun z hz ok rt => ?_)
  have ok : Ok z g cX10_number 3 RX10 wsX10_number 3 65 := ok
  show V z g 3 M [(0, rf g 78)] [] 0
  refine v_aload_n ok 0 dX10_number_0 rfl rfl ?_
  refine v_callV (na := 0) (i := 78) (C := RX10) (T := TX10) (N := 22) (f0 := (M 78)) ok (ct_X10_figure z.2.1 g M  (by first | omega | assumption) (by first | omega | assumption) (by first | omega | assumption) (by first | omega | assumption)) gX10_number_X10_figure (kd_lt (show kd 78 = 10 from rfl) (by decide)) rfl rfl (cellF_10 _ (by decide)) rfl (by decide +kernel) rfl (by decide) [] rfl (Nat.le_of_ble_eq_true rfl) dX10_number_1 (fun v2 M3 hp1 => ?_)
  rcases hp1 with ⟨rfl, rfl, h4, h5⟩ | ⟨rfl, rfl, h6, h7⟩ | ⟨rfl, rfl, h8⟩
  · skip
    have h4 : (M 78) 7 < 0 := h4
    have h5 : dig ((M 82)) ((M 78) 5) ((M 78) 6) := h5
    show V z g 3 (up1 M 78 (up ((M 78)) 6 ((M 78) 6 + 1))) [(0, rf g 78)] [iv ((M 82) ((M 78) 6) - 48)] 4
    have hl21 := sgn_lt (T := M 82) (L := M 78 5) (p := (M 78 6)) (by omega)
    have hD1 : (dgs (M 82) (M 78 5) 3 (M 78 6)) = 1 + dgs (M 82) (M 78 5) 2 (M 78 6 + 1) := by rw [dg_y (k := 2) (by omega)]
    rw [show ((up1 M 78 (up ((M 78)) 6 ((M 78) 6 + 1))) : Mem) = (up1 M 78 (up (M 78) 6 (M 78 6 + 1))) from rfl]
    refine v_istore_n ok [(1, iv ((M 82) ((M 78) 6) - 48)), (0, rf g 78)] dX10_number_4 rfl (by decide) rfl ?_
    refine v_iconst (n := 0) ok dX10_number_5 ?_
    refine v_istore_n ok [(2, iv 0), (1, iv ((M 82) ((M 78) 6) - 48)), (0, rf g 78)] dX10_number_6 rfl (by decide) rfl ?_
    refine v_iload_n ok 0 dX10_number_7 rfl rfl ?_
    refine v_iconst (n := 2) ok dX10_number_8 ?_
    refine v_icmp_ge (tgt := 35) ok (by decide) (by decide) dX10_number_9 (by decide) (fun c9 => absurd c9 (by decide)) (fun c9 => ?_)
    refine v_aload_n ok 2 dX10_number_12 rfl rfl ?_
    refine v_callV (na := 0) (i := 78) (C := RX10) (T := TX10) (N := 22) (f0 := (up (M 78) 6 (M 78 6 + 1))) ok (ct_X10_isDigit z.2.1 g (up1 M 78 (up (M 78) 6 (M 78 6 + 1)))  (by show 0 ≤ (M 78 5) ∧ (M 78 5) ≤ 100; first | omega | assumption) (by show 0 ≤ (M 78 6 + 1) ∧ (M 78 6 + 1) ≤ 100; first | omega | assumption) (by show -1 ≤ (M 78 7) ∧ (M 78 7) ≤ 1000; first | omega | assumption) (by show bdf ((M 82)) 100 0 127; first | omega | assumption)) gX10_number_X10_isDigit (kd_lt (show kd 78 = 10 from rfl) (by decide)) rfl rfl (cellF_10 _ (by decide)) rfl (by decide +kernel) rfl (by decide) [] rfl (Nat.le_of_ble_eq_true rfl) dX10_number_13 (fun v11 M12 hp10 => ?_)
    rcases hp10 with ⟨rfl, rfl, h13⟩ | ⟨rfl, rfl, h14⟩
    · skip
      have h13 : (M 78 7) < 0 ∧ dig ((M 82)) ((M 78 5)) ((M 78 6 + 1)) := h13
      show V z g 3 (up1 M 78 (up (M 78) 6 (M 78 6 + 1))) [(2, iv 0), (1, iv ((M 82) ((M 78) 6) - 48)), (0, rf g 78)] [iv 1] 16
      refine v_if_eq (tgt := 35) ok (by decide) dX10_number_16 (by decide) (fun c15 => absurd c15 (by decide)) (fun c15 => ?_)
      refine v_bipush (n := 10) ok rfl dX10_number_19 ?_
      refine v_iload_n ok 1 dX10_number_21 rfl rfl ?_
      refine v_imul ok dX10_number_22 ?_
      refine v_aload_n ok 2 dX10_number_23 rfl rfl ?_
      refine v_callV (na := 0) (i := 78) (C := RX10) (T := TX10) (N := 22) (f0 := (up (M 78) 6 (M 78 6 + 1))) ok (ct_X10_figure z.2.1 g (up1 M 78 (up (M 78) 6 (M 78 6 + 1)))  (by show 0 ≤ (M 78 5) ∧ (M 78 5) ≤ 100; first | omega | assumption) (by show 0 ≤ (M 78 6 + 1) ∧ (M 78 6 + 1) ≤ 100; first | omega | assumption) (by show -1 ≤ (M 78 7) ∧ (M 78 7) ≤ 1000; first | omega | assumption) (by show bdf ((M 82)) 100 0 127; first | omega | assumption)) gX10_number_X10_figure (kd_lt (show kd 78 = 10 from rfl) (by decide)) rfl rfl (cellF_10 _ (by decide)) rfl (by decide +kernel) rfl (by decide) [iv (10 * ((M 82) ((M 78) 6) - 48))] rfl (Nat.le_of_ble_eq_true rfl) dX10_number_24 (fun v17 M18 hp16 => ?_)
      rcases hp16 with ⟨rfl, rfl, h19, h20⟩ | ⟨rfl, rfl, h21, h22⟩ | ⟨rfl, rfl, h23⟩
      · skip
        have h19 : (M 78 7) < 0 := h19
        have h20 : dig ((M 82)) ((M 78 5)) ((M 78 6 + 1)) := h20
        show V z g 3 (up1 (up1 M 78 (up (M 78) 6 (M 78 6 + 1))) 78 (up ((up (M 78) 6 (M 78 6 + 1))) 6 ((M 78 6 + 1) + 1))) [(2, iv 0), (1, iv ((M 82) ((M 78) 6) - 48)), (0, rf g 78)] [iv ((M 82) ((M 78 6 + 1)) - 48), iv (10 * ((M 82) ((M 78) 6) - 48))] 27
        rw [show ((up1 (up1 M 78 (up (M 78) 6 (M 78 6 + 1))) 78 (up ((up (M 78) 6 (M 78 6 + 1))) 6 ((M 78 6 + 1) + 1))) : Mem) = (up1 M 78 (up ((up (M 78) 6 (M 78 6 + 1))) 6 ((M 78 6 + 1) + 1))) from (by
              funext j
              by_cases hj0 : j = 78
              · subst hj0; simp [up1, up1_self]
              simp [up1, hj0])]
        have hl22 := sgn_lt (T := M 82) (L := M 78 5) (p := (M 78 6 + 1)) (by omega)
        have hD2 : (dgs (M 82) (M 78 5) 3 (M 78 6)) = 2 + dgs (M 82) (M 78 5) 1 (M 78 6 + 2) := by rw [hD1, dg_y (k := 1) (by omega), show M 78 6 + 1 + 1 = M 78 6 + 2 by omega]; omega
        rw [show ((up1 M 78 (up ((up (M 78) 6 (M 78 6 + 1))) 6 ((M 78 6 + 1) + 1))) : Mem) = (up1 M 78 (up (M 78) 6 (M 78 6 + 2))) from (by rw [up_up, show M 78 6 + 1 + 1 = M 78 6 + 2 by omega])]
        refine v_iadd ok dX10_number_27 ?_
        refine v_istore_n ok [(1, iv ((10 * ((M 82) ((M 78) 6) - 48)) + ((M 82) ((M 78 6 + 1)) - 48))), (2, iv 0), (0, rf g 78)] dX10_number_28 rfl (by decide) rfl ?_
        refine v_iinc ok 1 [(2, iv 1), (1, iv ((10 * ((M 82) ((M 78) 6) - 48)) + ((M 82) ((M 78 6 + 1)) - 48))), (0, rf g 78)] dX10_number_29 rfl (by decide) rfl ?_
        refine v_goto (tgt := 7) ok dX10_number_32 (by decide) ?_
        refine v_iload_n ok 0 dX10_number_7 rfl rfl ?_
        refine v_iconst (n := 2) ok dX10_number_8 ?_
        refine v_icmp_ge (tgt := 35) ok (by decide) (by decide) dX10_number_9 (by decide) (fun c24 => absurd c24 (by decide)) (fun c24 => ?_)
        refine v_aload_n ok 2 dX10_number_12 rfl rfl ?_
        refine v_callV (na := 0) (i := 78) (C := RX10) (T := TX10) (N := 22) (f0 := (up (M 78) 6 (M 78 6 + 2))) ok (ct_X10_isDigit z.2.1 g (up1 M 78 (up (M 78) 6 (M 78 6 + 2)))  (by show 0 ≤ (M 78 5) ∧ (M 78 5) ≤ 100; first | omega | assumption) (by show 0 ≤ (M 78 6 + 2) ∧ (M 78 6 + 2) ≤ 100; first | omega | assumption) (by show -1 ≤ (M 78 7) ∧ (M 78 7) ≤ 1000; first | omega | assumption) (by show bdf ((M 82)) 100 0 127; first | omega | assumption)) gX10_number_X10_isDigit (kd_lt (show kd 78 = 10 from rfl) (by decide)) rfl rfl (cellF_10 _ (by decide)) rfl (by decide +kernel) rfl (by decide) [] rfl (Nat.le_of_ble_eq_true rfl) dX10_number_13 (fun v26 M27 hp25 => ?_)
        rcases hp25 with ⟨rfl, rfl, h28⟩ | ⟨rfl, rfl, h29⟩
        · skip
          have h28 : (M 78 7) < 0 ∧ dig ((M 82)) ((M 78 5)) ((M 78 6 + 2)) := h28
          show V z g 3 (up1 M 78 (up (M 78) 6 (M 78 6 + 2))) [(2, iv 1), (1, iv ((10 * ((M 82) ((M 78) 6) - 48)) + ((M 82) ((M 78 6 + 1)) - 48))), (0, rf g 78)] [iv 1] 16
          refine v_if_eq (tgt := 35) ok (by decide) dX10_number_16 (by decide) (fun c30 => absurd c30 (by decide)) (fun c30 => ?_)
          refine v_bipush (n := 10) ok rfl dX10_number_19 ?_
          refine v_iload_n ok 1 dX10_number_21 rfl rfl ?_
          refine v_imul ok dX10_number_22 ?_
          refine v_aload_n ok 2 dX10_number_23 rfl rfl ?_
          refine v_callV (na := 0) (i := 78) (C := RX10) (T := TX10) (N := 22) (f0 := (up (M 78) 6 (M 78 6 + 2))) ok (ct_X10_figure z.2.1 g (up1 M 78 (up (M 78) 6 (M 78 6 + 2)))  (by show 0 ≤ (M 78 5) ∧ (M 78 5) ≤ 100; first | omega | assumption) (by show 0 ≤ (M 78 6 + 2) ∧ (M 78 6 + 2) ≤ 100; first | omega | assumption) (by show -1 ≤ (M 78 7) ∧ (M 78 7) ≤ 1000; first | omega | assumption) (by show bdf ((M 82)) 100 0 127; first | omega | assumption)) gX10_number_X10_figure (kd_lt (show kd 78 = 10 from rfl) (by decide)) rfl rfl (cellF_10 _ (by decide)) rfl (by decide +kernel) rfl (by decide) [iv (10 * ((10 * ((M 82) ((M 78) 6) - 48)) + ((M 82) ((M 78 6 + 1)) - 48)))] rfl (Nat.le_of_ble_eq_true rfl) dX10_number_24 (fun v32 M33 hp31 => ?_)
          rcases hp31 with ⟨rfl, rfl, h34, h35⟩ | ⟨rfl, rfl, h36, h37⟩ | ⟨rfl, rfl, h38⟩
          · skip
            have h34 : (M 78 7) < 0 := h34
            have h35 : dig ((M 82)) ((M 78 5)) ((M 78 6 + 2)) := h35
            show V z g 3 (up1 (up1 M 78 (up (M 78) 6 (M 78 6 + 2))) 78 (up ((up (M 78) 6 (M 78 6 + 2))) 6 ((M 78 6 + 2) + 1))) [(2, iv 1), (1, iv ((10 * ((M 82) ((M 78) 6) - 48)) + ((M 82) ((M 78 6 + 1)) - 48))), (0, rf g 78)] [iv ((M 82) ((M 78 6 + 2)) - 48), iv (10 * ((10 * ((M 82) ((M 78) 6) - 48)) + ((M 82) ((M 78 6 + 1)) - 48)))] 27
            rw [show ((up1 (up1 M 78 (up (M 78) 6 (M 78 6 + 2))) 78 (up ((up (M 78) 6 (M 78 6 + 2))) 6 ((M 78 6 + 2) + 1))) : Mem) = (up1 M 78 (up ((up (M 78) 6 (M 78 6 + 2))) 6 ((M 78 6 + 2) + 1))) from (by
                  funext j
                  by_cases hj0 : j = 78
                  · subst hj0; simp [up1, up1_self]
                  simp [up1, hj0])]
            have hl23 := sgn_lt (T := M 82) (L := M 78 5) (p := (M 78 6 + 2)) (by omega)
            have hD3 : (dgs (M 82) (M 78 5) 3 (M 78 6)) = 3 + dgs (M 82) (M 78 5) 0 (M 78 6 + 3) := by rw [hD2, dg_y (k := 0) (by omega), show M 78 6 + 2 + 1 = M 78 6 + 3 by omega]; omega
            rw [show ((up1 M 78 (up ((up (M 78) 6 (M 78 6 + 2))) 6 ((M 78 6 + 2) + 1))) : Mem) = (up1 M 78 (up (M 78) 6 (M 78 6 + 3))) from (by rw [up_up, show M 78 6 + 2 + 1 = M 78 6 + 3 by omega])]
            refine v_iadd ok dX10_number_27 ?_
            refine v_istore_n ok [(1, iv ((10 * ((10 * ((M 82) ((M 78) 6) - 48)) + ((M 82) ((M 78 6 + 1)) - 48))) + ((M 82) ((M 78 6 + 2)) - 48))), (2, iv 1), (0, rf g 78)] dX10_number_28 rfl (by decide) rfl ?_
            refine v_iinc ok 1 [(2, iv 2), (1, iv ((10 * ((10 * ((M 82) ((M 78) 6) - 48)) + ((M 82) ((M 78 6 + 1)) - 48))) + ((M 82) ((M 78 6 + 2)) - 48))), (0, rf g 78)] dX10_number_29 rfl (by decide) rfl ?_
            refine v_goto (tgt := 7) ok dX10_number_32 (by decide) ?_
            refine v_iload_n ok 0 dX10_number_7 rfl rfl ?_
            refine v_iconst (n := 2) ok dX10_number_8 ?_
            refine v_icmp_ge (tgt := 35) ok (by decide) (by decide) dX10_number_9 (by decide) (fun c39 => ?_) (fun c39 => absurd c39 (by decide))
            have hD9 : (dgs (M 82) (M 78 5) 3 (M 78 6)) = 3 := by rw [hD3]; rfl
            rw [show ((up1 M 78 (up (M 78) 6 (M 78 6 + 3))) : Mem) = (up1 M 78 (up (M 78) 6 (M 78 6 + (dgs (M 82) (M 78 5) 3 (M 78 6))))) from (by rw [hD9])]
            refine v_iload_n ok 1 dX10_number_35 rfl rfl ?_
            exact v_iret ok rt dX10_number_36 (Or.inl (⟨(congrArg (fun q : Int => some (iv q)) (show ((10 * ((10 * ((M 82) ((M 78) 6) - 48)) + ((M 82) ((M 78 6 + 1)) - 48))) + ((M 82) ((M 78 6 + 2)) - 48)) = (nmv (M 82) (M 78 6) (dgs (M 82) (M 78 5) 3 (M 78 6)).toNat) from by (rw [hD9]; first | rw [nmv_1] | rw [nmv_2] | (rw [nmv_3, show M 78 6 + 1 + 1 = M 78 6 + 2 by omega])))), rfl, (by omega)⟩))
          · skip
            have h36 : (M 78 7) < 0 := h36
            have h37 : ¬ dig ((M 82)) ((M 78 5)) ((M 78 6 + 2)) := h37
            show V z g 3 (up1 (up1 M 78 (up (M 78) 6 (M 78 6 + 2))) 78 (up ((up (M 78) 6 (M 78 6 + 2))) 7 ((M 78 6 + 2)))) [(2, iv 1), (1, iv ((10 * ((M 82) ((M 78) 6) - 48)) + ((M 82) ((M 78 6 + 1)) - 48))), (0, rf g 78)] [iv 0, iv (10 * ((10 * ((M 82) ((M 78) 6) - 48)) + ((M 82) ((M 78 6 + 1)) - 48)))] 27
            rw [show ((up1 (up1 M 78 (up (M 78) 6 (M 78 6 + 2))) 78 (up ((up (M 78) 6 (M 78 6 + 2))) 7 ((M 78 6 + 2)))) : Mem) = (up1 M 78 (up ((up (M 78) 6 (M 78 6 + 2))) 7 ((M 78 6 + 2)))) from (by
                  funext j
                  by_cases hj0 : j = 78
                  · subst hj0; simp [up1, up1_self]
                  simp [up1, hj0])]
            exfalso; omega
          · skip
            have h38 : ¬ (M 78 7) < 0 := h38
            show V z g 3 (up1 (up1 M 78 (up (M 78) 6 (M 78 6 + 2))) 78 (up ((up (M 78) 6 (M 78 6 + 2))) 7 ((M 78 7)))) [(2, iv 1), (1, iv ((10 * ((M 82) ((M 78) 6) - 48)) + ((M 82) ((M 78 6 + 1)) - 48))), (0, rf g 78)] [iv 0, iv (10 * ((10 * ((M 82) ((M 78) 6) - 48)) + ((M 82) ((M 78 6 + 1)) - 48)))] 27
            rw [show ((up1 (up1 M 78 (up (M 78) 6 (M 78 6 + 2))) 78 (up ((up (M 78) 6 (M 78 6 + 2))) 7 ((M 78 7)))) : Mem) = (up1 M 78 (up ((up (M 78) 6 (M 78 6 + 2))) 7 ((M 78 7)))) from (by
                  funext j
                  by_cases hj0 : j = 78
                  · subst hj0; simp [up1, up1_self]
                  simp [up1, hj0])]
            exfalso; omega
        · skip
          have h29 : ¬ ((M 78 7) < 0 ∧ dig ((M 82)) ((M 78 5)) ((M 78 6 + 2))) := h29
          show V z g 3 (up1 M 78 (up (M 78) 6 (M 78 6 + 2))) [(2, iv 1), (1, iv ((10 * ((M 82) ((M 78) 6) - 48)) + ((M 82) ((M 78 6 + 1)) - 48))), (0, rf g 78)] [iv 0] 16
          refine v_if_eq (tgt := 35) ok (by decide) dX10_number_16 (by decide) (fun c40 => ?_) (fun c40 => absurd c40 (by decide))
          have hD9 : (dgs (M 82) (M 78 5) 3 (M 78 6)) = 2 := by rw [hD2, dg_n (by omega)]; rfl
          rw [show ((up1 M 78 (up (M 78) 6 (M 78 6 + 2))) : Mem) = (up1 M 78 (up (M 78) 6 (M 78 6 + (dgs (M 82) (M 78 5) 3 (M 78 6))))) from (by rw [hD9])]
          refine v_iload_n ok 1 dX10_number_35 rfl rfl ?_
          exact v_iret ok rt dX10_number_36 (Or.inl (⟨(congrArg (fun q : Int => some (iv q)) (show ((10 * ((M 82) ((M 78) 6) - 48)) + ((M 82) ((M 78 6 + 1)) - 48)) = (nmv (M 82) (M 78 6) (dgs (M 82) (M 78 5) 3 (M 78 6)).toNat) from by (rw [hD9]; first | rw [nmv_1] | rw [nmv_2] | (rw [nmv_3, show M 78 6 + 1 + 1 = M 78 6 + 2 by omega])))), rfl, (by omega)⟩))
      · skip
        have h21 : (M 78 7) < 0 := h21
        have h22 : ¬ dig ((M 82)) ((M 78 5)) ((M 78 6 + 1)) := h22
        show V z g 3 (up1 (up1 M 78 (up (M 78) 6 (M 78 6 + 1))) 78 (up ((up (M 78) 6 (M 78 6 + 1))) 7 ((M 78 6 + 1)))) [(2, iv 0), (1, iv ((M 82) ((M 78) 6) - 48)), (0, rf g 78)] [iv 0, iv (10 * ((M 82) ((M 78) 6) - 48))] 27
        rw [show ((up1 (up1 M 78 (up (M 78) 6 (M 78 6 + 1))) 78 (up ((up (M 78) 6 (M 78 6 + 1))) 7 ((M 78 6 + 1)))) : Mem) = (up1 M 78 (up ((up (M 78) 6 (M 78 6 + 1))) 7 ((M 78 6 + 1)))) from (by
              funext j
              by_cases hj0 : j = 78
              · subst hj0; simp [up1, up1_self]
              simp [up1, hj0])]
        exfalso; omega
      · skip
        have h23 : ¬ (M 78 7) < 0 := h23
        show V z g 3 (up1 (up1 M 78 (up (M 78) 6 (M 78 6 + 1))) 78 (up ((up (M 78) 6 (M 78 6 + 1))) 7 ((M 78 7)))) [(2, iv 0), (1, iv ((M 82) ((M 78) 6) - 48)), (0, rf g 78)] [iv 0, iv (10 * ((M 82) ((M 78) 6) - 48))] 27
        rw [show ((up1 (up1 M 78 (up (M 78) 6 (M 78 6 + 1))) 78 (up ((up (M 78) 6 (M 78 6 + 1))) 7 ((M 78 7)))) : Mem) = (up1 M 78 (up ((up (M 78) 6 (M 78 6 + 1))) 7 ((M 78 7)))) from (by
              funext j
              by_cases hj0 : j = 78
              · subst hj0; simp [up1, up1_self]
              simp [up1, hj0])]
        exfalso; omega
    · skip
      have h14 : ¬ ((M 78 7) < 0 ∧ dig ((M 82)) ((M 78 5)) ((M 78 6 + 1))) := h14
      show V z g 3 (up1 M 78 (up (M 78) 6 (M 78 6 + 1))) [(2, iv 0), (1, iv ((M 82) ((M 78) 6) - 48)), (0, rf g 78)] [iv 0] 16
      refine v_if_eq (tgt := 35) ok (by decide) dX10_number_16 (by decide) (fun c41 => ?_) (fun c41 => absurd c41 (by decide))
      have hD9 : (dgs (M 82) (M 78 5) 3 (M 78 6)) = 1 := by rw [hD1, dg_n (by omega)]; rfl
      rw [show ((up1 M 78 (up (M 78) 6 (M 78 6 + 1))) : Mem) = (up1 M 78 (up (M 78) 6 (M 78 6 + (dgs (M 82) (M 78 5) 3 (M 78 6))))) from (by rw [hD9])]
      refine v_iload_n ok 1 dX10_number_35 rfl rfl ?_
      exact v_iret ok rt dX10_number_36 (Or.inl (⟨(congrArg (fun q : Int => some (iv q)) (show ((M 82) ((M 78) 6) - 48) = (nmv (M 82) (M 78 6) (dgs (M 82) (M 78 5) 3 (M 78 6)).toNat) from by (rw [hD9]; first | rw [nmv_1] | rw [nmv_2] | (rw [nmv_3, show M 78 6 + 1 + 1 = M 78 6 + 2 by omega])))), rfl, (by omega)⟩))
  · skip
    have h6 : (M 78) 7 < 0 := h6
    have h7 : ¬ dig ((M 82)) ((M 78) 5) ((M 78) 6) := h7
    show V z g 3 (up1 M 78 (up ((M 78)) 7 ((M 78) 6))) [(0, rf g 78)] [iv 0] 4
    have hDf : (dgs (M 82) (M 78 5) 3 (M 78 6)) = 0 := by rw [dg_n (by omega)]
    refine v_istore_n ok [(1, iv 0), (0, rf g 78)] dX10_number_4 rfl (by decide) rfl ?_
    refine v_iconst (n := 0) ok dX10_number_5 ?_
    refine v_istore_n ok [(2, iv 0), (1, iv 0), (0, rf g 78)] dX10_number_6 rfl (by decide) rfl ?_
    refine v_iload_n ok 0 dX10_number_7 rfl rfl ?_
    refine v_iconst (n := 2) ok dX10_number_8 ?_
    refine v_icmp_ge (tgt := 35) ok (by decide) (by decide) dX10_number_9 (by decide) (fun c42 => absurd c42 (by decide)) (fun c42 => ?_)
    refine v_aload_n ok 2 dX10_number_12 rfl rfl ?_
    refine v_callV (na := 0) (i := 78) (C := RX10) (T := TX10) (N := 22) (f0 := (up ((M 78)) 7 ((M 78) 6))) ok (ct_X10_isDigit z.2.1 g (up1 M 78 (up ((M 78)) 7 ((M 78) 6)))  (by show 0 ≤ ((M 78) 5) ∧ ((M 78) 5) ≤ 100; first | omega | assumption) (by show 0 ≤ ((M 78) 6) ∧ ((M 78) 6) ≤ 100; first | omega | assumption) (by show -1 ≤ ((M 78) 6) ∧ ((M 78) 6) ≤ 1000; first | omega | assumption) (by show bdf ((M 82)) 100 0 127; first | omega | assumption)) gX10_number_X10_isDigit (kd_lt (show kd 78 = 10 from rfl) (by decide)) rfl rfl (cellF_10 _ (by decide)) rfl (by decide +kernel) rfl (by decide) [] rfl (Nat.le_of_ble_eq_true rfl) dX10_number_13 (fun v44 M45 hp43 => ?_)
    rcases hp43 with ⟨rfl, rfl, h46⟩ | ⟨rfl, rfl, h47⟩
    · skip
      have h46 : ((M 78) 6) < 0 ∧ dig ((M 82)) (((M 78) 5)) (((M 78) 6)) := h46
      show V z g 3 (up1 M 78 (up ((M 78)) 7 ((M 78) 6))) [(2, iv 0), (1, iv 0), (0, rf g 78)] [iv 1] 16
      exfalso; omega
    · skip
      have h47 : ¬ (((M 78) 6) < 0 ∧ dig ((M 82)) (((M 78) 5)) (((M 78) 6))) := h47
      show V z g 3 (up1 M 78 (up ((M 78)) 7 ((M 78) 6))) [(2, iv 0), (1, iv 0), (0, rf g 78)] [iv 0] 16
      refine v_if_eq (tgt := 35) ok (by decide) dX10_number_16 (by decide) (fun c48 => ?_) (fun c48 => absurd c48 (by decide))
      refine v_iload_n ok 1 dX10_number_35 rfl rfl ?_
      exact v_iret ok rt dX10_number_36 (Or.inr (⟨rfl, rfl, (by omega)⟩))
  · skip
    have h8 : ¬ (M 78) 7 < 0 := h8
    show V z g 3 (up1 M 78 (up ((M 78)) 7 ((M 78) 7))) [(0, rf g 78)] [iv 0] 4
    exfalso; omega

theorem mk_X10_tells_119 : Cond.fieldLink RX10 119 "StormRunoffModel" "readMany" "I" ∈ wsX10_tells := by decide +kernel
theorem mi_X10_tells_10 : ∀ w ∈ wsX100, w ∈ wsX10_tells := by decide +kernel
theorem mk_X10_tells_24 : Cond.fieldLink RX10 24 "StormRunoffModel" "read" "[I" ∈ wsX10_tells := by decide +kernel
set_option maxRecDepth 100000 in
set_option maxHeartbeats 400000 in
theorem ct_X10_tells (l : Launch) (g : Gl) (M : Mem) (v : Int) (hm : 0 ≤ M 78 9 ∧ M 78 9 ≤ 11) (hn : 0 ≤ M 83 (14 * M 78 9 + 1) ∧ M 83 (14 * M 78 9 + 1) ≤ 11) : Ct l g yX10_tells wsX10_tells 0 0 [rf g 78, iv v] M (fun rv M' => rv = none ∧ M' = (up1 M 83 (up (up (M 83) (14 * M 78 9 + 2 + M 83 (14 * M 78 9 + 1)) v) (14 * M 78 9 + 1) (M 83 (14 * M 78 9 + 1) + 1)))) := by
  refine Ct.of (cc := cX10_tells) (nL := 3) (ret := none) (by decide) rfl (Nat.le_of_ble_eq_true rfl) (fun z hz ok rt => ?_)
  have ok : Ok z g cX10_tells 3 RX10 wsX10_tells 0 0 := ok
  show V z g 3 M [(0, rf g 78), (1, iv v)] [] 0
  refine v_bipush (n := 14) ok rfl dX10_tells_0 ?_
  refine v_aload_n ok 0 dX10_tells_2 rfl rfl ?_
  refine v_get (T := TX10) (N := 22) (f0 := (M 78)) (v := iv (M 78 9)) ok mi_X10_tells_10 (kd_lt (show kd 78 = 10 from rfl) (by decide)) rfl rfl (cellF_10 _ (by decide)) 9 (by decide) mk_X10_tells_119 rfl rfl dX10_tells_3 ?_
  refine v_imul ok dX10_tells_6 ?_
  refine v_istore_n ok [(2, iv (14 * (M 78 9))), (0, rf g 78), (1, iv v)] dX10_tells_7 rfl (by decide) rfl ?_
  refine v_aload_n ok 1 dX10_tells_8 rfl rfl ?_
  refine v_get (T := TX10) (N := 22) (f0 := (M 78)) (v := rf g 83) ok mi_X10_tells_10 (kd_lt (show kd 78 = 10 from rfl) (by decide)) rfl rfl (cellF_10 _ (by decide)) 8 (by decide) mk_X10_tells_24 rfl rfl dX10_tells_9 ?_
  refine v_iload_n ok 0 dX10_tells_12 rfl rfl ?_
  refine v_iconst (n := 2) ok dX10_tells_13 ?_
  refine v_iadd ok dX10_tells_14 ?_
  refine v_aload_n ok 1 dX10_tells_15 rfl rfl ?_
  refine v_get (T := TX10) (N := 22) (f0 := (M 78)) (v := rf g 83) ok mi_X10_tells_10 (kd_lt (show kd 78 = 10 from rfl) (by decide)) rfl rfl (cellF_10 _ (by decide)) 8 (by decide) mk_X10_tells_24 rfl rfl dX10_tells_16 ?_
  refine v_iload_n ok 0 dX10_tells_19 rfl rfl ?_
  refine v_iconst (n := 1) ok dX10_tells_20 ?_
  refine v_iadd ok dX10_tells_21 ?_
  refine v_iald (n := 168) (f0 := (M 83)) ok (by decide) rfl (by omega) rfl dX10_tells_22 ?_
  refine v_iadd ok dX10_tells_23 ?_
  refine v_iload_n ok 2 dX10_tells_24 rfl rfl ?_
  refine v_iast (n := 168) (f0 := (M 83)) ok (by decide) rfl (by omega) rfl dX10_tells_25 ?_
  refine v_aload_n ok 1 dX10_tells_26 rfl rfl ?_
  refine v_get (T := TX10) (N := 22) (f0 := (M 78)) (v := rf g 83) ok mi_X10_tells_10 (kd_lt (show kd 78 = 10 from rfl) (by decide)) rfl rfl (cellF_10 _ (by decide)) 8 (by decide) mk_X10_tells_24 rfl rfl dX10_tells_27 ?_
  refine v_iload_n ok 0 dX10_tells_30 rfl rfl ?_
  refine v_iconst (n := 1) ok dX10_tells_31 ?_
  refine v_iadd ok dX10_tells_32 ?_
  refine v_dup2 ok rfl rfl dX10_tells_33 ?_
  refine v_iald (n := 168) (f0 := up (M 83) (((14 * (M 78 9)) + 2) + (M 83 ((14 * (M 78 9)) + 1))) v) ok (by decide) rfl (by omega) rfl dX10_tells_34 ?_
  rw [show ((up (M 83) (((14 * (M 78 9)) + 2) + (M 83 ((14 * (M 78 9)) + 1))) v ((14 * (M 78 9)) + 1)) : Int) = (M 83 (14 * M 78 9 + 1)) from (up_ne (by omega))]
  refine v_iconst (n := 1) ok dX10_tells_35 ?_
  refine v_iadd ok dX10_tells_36 ?_
  refine v_iast (n := 168) (f0 := up (M 83) (((14 * (M 78 9)) + 2) + (M 83 ((14 * (M 78 9)) + 1))) v) ok (by decide) rfl (by omega) rfl dX10_tells_37 ?_
  rw [up1_up1]
  exact v_vret ok rt dX10_tells_38 (⟨rfl, rfl⟩)
