set_option maxRecDepth 100000 in
set_option maxHeartbeats 400000 in
theorem ct_X10_isWhole (l : Launch) (g : Gl) (M : Mem) (v d m : Int) (hv : i32 v) (hd : 0 < d ∧ d ≤ 1000) (hm : i32 m) : Ct l g yX10_isWhole wsX10_isWhole 0 0 [iv v, iv d, iv m] M (fun rv M' => (rv = some (iv 1) ∧ M' = M ∧ (whl v d m)) ∨ (rv = some (iv 0) ∧ M' = M ∧ (¬ whl v d m))) := by
  refine Ct.of (cc := cX10_isWhole) (nL := 3) (ret := (some .boolean)) (by decide) rfl (Nat.le_of_ble_eq_true rfl) (fun z hz ok rt => ?_)
  have ok : Ok z g cX10_isWhole 3 RX10 wsX10_isWhole 0 0 := ok
  show V z g 3 M [(0, iv v), (1, iv d), (2, iv m)] [] 0
  refine v_iload_n ok 0 dX10_isWhole_0 rfl rfl ?_
  refine v_if_lt (tgt := 21) ok ⟨by omega, by omega⟩ dX10_isWhole_1 (by decide) (fun c1 => ?_) (fun c1 => ?_)
  · skip
    refine v_iconst (n := 0) ok dX10_isWhole_21 ?_
    exact v_zret ok rt (by omega) dX10_isWhole_22 (Or.inr (⟨rfl, rfl, (by first | exact ⟨by omega, by omega, by omega, by omega⟩ | exact (fun q => by have q4 := q.2.2.2; have q3 := q.2.2.1; have q2 := q.2.1; omega))⟩))
  · skip
    have hq1 : 0 ≤ v / d := Int.ediv_nonneg (by omega) (by omega)
    have hq2 : v / d ≤ v := Int.ediv_le_self d (by omega)
    have hq3 : 0 ≤ v % d := Int.emod_nonneg v (by omega)
    have hq4 : v % d < d := Int.emod_lt_of_pos v (by omega)
    refine v_iload_n ok 0 dX10_isWhole_4 rfl rfl ?_
    refine v_iload_n ok 1 dX10_isWhole_5 rfl rfl ?_
    refine v_irem ok (by omega) (by omega) dX10_isWhole_6 ?_
    refine v_if_ne (tgt := 21) ok ⟨by omega, by omega⟩ dX10_isWhole_7 (by decide) (fun c2 => ?_) (fun c2 => ?_)
    · skip
      refine v_iconst (n := 0) ok dX10_isWhole_21 ?_
      exact v_zret ok rt (by omega) dX10_isWhole_22 (Or.inr (⟨rfl, rfl, (by first | exact ⟨by omega, by omega, by omega, by omega⟩ | exact (fun q => by have q4 := q.2.2.2; have q3 := q.2.2.1; have q2 := q.2.1; omega))⟩))
    · skip
      refine v_iload_n ok 0 dX10_isWhole_10 rfl rfl ?_
      refine v_iload_n ok 1 dX10_isWhole_11 rfl rfl ?_
      refine v_idiv ok (by omega) (by omega) dX10_isWhole_12 ?_
      refine v_iload_n ok 2 dX10_isWhole_13 rfl rfl ?_
      refine v_icmp_gt (tgt := 21) ok ⟨by omega, by omega⟩ ⟨by omega, by omega⟩ dX10_isWhole_14 (by decide) (fun c3 => ?_) (fun c3 => ?_)
      · skip
        refine v_iconst (n := 0) ok dX10_isWhole_21 ?_
        exact v_zret ok rt (by omega) dX10_isWhole_22 (Or.inr (⟨rfl, rfl, (by first | exact ⟨by omega, by omega, by omega, by omega⟩ | exact (fun q => by have q4 := q.2.2.2; have q3 := q.2.2.1; have q2 := q.2.1; omega))⟩))
      · skip
        refine v_iconst (n := 1) ok dX10_isWhole_17 ?_
        refine v_goto (tgt := 22) ok dX10_isWhole_18 (by decide) ?_
        exact v_zret ok rt (by omega) dX10_isWhole_22 (Or.inl (⟨rfl, rfl, (by first | exact ⟨by omega, by omega, by omega, by omega⟩ | exact (fun q => by have q4 := q.2.2.2; have q3 := q.2.2.1; have q2 := q.2.1; omega))⟩))

theorem mk_X10_begins_36 : Cond.fieldLink RX10 36 "StormRunoffModel" "left" "[I" ∈ wsX10_begins := by decide +kernel
theorem mi_X10_begins_10 : ∀ w ∈ wsX100, w ∈ wsX10_begins := by decide +kernel
theorem mk_X10_begins_11 : Cond.fieldLink RX10 11 "StormRunoffModel" "w" "[I" ∈ wsX10_begins := by decide +kernel
set_option maxRecDepth 100000 in
set_option maxHeartbeats 400000 in
theorem ct_X10_begins (l : Launch) (g : Gl) (M : Mem)   : Ct l g yX10_begins wsX10_begins 0 0 [rf g 78] M (fun rv M' => rv = none ∧ M' = (up1 M 87 (tdW (M 79)))) := by
  refine Ct.of (cc := cX10_begins) (nL := 2) (ret := none) (by decide) rfl (Nat.le_of_ble_eq_true rfl) (fun z hz ok rt => ?_)
  have ok : Ok z g cX10_begins 2 RX10 wsX10_begins 0 0 := ok
  show V z g 2 M [(0, rf g 78)] [] 0
  refine v_iconst (n := 0) ok dX10_begins_0 ?_
  refine v_istore_n ok [(1, iv 0), (0, rf g 78)] dX10_begins_1 rfl (by decide) rfl ?_
  have lp2 : ∀ (fu : Nat) (h : Int) (F : Int → Int), (0 ≤ h ∧ h ≤ 12) → (∀ j : Int, 0 ≤ j → j < h → F j = tdW (M 79) j) → (12 - h).toNat < fu → V z g 2 (up1 M 87 F) [(0, rf g 78), (1, iv h)] [] 2 := by
    intro fu
    induction fu with
    | zero => intro h F _ _ hm; exact absurd hm (Nat.not_lt_zero _)
    | succ fu ih2 =>
      intro h F i2_0 i2_1 hm2
      refine v_iload_n ok 1 dX10_begins_2 rfl rfl ?_
      refine v_bipush (n := 12) ok rfl dX10_begins_3 ?_
      refine v_icmp_ge (tgt := 29) ok ⟨by omega, by omega⟩ (by decide) dX10_begins_5 (by decide) (fun c1 => ?_) (fun c1 => ?_)
      · skip
        refine v_cong (n := 12) (tdW (M 79)) (Or.inl (by decide)) rfl (fun j j0 j1 => i2_1 j j0 (by omega)) ?_
        exact v_vret ok rt dX10_begins_29 (⟨rfl, rfl⟩)
      · skip
        refine v_aload_n ok 0 dX10_begins_8 rfl rfl ?_
        refine v_get (T := TX10) (N := 22) (f0 := (M 78)) (v := rf g 87) ok mi_X10_begins_10 (kd_lt (show kd 78 = 10 from rfl) (by decide)) rfl rfl (cellF_10 _ (by decide)) 14 (by decide) mk_X10_begins_36 rfl rfl dX10_begins_9 ?_
        refine v_iload_n ok 1 dX10_begins_12 rfl rfl ?_
        refine v_aload_n ok 0 dX10_begins_13 rfl rfl ?_
        refine v_get (T := TX10) (N := 22) (f0 := (M 78)) (v := rf g 79) ok mi_X10_begins_10 (kd_lt (show kd 78 = 10 from rfl) (by decide)) rfl rfl (cellF_10 _ (by decide)) 0 (by decide) mk_X10_begins_11 rfl rfl dX10_begins_14 ?_
        refine v_bipush (n := 8) ok rfl dX10_begins_17 ?_
        refine v_iload_n ok 1 dX10_begins_19 rfl rfl ?_
        refine v_iadd ok dX10_begins_20 ?_
        refine v_iald (n := 90) (f0 := (M 79)) ok (by decide) rfl (by omega) rfl dX10_begins_21 ?_
        refine v_iast (n := 12) (f0 := F) ok (by decide) rfl (by omega) rfl dX10_begins_22 ?_
        rw [up1_up1]
        refine v_iinc ok 1 [(1, iv (h + 1)), (0, rf g 78)] dX10_begins_23 rfl (by decide) rfl ?_
        refine v_goto (tgt := 2) ok dX10_begins_26 (by decide) ?_
        refine v_lv (ls' := [(0, rf g 78), (1, iv (h + 1))]) ok [1, 0] rfl ?_
        exact ih2 (h + 1) (up F h (M 79 (8 + h))) (by omega) (up_lt i2_1 rfl) (by omega)
  refine v_lv (ls' := [(0, rf g 78), (1, iv 0)]) ok [1, 0] rfl ?_
  rw [show (M : Mem) = (up1 M 87 (M 87)) from (by
        funext j
        by_cases hj0 : j = 87
        · subst hj0; simp [up1, up1_self]
        simp [up1, hj0])]
  exact lp2 _ 0 (M 87) (by omega) (fun j j0 j1 => by omega) (Nat.lt_succ_self _)

theorem mk_X10_rest_36 : Cond.fieldLink RX10 36 "StormRunoffModel" "left" "[I" ∈ wsX10_rest := by decide +kernel
theorem mi_X10_rest_10 : ∀ w ∈ wsX100, w ∈ wsX10_rest := by decide +kernel
set_option maxRecDepth 100000 in
set_option maxHeartbeats 400000 in
theorem ct_X10_rest (l : Launch) (g : Gl) (M : Mem) (f : Int) (hf : 0 ≤ f ∧ f ≤ 12) (hL : bdf (M 87) 12 (-100000) 100000) : Ct l g yX10_rest wsX10_rest 0 0 [rf g 78, iv f] M (fun rv M' => rv = some (iv (rst (M 87) f)) ∧ M' = M) := by
  refine Ct.of (cc := cX10_rest) (nL := 3) (ret := (some .int)) (by decide) rfl (Nat.le_of_ble_eq_true rfl) (fun z hz ok rt => ?_)
  have ok : Ok z g cX10_rest 3 RX10 wsX10_rest 0 0 := ok
  show V z g 3 M [(0, rf g 78), (1, iv f)] [] 0
  refine v_iload_n ok 1 dX10_rest_0 rfl rfl ?_
  refine v_istore_n ok [(2, iv f), (0, rf g 78), (1, iv f)] dX10_rest_1 rfl (by decide) rfl ?_
  have lp2 : ∀ (fu : Nat) (h : Int), (f ≤ h ∧ h ≤ 12) → (rsc (M 87) (12 - f).toNat f = rsc (M 87) (12 - h).toNat h) → (12 - h).toNat < fu → V z g 3 M [(0, rf g 78), (1, iv f), (2, iv h)] [] 2 := by
    intro fu
    induction fu with
    | zero => intro h _ _ hm; exact absurd hm (Nat.not_lt_zero _)
    | succ fu ih2 =>
      intro h i2_0 i2_1 hm2
      refine v_iload_n ok 2 dX10_rest_2 rfl rfl ?_
      refine v_bipush (n := 12) ok rfl dX10_rest_3 ?_
      refine v_icmp_ge (tgt := 25) ok ⟨by omega, by omega⟩ (by decide) dX10_rest_5 (by decide) (fun c1 => ?_) (fun c1 => ?_)
      · skip
        have hr : rsc (M 87) (12 - f).toNat f = -1 := by rw [i2_1, show (12 - h).toNat = 0 by omega]; rfl
        refine v_bipush (n := -5) ok rfl dX10_rest_25 ?_
        exact v_iret ok rt dX10_rest_27 (⟨(congrArg (fun q : Int => some (iv q)) (show (-5) = (rst (M 87) f) from by (unfold rst; rw [hr, if_neg (by decide)]))), rfl⟩)
      · skip
        refine v_aload_n ok 0 dX10_rest_8 rfl rfl ?_
        refine v_get (T := TX10) (N := 22) (f0 := (M 78)) (v := rf g 87) ok mi_X10_rest_10 (kd_lt (show kd 78 = 10 from rfl) (by decide)) rfl rfl (cellF_10 _ (by decide)) 14 (by decide) mk_X10_rest_36 rfl rfl dX10_rest_9 ?_
        refine v_iload_n ok 2 dX10_rest_12 rfl rfl ?_
        refine v_iald (n := 12) (f0 := (M 87)) ok (by decide) rfl (by omega) rfl dX10_rest_13 ?_
        have b2 := hL h (by omega) (by omega)
        refine v_if_eq (tgt := 19) ok ⟨by omega, by omega⟩ dX10_rest_14 (by decide) (fun c3 => ?_) (fun c3 => ?_)
        · skip
          have hb : rsc (M 87) (12 - f).toNat f = rsc (M 87) (12 - (h + 1)).toNat (h + 1) := by rw [i2_1, nat_s (show h < 12 by omega), rsc_f (by omega)]
          refine v_iinc ok 2 [(2, iv (h + 1)), (0, rf g 78), (1, iv f)] dX10_rest_19 rfl (by decide) rfl ?_
          refine v_goto (tgt := 2) ok dX10_rest_22 (by decide) ?_
          refine v_lv (ls' := [(0, rf g 78), (1, iv f), (2, iv (h + 1))]) ok [1, 2, 0] rfl ?_
          exact ih2 (h + 1) (by omega) hb (by omega)
        · skip
          have hr : rsc (M 87) (12 - f).toNat f = h := by rw [i2_1, nat_s (show h < 12 by omega), rsc_t (by omega)]
          refine v_iload_n ok 2 dX10_rest_17 rfl rfl ?_
          exact v_iret ok rt dX10_rest_18 (⟨(congrArg (fun q : Int => some (iv q)) (show h = (rst (M 87) f) from by (unfold rst; rw [hr, if_pos (by omega)]))), rfl⟩)
  refine v_lv (ls' := [(0, rf g 78), (1, iv f), (2, iv f)]) ok [1, 2, 0] rfl ?_
  exact lp2 _ f (by omega) rfl (Nat.lt_succ_self _)

theorem mk_X10_unfolds_36 : Cond.fieldLink RX10 36 "StormRunoffModel" "left" "[I" ∈ wsX10_unfolds := by decide +kernel
theorem mi_X10_unfolds_10 : ∀ w ∈ wsX100, w ∈ wsX10_unfolds := by decide +kernel
theorem mk_X10_unfolds_39 : Cond.fieldLink RX10 39 "StormRunoffModel" "unfolded" "[I" ∈ wsX10_unfolds := by decide +kernel
set_option maxRecDepth 100000 in
set_option maxHeartbeats 400000 in
theorem ct_X10_unfolds (l : Launch) (g : Gl) (M : Mem) (b : Int) (hb : 0 ≤ b ∧ b ≤ 2) (hw : WOk (M 79)) (h0 : 0 < bsA (M 79) b 0) : Ct l g yX10_unfolds wsX10_unfolds 1 22 [rf g 78, iv b] M (fun rv M' => ∃ (L U : Int → Int), rv = some (iv (unfR (tdW (M 79)) (bsA (M 79) b))) ∧ M' = (up1 (up1 M 87 L) 88 U) ∧ (unfR (tdW (M 79)) (bsA (M 79) b) = -5 → ∀ k : Int, 0 ≤ k → k < 8 → U k = dvQ (tdW (M 79)) (bsA (M 79) b) 0 5 k)) := by
  refine Ct.of (cc := cX10_unfolds) (nL := 4) (ret := (some .int)) (by decide) rfl (Nat.le_of_ble_eq_true rfl) (fun z hz ok rt => ?_)
  have ok : Ok z g cX10_unfolds 4 RX10 wsX10_unfolds 1 22 := ok
  show V z g 4 M [(0, rf g 78), (1, iv b)] [] 0
  have hbo := hw.2.2.2.1 b hb.1 (by omega)
  have hA := hbo.1
  have hK := hbo.2.2.1
  have hN := hbo.2.2.2.1
  have hP := hbo.2.2.2.2
  have hR := hw.1
  have hA0 := hA 0 (by omega) (by omega)
  have hT := hw.2.1
  refine v_aload_n ok 0 dX10_unfolds_0 rfl rfl ?_
  refine v_callV (na := 0) (i := 78) (C := RX10) (T := TX10) (N := 22) (f0 := (M 78)) ok (ct_X10_begins z.2.1 g M  ) gX10_unfolds_X10_begins (kd_lt (show kd 78 = 10 from rfl) (by decide)) rfl rfl (cellF_10 _ (by decide)) rfl (by decide +kernel) rfl (by decide) [] rfl (Nat.le_of_ble_eq_true rfl) dX10_unfolds_1 (fun v2 M3 hp1 => ?_)
  obtain ⟨rfl, rfl⟩ := hp1
  show V z g 4 (up1 M 87 (tdW ((M 79)))) [(0, rf g 78), (1, iv b)] [] 4
  refine v_iconst (n := 0) ok dX10_unfolds_4 ?_
  refine v_istore_n ok [(2, iv 0), (0, rf g 78), (1, iv b)] dX10_unfolds_5 rfl (by decide) rfl ?_
  have lp6 : ∀ (fu : Nat) (h : Int) (U : Int → Int), (0 ≤ h ∧ h ≤ 8) → (dvB (tdW (M 79)) (bsA (M 79) b) 0 5 20 8 0 = dvB (tdW (M 79)) (bsA (M 79) b) 0 5 20 (8 - h).toNat h.toNat) → (bdf (dvL (tdW (M 79)) (bsA (M 79) b) 0 5 h.toNat) 12 (-(180 * h)) 999) → (∀ j : Int, 0 ≤ j → j < h → U j = dvQ (tdW (M 79)) (bsA (M 79) b) 0 5 j) → (8 - h).toNat < fu → V z g 4 (up1 (up1 M 87 (dvL (tdW (M 79)) (bsA (M 79) b) 0 5 h.toNat)) 88 U) [(0, rf g 78), (1, iv b), (2, iv h)] [] 6 := by
    intro fu
    induction fu with
    | zero => intro h U _ _ _ _ hm; exact absurd hm (Nat.not_lt_zero _)
    | succ fu ih6 =>
      intro h U i6_0 i6_1 i6_2 i6_3 hm6
      have hv := i6_2 h i6_0.1 (by omega)
      refine v_iload_n ok 2 dX10_unfolds_6 rfl rfl ?_
      refine v_bipush (n := 8) ok rfl dX10_unfolds_7 ?_
      refine v_icmp_ge (tgt := 96) ok ⟨by omega, by omega⟩ (by decide) dX10_unfolds_9 (by decide) (fun c4 => ?_) (fun c4 => ?_)
      · skip
        have e8 : h.toNat = 8 := by omega
        have hb1 : dvB (tdW (M 79)) (bsA (M 79) b) 0 5 20 8 0 = -1 := by rw [i6_1, show (8 - h).toNat = 0 by omega]; rfl
        have hl8 : bdf (dvL (tdW (M 79)) (bsA (M 79) b) 0 5 8) 12 (-100000) 100000 := by
          intro j j0 j1
          have h9 := i6_2 j j0 j1
          rw [e8] at h9
          omega
        have hq8 : ∀ k : Int, 0 ≤ k → k < 8 → U k = dvQ (tdW (M 79)) (bsA (M 79) b) 0 5 k := fun k k0 k1 => i6_3 k k0 (by omega)
        rw [show ((up1 (up1 M 87 (dvL (tdW (M 79)) (bsA (M 79) b) 0 5 h.toNat)) 88 U) : Mem) = (up1 (up1 M 87 (dvL (tdW (M 79)) (bsA (M 79) b) 0 5 8)) 88 U) from (by rw [e8])]
        refine v_aload_n ok 0 dX10_unfolds_96 rfl rfl ?_
        refine v_bipush (n := 8) ok rfl dX10_unfolds_97 ?_
        refine v_callV (na := 1) (i := 78) (C := RX10) (T := TX10) (N := 22) (f0 := (M 78)) ok (ct_X10_rest z.2.1 g (up1 (up1 M 87 (dvL (tdW (M 79)) (bsA (M 79) b) 0 5 8)) 88 U) 8 (by first | omega | assumption) hl8) gX10_unfolds_X10_rest (kd_lt (show kd 78 = 10 from rfl) (by decide)) rfl rfl (cellF_10 _ (by decide)) rfl (by decide +kernel) rfl (by decide) [] rfl (Nat.le_of_ble_eq_true rfl) dX10_unfolds_99 (fun v6 M7 hp5 => ?_)
        obtain ⟨rfl, rfl⟩ := hp5
        show V z g 4 (up1 (up1 M 87 (dvL (tdW (M 79)) (bsA (M 79) b) 0 5 8)) 88 U) [(0, rf g 78), (1, iv b), (2, iv h)] [iv (rst ((dvL (tdW (M 79)) (bsA (M 79) b) 0 5 8)) 8)] 102
        exact v_iret ok rt dX10_unfolds_102 (⟨(dvL (tdW (M 79)) (bsA (M 79) b) 0 5 8), U, (congrArg (fun q : Int => some (iv q)) (show (rst ((dvL (tdW (M 79)) (bsA (M 79) b) 0 5 8)) 8) = (unfR (tdW (M 79)) (bsA (M 79) b)) from by (exact (unfR_c hb1).symm))), rfl, (fun _ => hq8)⟩)
      · skip
        refine v_aload_n ok 0 dX10_unfolds_12 rfl rfl ?_
        refine v_get (T := TX10) (N := 22) (f0 := (M 78)) (v := rf g 87) ok mi_X10_unfolds_10 (kd_lt (show kd 78 = 10 from rfl) (by decide)) rfl rfl (cellF_10 _ (by decide)) 14 (by decide) mk_X10_unfolds_36 rfl rfl dX10_unfolds_13 ?_
        refine v_iload_n ok 2 dX10_unfolds_16 rfl rfl ?_
        refine v_iald (n := 12) (f0 := (dvL (tdW (M 79)) (bsA (M 79) b) 0 5 h.toNat)) ok (by decide) rfl (by omega) rfl dX10_unfolds_17 ?_
        refine v_aload_n ok 0 dX10_unfolds_18 rfl rfl ?_
        refine v_iload_n ok 1 dX10_unfolds_19 rfl rfl ?_
        refine v_iconst (n := 0) ok dX10_unfolds_20 ?_
        refine v_callV (na := 2) (i := 78) (C := RX10) (T := TX10) (N := 22) (f0 := (M 78)) ok (ct_X10_answer z.2.1 g (up1 (up1 M 87 (dvL (tdW (M 79)) (bsA (M 79) b) 0 5 h.toNat)) 88 U) b 0 hb (by first | omega | assumption)) gX10_unfolds_X10_answer (kd_lt (show kd 78 = 10 from rfl) (by decide)) rfl rfl (cellF_10 _ (by decide)) rfl (by decide +kernel) rfl (by decide) [iv ((dvL (tdW (M 79)) (bsA (M 79) b) 0 5 h.toNat) h)] rfl (Nat.le_of_ble_eq_true rfl) dX10_unfolds_21 (fun v9 M10 hp8 => ?_)
        obtain ⟨rfl, rfl⟩ := hp8
        show V z g 4 (up1 (up1 M 87 (dvL (tdW (M 79)) (bsA (M 79) b) 0 5 h.toNat)) 88 U) [(0, rf g 78), (1, iv b), (2, iv h)] [iv (bsA ((M 79)) b 0), iv ((dvL (tdW (M 79)) (bsA (M 79) b) 0 5 h.toNat) h)] 24
        refine v_bipush (n := 20) ok rfl dX10_unfolds_24 ?_
        refine v_callS (na := 3) ok (ct_X10_isWhole z.2.1 g (up1 (up1 M 87 (dvL (tdW (M 79)) (bsA (M 79) b) 0 5 h.toNat)) 88 U) ((dvL (tdW (M 79)) (bsA (M 79) b) 0 5 h.toNat) h) (bsA ((M 79)) b 0) 20 ⟨by omega, by omega⟩ (by omega) (by decide)) gX10_unfolds_X10_isWhole rfl (by decide +kernel) rfl (by decide) [] rfl (Nat.le_of_ble_eq_true rfl) dX10_unfolds_26 (fun v12 M13 hp11 => ?_)
        rcases hp11 with ⟨rfl, rfl, h14⟩ | ⟨rfl, rfl, h15⟩
        · skip
          show V z g 4 (up1 (up1 M 87 (dvL (tdW (M 79)) (bsA (M 79) b) 0 5 h.toNat)) 88 U) [(0, rf g 78), (1, iv b), (2, iv h)] [iv 1] 29
          have hw1 := h14
          have hq0 : 0 ≤ dvL (tdW (M 79)) (bsA (M 79) b) 0 5 h.toNat h / bsA (M 79) b 0 := Int.ediv_nonneg (by omega) (by omega)
          have hw2 : whl (dvL (tdW (M 79)) (bsA (M 79) b) 0 5 h.toNat (0 + h)) (bsA (M 79) b 0) 20 := by rw [Int.zero_add]; exact hw1
          have hb1 : dvB (tdW (M 79)) (bsA (M 79) b) 0 5 20 8 0 = dvB (tdW (M 79)) (bsA (M 79) b) 0 5 20 (8 - (h + 1)).toNat (h + 1).toNat := by rw [i6_1, nat_s (show h < 8 by omega), dvB_t i6_0.1 hw2]
          have hqd : dvL (tdW (M 79)) (bsA (M 79) b) 0 5 h.toNat h / bsA (M 79) b 0 = dvQ (tdW (M 79)) (bsA (M 79) b) 0 5 h := by unfold dvQ; rw [Int.zero_add]
          have hb2 : bdf (dvL (tdW (M 79)) (bsA (M 79) b) 0 5 (h + 1).toNat) 12 (-(180 * (h + 1))) 999 := by
            rw [dvL_s i6_0.1, ← hqd]
            intro j j0 j1
            have h9 := tkw_rng (f := h) (n := 5) (A := bsA (M 79) b) i6_2 (fun k k0 k1 => prd_rng (x := bsA (M 79) b k) hq0 hw1.2.2.2 (hA k k0 k1).1 (hA k k0 k1).2 (by decide) (by decide)) j j0 j1
            omega
          refine v_if_ne (tgt := 34) ok (by decide) dX10_unfolds_29 (by decide) (fun c16 => ?_) (fun c16 => absurd c16 (by decide))
          refine v_aload_n ok 0 dX10_unfolds_34 rfl rfl ?_
          refine v_get (T := TX10) (N := 22) (f0 := (M 78)) (v := rf g 88) ok mi_X10_unfolds_10 (kd_lt (show kd 78 = 10 from rfl) (by decide)) rfl rfl (cellF_10 _ (by decide)) 15 (by decide) mk_X10_unfolds_39 rfl rfl dX10_unfolds_35 ?_
          refine v_iload_n ok 2 dX10_unfolds_38 rfl rfl ?_
          refine v_aload_n ok 0 dX10_unfolds_39 rfl rfl ?_
          refine v_get (T := TX10) (N := 22) (f0 := (M 78)) (v := rf g 87) ok mi_X10_unfolds_10 (kd_lt (show kd 78 = 10 from rfl) (by decide)) rfl rfl (cellF_10 _ (by decide)) 14 (by decide) mk_X10_unfolds_36 rfl rfl dX10_unfolds_40 ?_
          refine v_iload_n ok 2 dX10_unfolds_43 rfl rfl ?_
          refine v_iald (n := 12) (f0 := (dvL (tdW (M 79)) (bsA (M 79) b) 0 5 h.toNat)) ok (by decide) rfl (by omega) rfl dX10_unfolds_44 ?_
          refine v_aload_n ok 0 dX10_unfolds_45 rfl rfl ?_
          refine v_iload_n ok 1 dX10_unfolds_46 rfl rfl ?_
          refine v_iconst (n := 0) ok dX10_unfolds_47 ?_
          refine v_callV (na := 2) (i := 78) (C := RX10) (T := TX10) (N := 22) (f0 := (M 78)) ok (ct_X10_answer z.2.1 g (up1 (up1 M 87 (dvL (tdW (M 79)) (bsA (M 79) b) 0 5 h.toNat)) 88 U) b 0 hb (by first | omega | assumption)) gX10_unfolds_X10_answer (kd_lt (show kd 78 = 10 from rfl) (by decide)) rfl rfl (cellF_10 _ (by decide)) rfl (by decide +kernel) rfl (by decide) [iv ((dvL (tdW (M 79)) (bsA (M 79) b) 0 5 h.toNat) h), iv h, rf g 88] rfl (Nat.le_of_ble_eq_true rfl) dX10_unfolds_48 (fun v18 M19 hp17 => ?_)
          obtain ⟨rfl, rfl⟩ := hp17
          show V z g 4 (up1 (up1 M 87 (dvL (tdW (M 79)) (bsA (M 79) b) 0 5 h.toNat)) 88 U) [(0, rf g 78), (1, iv b), (2, iv h)] [iv (bsA ((M 79)) b 0), iv ((dvL (tdW (M 79)) (bsA (M 79) b) 0 5 h.toNat) h), iv h, rf g 88] 51
          refine v_idiv ok (by omega) (by omega) dX10_unfolds_51 ?_
          rw [show ((((dvL (tdW (M 79)) (bsA (M 79) b) 0 5 h.toNat) h) / (bsA ((M 79)) b 0)) : Int) = (dvQ (tdW (M 79)) (bsA (M 79) b) 0 5 h) from hqd]
          refine v_iast (n := 8) (f0 := U) ok (by decide) rfl (by omega) rfl dX10_unfolds_52 ?_
          rw [up1_up1]
          refine v_iconst (n := 0) ok dX10_unfolds_53 ?_
          refine v_istore_n ok [(3, iv 0), (0, rf g 78), (1, iv b), (2, iv h)] dX10_unfolds_54 rfl (by decide) rfl ?_
          have lp55 : ∀ (fu : Nat) (k : Int) (G : Int → Int), (0 ≤ k ∧ k ≤ 5) → (∀ j : Int, 0 ≤ j → j < 12 → G j = tkw (dvL (tdW (M 79)) (bsA (M 79) b) 0 5 h.toNat) h (dvQ (tdW (M 79)) (bsA (M 79) b) 0 5 h) (bsA (M 79) b) k j) → (5 - k).toNat < fu → V z g 4 (up1 (up1 M 87 G) 88 (up U h (dvQ (tdW (M 79)) (bsA (M 79) b) 0 5 h))) [(0, rf g 78), (1, iv b), (2, iv h), (3, iv k)] [] 55 := by
            intro fu
            induction fu with
            | zero => intro k G _ _ hm; exact absurd hm (Nat.not_lt_zero _)
            | succ fu ih55 =>
              intro k G i55_0 i55_1 hm55
              refine v_iload_n ok 3 dX10_unfolds_55 rfl rfl ?_
              refine v_iconst (n := 5) ok dX10_unfolds_56 ?_
              refine v_icmp_ge (tgt := 90) ok ⟨by omega, by omega⟩ (by decide) dX10_unfolds_57 (by decide) (fun c20 => ?_) (fun c20 => ?_)
              · skip
                rw [show ((up1 (up1 M 87 G) 88 (up U h (dvQ (tdW (M 79)) (bsA (M 79) b) 0 5 h))) : Mem) = (up1 (up1 M 88 (up U h (dvQ (tdW (M 79)) (bsA (M 79) b) 0 5 h))) 87 G) from (by
                      funext j
                      by_cases hj0 : j = 87
                      · subst hj0; simp [up1, up1_self]
                      by_cases hj1 : j = 88
                      · subst hj1; simp [up1, up1_self]
                      simp [up1, hj0, hj1])]
                refine v_cong (n := 12) (dvL (tdW (M 79)) (bsA (M 79) b) 0 5 (h + 1).toNat) (Or.inl (by decide)) rfl (fun j j0 j1 => by rw [i55_1 j j0 j1, show k = 5 by omega, dvL_s i6_0.1]) ?_
                rw [show ((up1 (up1 M 88 (up U h (dvQ (tdW (M 79)) (bsA (M 79) b) 0 5 h))) 87 (dvL (tdW (M 79)) (bsA (M 79) b) 0 5 (h + 1).toNat)) : Mem) = (up1 (up1 M 87 (dvL (tdW (M 79)) (bsA (M 79) b) 0 5 (h + 1).toNat)) 88 (up U h (dvQ (tdW (M 79)) (bsA (M 79) b) 0 5 h))) from (by
                      funext j
                      by_cases hj0 : j = 87
                      · subst hj0; simp [up1, up1_self]
                      by_cases hj1 : j = 88
                      · subst hj1; simp [up1, up1_self]
                      simp [up1, hj0, hj1])]
                refine v_iinc ok 2 [(2, iv (h + 1)), (0, rf g 78), (1, iv b), (3, iv k)] dX10_unfolds_90 rfl (by decide) rfl ?_
                refine v_goto (tgt := 6) ok dX10_unfolds_93 (by decide) ?_
                refine v_lv (ls' := [(0, rf g 78), (1, iv b), (2, iv (h + 1))]) ok [1, 2, 0] rfl ?_
                exact ih6 (h + 1) (up U h (dvQ (tdW (M 79)) (bsA (M 79) b) 0 5 h)) (by omega) hb1 hb2 (up_lt i6_3 rfl) (by omega)
              · skip
                refine v_aload_n ok 0 dX10_unfolds_60 rfl rfl ?_
                refine v_get (T := TX10) (N := 22) (f0 := (M 78)) (v := rf g 87) ok mi_X10_unfolds_10 (kd_lt (show kd 78 = 10 from rfl) (by decide)) rfl rfl (cellF_10 _ (by decide)) 14 (by decide) mk_X10_unfolds_36 rfl rfl dX10_unfolds_61 ?_
                refine v_iload_n ok 2 dX10_unfolds_64 rfl rfl ?_
                refine v_iload_n ok 3 dX10_unfolds_65 rfl rfl ?_
                refine v_iadd ok dX10_unfolds_66 ?_
                refine v_dup2 ok rfl rfl dX10_unfolds_67 ?_
                refine v_iald (n := 12) (f0 := G) ok (by decide) rfl (by omega) rfl dX10_unfolds_68 ?_
                refine v_aload_n ok 0 dX10_unfolds_69 rfl rfl ?_
                refine v_get (T := TX10) (N := 22) (f0 := (M 78)) (v := rf g 88) ok mi_X10_unfolds_10 (kd_lt (show kd 78 = 10 from rfl) (by decide)) rfl rfl (cellF_10 _ (by decide)) 15 (by decide) mk_X10_unfolds_39 rfl rfl dX10_unfolds_70 ?_
                refine v_iload_n ok 2 dX10_unfolds_73 rfl rfl ?_
                refine v_iald (n := 8) (f0 := (up U h (dvQ (tdW (M 79)) (bsA (M 79) b) 0 5 h))) ok (by decide) rfl (by omega) rfl dX10_unfolds_74 ?_
                rw [show (((up U h (dvQ (tdW (M 79)) (bsA (M 79) b) 0 5 h)) h) : Int) = (dvQ (tdW (M 79)) (bsA (M 79) b) 0 5 h) from (up_same _ _ _)]
                refine v_aload_n ok 0 dX10_unfolds_75 rfl rfl ?_
                refine v_iload_n ok 1 dX10_unfolds_76 rfl rfl ?_
                refine v_iload_n ok 3 dX10_unfolds_77 rfl rfl ?_
                refine v_callV (na := 2) (i := 78) (C := RX10) (T := TX10) (N := 22) (f0 := (M 78)) ok (ct_X10_answer z.2.1 g (up1 (up1 M 87 G) 88 (up U h (dvQ (tdW (M 79)) (bsA (M 79) b) 0 5 h))) b k hb (by first | omega | assumption)) gX10_unfolds_X10_answer (kd_lt (show kd 78 = 10 from rfl) (by decide)) rfl rfl (cellF_10 _ (by decide)) rfl (by decide +kernel) rfl (by decide) [iv (dvQ (tdW (M 79)) (bsA (M 79) b) 0 5 h), iv (G (h + k)), iv (h + k), rf g 87] rfl (Nat.le_of_ble_eq_true rfl) dX10_unfolds_78 (fun v22 M23 hp21 => ?_)
                obtain ⟨rfl, rfl⟩ := hp21
                show V z g 4 (up1 (up1 M 87 G) 88 (up U h (dvQ (tdW (M 79)) (bsA (M 79) b) 0 5 h))) [(0, rf g 78), (1, iv b), (2, iv h), (3, iv k)] [iv (bsA ((M 79)) b k), iv (dvQ (tdW (M 79)) (bsA (M 79) b) 0 5 h), iv (G (h + k)), iv (h + k), rf g 87] 81
                refine v_imul ok dX10_unfolds_81 ?_
                refine v_isub ok dX10_unfolds_82 ?_
                refine v_iast (n := 12) (f0 := G) ok (by decide) rfl (by omega) rfl dX10_unfolds_83 ?_
                rw [show (up1 (up1 (up1 M 87 G) 88 (up U h (dvQ (tdW (M 79)) (bsA (M 79) b) 0 5 h))) 87 (up G (h + k) ((G (h + k)) - ((dvQ (tdW (M 79)) (bsA (M 79) b) 0 5 h) * (bsA ((M 79)) b k)))) : Mem) = (up1 (up1 M 87 (up G (h + k) ((G (h + k)) - ((dvQ (tdW (M 79)) (bsA (M 79) b) 0 5 h) * (bsA ((M 79)) b k))))) 88 (up U h (dvQ (tdW (M 79)) (bsA (M 79) b) 0 5 h))) from (by
                      funext j
                      by_cases hj0 : j = 87
                      · subst hj0; simp [up1, up1_self]
                      by_cases hj1 : j = 88
                      · subst hj1; simp [up1, up1_self]
                      simp [up1, hj0, hj1])]
                refine v_iinc ok 3 [(3, iv (k + 1)), (0, rf g 78), (1, iv b), (2, iv h)] dX10_unfolds_84 rfl (by decide) rfl ?_
                refine v_goto (tgt := 55) ok dX10_unfolds_87 (by decide) ?_
                refine v_lv (ls' := [(0, rf g 78), (1, iv b), (2, iv h), (3, iv (k + 1))]) ok [1, 2, 3, 0] rfl ?_
                exact ih55 (k + 1) (up G (h + k) ((G (h + k)) - ((dvQ (tdW (M 79)) (bsA (M 79) b) 0 5 h) * (bsA ((M 79)) b k)))) (by omega) (tkw_in i55_0.1 i55_1 (by omega) (by omega)) (by omega)
          refine v_lv (ls' := [(0, rf g 78), (1, iv b), (2, iv h), (3, iv 0)]) ok [1, 2, 3, 0] rfl ?_
          exact lp55 _ 0 (dvL (tdW (M 79)) (bsA (M 79) b) 0 5 h.toNat) (by omega) (fun j _ _ => by unfold tkw; rw [if_neg (by omega)]) (Nat.lt_succ_self _)
        · skip
          show V z g 4 (up1 (up1 M 87 (dvL (tdW (M 79)) (bsA (M 79) b) 0 5 h.toNat)) 88 U) [(0, rf g 78), (1, iv b), (2, iv h)] [iv 0] 29
          have hw1 := h15
          have hb1 : dvB (tdW (M 79)) (bsA (M 79) b) 0 5 20 8 0 = h := by rw [i6_1, nat_s (show h < 8 by omega), dvB_f i6_0.1 (by rw [Int.zero_add]; exact hw1)]
          refine v_if_ne (tgt := 34) ok (by decide) dX10_unfolds_29 (by decide) (fun c24 => absurd c24 (by decide)) (fun c24 => ?_)
          refine v_iload_n ok 2 dX10_unfolds_32 rfl rfl ?_
          exact v_iret ok rt dX10_unfolds_33 (⟨(dvL (tdW (M 79)) (bsA (M 79) b) 0 5 h.toNat), U, (congrArg (fun q : Int => some (iv q)) (show h = (unfR (tdW (M 79)) (bsA (M 79) b)) from by (rw [unfR_a i6_0.1 hb1]))), rfl, (fun q => by rw [unfR_a i6_0.1 hb1] at q; omega)⟩)
  rw [show ((up1 M 87 (tdW ((M 79)))) : Mem) = (up1 (up1 M 87 (dvL (tdW (M 79)) (bsA (M 79) b) 0 5 (0 : Int).toNat)) 88 (M 88)) from (by funext j; by_cases hj0 : j = 87 <;> by_cases hj1 : j = 88 <;> simp_all [up1] <;> rfl)]
  refine v_lv (ls' := [(0, rf g 78), (1, iv b), (2, iv 0)]) ok [1, 2, 0] rfl ?_
  exact lp6 _ 0 (M 88) (by omega) rfl hT (fun j _ _ => by omega) (Nat.lt_succ_self _)

theorem mk_X10_firstRain_11 : Cond.fieldLink RX10 11 "StormRunoffModel" "w" "[I" ∈ wsX10_firstRain := by decide +kernel
theorem mi_X10_firstRain_10 : ∀ w ∈ wsX100, w ∈ wsX10_firstRain := by decide +kernel
set_option maxRecDepth 100000 in
set_option maxHeartbeats 400000 in
theorem ct_X10_firstRain (l : Launch) (g : Gl) (M : Mem)  (hR : bdf (M 79) 8 0 20) : Ct l g yX10_firstRain wsX10_firstRain 0 0 [rf g 78] M (fun rv M' => rv = some (iv (fwt (M 79) 8 0)) ∧ M' = M) := by
  refine Ct.of (cc := cX10_firstRain) (nL := 2) (ret := (some .int)) (by decide) rfl (Nat.le_of_ble_eq_true rfl) (fun z hz ok rt => ?_)
  have ok : Ok z g cX10_firstRain 2 RX10 wsX10_firstRain 0 0 := ok
  show V z g 2 M [(0, rf g 78)] [] 0
  refine v_iconst (n := 0) ok dX10_firstRain_0 ?_
  refine v_istore_n ok [(1, iv 0), (0, rf g 78)] dX10_firstRain_1 rfl (by decide) rfl ?_
  have lp2 : ∀ (fu : Nat) (h : Int), (0 ≤ h ∧ h ≤ 8) → (fwt (M 79) 8 0 = fwt (M 79) (8 - h).toNat h) → (8 - h).toNat < fu → V z g 2 M [(0, rf g 78), (1, iv h)] [] 2 := by
    intro fu
    induction fu with
    | zero => intro h _ _ hm; exact absurd hm (Nat.not_lt_zero _)
    | succ fu ih2 =>
      intro h i2_0 i2_1 hm2
      refine v_iload_n ok 1 dX10_firstRain_2 rfl rfl ?_
      refine v_bipush (n := 8) ok rfl dX10_firstRain_3 ?_
      refine v_icmp_ge (tgt := 25) ok ⟨by omega, by omega⟩ (by decide) dX10_firstRain_5 (by decide) (fun c1 => ?_) (fun c1 => ?_)
      · skip
        have hr : fwt (M 79) 8 0 = -1 := by rw [i2_1, show (8 - h).toNat = 0 by omega]; rfl
        refine v_iconst (n := -1) ok dX10_firstRain_25 ?_
        exact v_iret ok rt dX10_firstRain_26 (⟨(congrArg (fun q : Int => some (iv q)) (show (-1) = (fwt (M 79) 8 0) from by (rw [hr]))), rfl⟩)
      · skip
        refine v_aload_n ok 0 dX10_firstRain_8 rfl rfl ?_
        refine v_get (T := TX10) (N := 22) (f0 := (M 78)) (v := rf g 79) ok mi_X10_firstRain_10 (kd_lt (show kd 78 = 10 from rfl) (by decide)) rfl rfl (cellF_10 _ (by decide)) 0 (by decide) mk_X10_firstRain_11 rfl rfl dX10_firstRain_9 ?_
        refine v_iload_n ok 1 dX10_firstRain_12 rfl rfl ?_
        refine v_iald (n := 90) (f0 := (M 79)) ok (by decide) rfl (by omega) rfl dX10_firstRain_13 ?_
        have b2 := hR h (by omega) (by omega)
        refine v_if_le (tgt := 19) ok ⟨by omega, by omega⟩ dX10_firstRain_14 (by decide) (fun c3 => ?_) (fun c3 => ?_)
        · skip
          have hb1 : fwt (M 79) 8 0 = fwt (M 79) (8 - (h + 1)).toNat (h + 1) := by rw [i2_1, nat_s (show h < 8 by omega), fwt_f (by omega)]
          refine v_iinc ok 1 [(1, iv (h + 1)), (0, rf g 78)] dX10_firstRain_19 rfl (by decide) rfl ?_
          refine v_goto (tgt := 2) ok dX10_firstRain_22 (by decide) ?_
          refine v_lv (ls' := [(0, rf g 78), (1, iv (h + 1))]) ok [1, 0] rfl ?_
          exact ih2 (h + 1) (by omega) hb1 (by omega)
        · skip
          have hr : fwt (M 79) 8 0 = h := by rw [i2_1, nat_s (show h < 8 by omega), fwt_t (by omega)]
          refine v_iload_n ok 1 dX10_firstRain_17 rfl rfl ?_
          exact v_iret ok rt dX10_firstRain_18 (⟨(congrArg (fun q : Int => some (iv q)) (show h = (fwt (M 79) 8 0) from by (rw [hr]))), rfl⟩)
  refine v_lv (ls' := [(0, rf g 78), (1, iv 0)]) ok [1, 0] rfl ?_
  exact lp2 _ 0 (by omega) rfl (Nat.lt_succ_self _)

theorem mk_X10_findsBack_36 : Cond.fieldLink RX10 36 "StormRunoffModel" "left" "[I" ∈ wsX10_findsBack := by decide +kernel
theorem mi_X10_findsBack_10 : ∀ w ∈ wsX100, w ∈ wsX10_findsBack := by decide +kernel
theorem mk_X10_findsBack_11 : Cond.fieldLink RX10 11 "StormRunoffModel" "w" "[I" ∈ wsX10_findsBack := by decide +kernel
theorem mk_X10_findsBack_42 : Cond.fieldLink RX10 42 "StormRunoffModel" "found" "[I" ∈ wsX10_findsBack := by decide +kernel
set_option maxRecDepth 100000 in
set_option maxHeartbeats 400000 in
theorem ct_X10_findsBack (l : Launch) (g : Gl) (M : Mem)  (hw : WOk (M 79)) : Ct l g yX10_findsBack wsX10_findsBack 1 22 [rf g 78] M (fun rv M' => ∃ (L U : Int → Int), rv = some (iv (fbR (tdW (M 79)) (M 79))) ∧ M' = (up1 (up1 M 87 L) 89 U) ∧ (fbR (tdW (M 79)) (M 79) = -6 → ∀ k : Int, 0 ≤ k → k < 5 → U k = dvQ (tdW (M 79)) (M 79) (fwt (M 79) 8 0) 8 k)) := by
  refine Ct.of (cc := cX10_findsBack) (nL := 4) (ret := (some .int)) (by decide) rfl (Nat.le_of_ble_eq_true rfl) (fun z hz ok rt => ?_)
  have ok : Ok z g cX10_findsBack 4 RX10 wsX10_findsBack 1 22 := ok
  show V z g 4 M [(0, rf g 78)] [] 0
  have hR := hw.1
  have hT := hw.2.1
  refine v_aload_n ok 0 dX10_findsBack_0 rfl rfl ?_
  refine v_callV (na := 0) (i := 78) (C := RX10) (T := TX10) (N := 22) (f0 := (M 78)) ok (ct_X10_firstRain z.2.1 g M  hR) gX10_findsBack_X10_firstRain (kd_lt (show kd 78 = 10 from rfl) (by decide)) rfl rfl (cellF_10 _ (by decide)) rfl (by decide +kernel) rfl (by decide) [] rfl (Nat.le_of_ble_eq_true rfl) dX10_findsBack_1 (fun v2 M3 hp1 => ?_)
  obtain ⟨rfl, eM3⟩ := hp1
  subst M3
  show V z g 4 M [(0, rf g 78)] [iv (fwt ((M 79)) 8 0)] 4
  have hfr := fwt_rng (R := M 79) 8 0 (by decide)
  refine v_istore_n ok [(1, iv (fwt ((M 79)) 8 0)), (0, rf g 78)] dX10_findsBack_4 rfl (by decide) rfl ?_
  refine v_iload_n ok 0 dX10_findsBack_5 rfl rfl ?_
  refine v_iconst (n := -1) ok dX10_findsBack_6 ?_
  refine v_icmp_ne (tgt := 13) ok ⟨by omega, by omega⟩ (by decide) dX10_findsBack_7 (by decide) (fun c4 => ?_) (fun c4 => ?_)
  · skip
    have hf0 : ¬ fwt (M 79) 8 0 < 0 := by omega
    have hf1 : fwt (M 79) 8 0 < 8 := by omega
    have hRf := hR (fwt (M 79) 8 0) (by omega) hf1
    refine v_aload_n ok 1 dX10_findsBack_13 rfl rfl ?_
    refine v_callV (na := 0) (i := 78) (C := RX10) (T := TX10) (N := 22) (f0 := (M 78)) ok (ct_X10_begins z.2.1 g M  ) gX10_findsBack_X10_begins (kd_lt (show kd 78 = 10 from rfl) (by decide)) rfl rfl (cellF_10 _ (by decide)) rfl (by decide +kernel) rfl (by decide) [] rfl (Nat.le_of_ble_eq_true rfl) dX10_findsBack_14 (fun v6 M7 hp5 => ?_)
    obtain ⟨rfl, rfl⟩ := hp5
    show V z g 4 (up1 M 87 (tdW ((M 79)))) [(1, iv (fwt ((M 79)) 8 0)), (0, rf g 78)] [] 17
    refine v_iconst (n := 0) ok dX10_findsBack_17 ?_
    refine v_istore_n ok [(2, iv 0), (1, iv (fwt ((M 79)) 8 0)), (0, rf g 78)] dX10_findsBack_18 rfl (by decide) rfl ?_
    have lp19 : ∀ (fu : Nat) (a : Int) (U : Int → Int), (0 ≤ a ∧ a ≤ 5) → (dvB (tdW (M 79)) (M 79) (fwt (M 79) 8 0) 8 9 5 0 = dvB (tdW (M 79)) (M 79) (fwt (M 79) 8 0) 8 9 (5 - a).toNat a.toNat) → (bdf (dvL (tdW (M 79)) (M 79) (fwt (M 79) 8 0) 8 a.toNat) 12 (-(180 * a)) 999) → (∀ j : Int, 0 ≤ j → j < a → U j = dvQ (tdW (M 79)) (M 79) (fwt (M 79) 8 0) 8 j) → (5 - a).toNat < fu → V z g 4 (up1 (up1 M 87 (dvL (tdW (M 79)) (M 79) (fwt (M 79) 8 0) 8 a.toNat)) 89 U) [(0, rf g 78), (1, iv (fwt (M 79) 8 0)), (2, iv a)] [] 19 := by
      intro fu
      induction fu with
      | zero => intro a U _ _ _ _ hm; exact absurd hm (Nat.not_lt_zero _)
      | succ fu ih19 =>
        intro a U i19_0 i19_1 i19_2 i19_3 hm19
        refine v_iload_n ok 2 dX10_findsBack_19 rfl rfl ?_
        refine v_iconst (n := 5) ok dX10_findsBack_20 ?_
        refine v_icmp_ge (tgt := 113) ok ⟨by omega, by omega⟩ (by decide) dX10_findsBack_21 (by decide) (fun c8 => ?_) (fun c8 => ?_)
        · skip
          have e5 : a.toNat = 5 := by omega
          have hb1 : dvB (tdW (M 79)) (M 79) (fwt (M 79) 8 0) 8 9 5 0 = -1 := by rw [i19_1, show (5 - a).toNat = 0 by omega]; rfl
          have hl8 : bdf (dvL (tdW (M 79)) (M 79) (fwt (M 79) 8 0) 8 5) 12 (-100000) 100000 := by
            intro j j0 j1
            have h9 := i19_2 j j0 j1
            rw [e5] at h9
            omega
          have hq5 : ∀ k : Int, 0 ≤ k → k < 5 → U k = dvQ (tdW (M 79)) (M 79) (fwt (M 79) 8 0) 8 k := fun k k0 k1 => i19_3 k k0 (by omega)
          have hu := fbR_b (T := tdW (M 79)) hf0 hb1
          have hr := rsc_rng (L := dvL (tdW (M 79)) (M 79) (fwt (M 79) 8 0) 8 5) 12 0 (by decide)
          have hrs : rst (dvL (tdW (M 79)) (M 79) (fwt (M 79) 8 0) 8 5) 0 = if 0 ≤ rsc (dvL (tdW (M 79)) (M 79) (fwt (M 79) 8 0) 8 5) 12 0 then rsc (dvL (tdW (M 79)) (M 79) (fwt (M 79) 8 0) 8 5) 12 0 else -5 := rfl
          rw [show ((up1 (up1 M 87 (dvL (tdW (M 79)) (M 79) (fwt (M 79) 8 0) 8 a.toNat)) 89 U) : Mem) = (up1 (up1 M 87 (dvL (tdW (M 79)) (M 79) (fwt (M 79) 8 0) 8 5)) 89 U) from (by rw [e5])]
          refine v_aload_n ok 0 dX10_findsBack_113 rfl rfl ?_
          refine v_iconst (n := 0) ok dX10_findsBack_114 ?_
          refine v_callV (na := 1) (i := 78) (C := RX10) (T := TX10) (N := 22) (f0 := (M 78)) ok (ct_X10_rest z.2.1 g (up1 (up1 M 87 (dvL (tdW (M 79)) (M 79) (fwt (M 79) 8 0) 8 5)) 89 U) 0 (by first | omega | assumption) hl8) gX10_findsBack_X10_rest (kd_lt (show kd 78 = 10 from rfl) (by decide)) rfl rfl (cellF_10 _ (by decide)) rfl (by decide +kernel) rfl (by decide) [] rfl (Nat.le_of_ble_eq_true rfl) dX10_findsBack_115 (fun v10 M11 hp9 => ?_)
          obtain ⟨rfl, rfl⟩ := hp9
          show V z g 4 (up1 (up1 M 87 (dvL (tdW (M 79)) (M 79) (fwt (M 79) 8 0) 8 5)) 89 U) [(0, rf g 78), (1, iv (fwt (M 79) 8 0)), (2, iv a)] [iv (rst ((dvL (tdW (M 79)) (M 79) (fwt (M 79) 8 0) 8 5)) 0)] 118
          have hr5 : rst (dvL (tdW (M 79)) (M 79) (fwt (M 79) 8 0) 8 5) 0 = rsc (dvL (tdW (M 79)) (M 79) (fwt (M 79) 8 0) 8 5) 12 0 ∧ 0 ≤ rsc (dvL (tdW (M 79)) (M 79) (fwt (M 79) 8 0) 8 5) 12 0 ∨ rst (dvL (tdW (M 79)) (M 79) (fwt (M 79) 8 0) 8 5) 0 = -5 ∧ ¬ 0 ≤ rsc (dvL (tdW (M 79)) (M 79) (fwt (M 79) 8 0) 8 5) 12 0 := by
            rw [hrs]
            by_cases c : 0 ≤ rsc (dvL (tdW (M 79)) (M 79) (fwt (M 79) 8 0) 8 5) 12 0
            · rw [if_pos c]; exact Or.inl ⟨rfl, c⟩
            · rw [if_neg c]; exact Or.inr ⟨rfl, c⟩
          refine v_istore_n ok [(2, iv (rst ((dvL (tdW (M 79)) (M 79) (fwt (M 79) 8 0) 8 5)) 0)), (0, rf g 78), (1, iv (fwt (M 79) 8 0))] dX10_findsBack_118 rfl (by decide) rfl ?_
          refine v_iload_n ok 0 dX10_findsBack_119 rfl rfl ?_
          refine v_bipush (n := -5) ok rfl dX10_findsBack_120 ?_
          refine v_icmp_ne (tgt := 130) ok ⟨by omega, by omega⟩ (by decide) dX10_findsBack_122 (by decide) (fun c12 => ?_) (fun c12 => ?_)
          · skip
            refine v_bipush (n := 10) ok rfl dX10_findsBack_130 ?_
            refine v_iload_n ok 0 dX10_findsBack_132 rfl rfl ?_
            refine v_iadd ok dX10_findsBack_133 ?_
            exact v_iret ok rt dX10_findsBack_134 (⟨(dvL (tdW (M 79)) (M 79) (fwt (M 79) 8 0) 8 5), U, (congrArg (fun q : Int => some (iv q)) (show (10 + (rst ((dvL (tdW (M 79)) (M 79) (fwt (M 79) 8 0) 8 5)) 0)) = (fbR (tdW (M 79)) (M 79)) from by (first | (rw [hu.1 (by omega)]; omega) | (rw [hu.2 (by omega)])))), rfl, (fun _ => hq5)⟩)
          · skip
            refine v_bipush (n := -6) ok rfl dX10_findsBack_125 ?_
            refine v_goto (tgt := 134) ok dX10_findsBack_127 (by decide) ?_
            exact v_iret ok rt dX10_findsBack_134 (⟨(dvL (tdW (M 79)) (M 79) (fwt (M 79) 8 0) 8 5), U, (congrArg (fun q : Int => some (iv q)) (show (-6) = (fbR (tdW (M 79)) (M 79)) from by (first | (rw [hu.1 (by omega)]; omega) | (rw [hu.2 (by omega)])))), rfl, (fun _ => hq5)⟩)
        · skip
          refine v_aload_n ok 0 dX10_findsBack_24 rfl rfl ?_
          refine v_get (T := TX10) (N := 22) (f0 := (M 78)) (v := rf g 87) ok mi_X10_findsBack_10 (kd_lt (show kd 78 = 10 from rfl) (by decide)) rfl rfl (cellF_10 _ (by decide)) 14 (by decide) mk_X10_findsBack_36 rfl rfl dX10_findsBack_25 ?_
          refine v_iload_n ok 1 dX10_findsBack_28 rfl rfl ?_
          refine v_iload_n ok 2 dX10_findsBack_29 rfl rfl ?_
          refine v_iadd ok dX10_findsBack_30 ?_
          have hv := i19_2 ((fwt (M 79) 8 0) + a) (by omega) (by omega)
          refine v_iald (n := 12) (f0 := (dvL (tdW (M 79)) (M 79) (fwt (M 79) 8 0) 8 a.toNat)) ok (by decide) rfl (by omega) rfl dX10_findsBack_31 ?_
          refine v_aload_n ok 0 dX10_findsBack_32 rfl rfl ?_
          refine v_get (T := TX10) (N := 22) (f0 := (M 78)) (v := rf g 79) ok mi_X10_findsBack_10 (kd_lt (show kd 78 = 10 from rfl) (by decide)) rfl rfl (cellF_10 _ (by decide)) 0 (by decide) mk_X10_findsBack_11 rfl rfl dX10_findsBack_33 ?_
          refine v_iload_n ok 1 dX10_findsBack_36 rfl rfl ?_
          refine v_iald (n := 90) (f0 := (M 79)) ok (by decide) rfl (by omega) rfl dX10_findsBack_37 ?_
          refine v_bipush (n := 9) ok rfl dX10_findsBack_38 ?_
          refine v_callS (na := 3) ok (ct_X10_isWhole z.2.1 g (up1 (up1 M 87 (dvL (tdW (M 79)) (M 79) (fwt (M 79) 8 0) 8 a.toNat)) 89 U) ((dvL (tdW (M 79)) (M 79) (fwt (M 79) 8 0) 8 a.toNat) ((fwt (M 79) 8 0) + a)) (M 79 (fwt (M 79) 8 0)) 9 ⟨by omega, by omega⟩ (by omega) (by decide)) gX10_findsBack_X10_isWhole rfl (by decide +kernel) rfl (by decide) [] rfl (Nat.le_of_ble_eq_true rfl) dX10_findsBack_40 (fun v14 M15 hp13 => ?_)
          rcases hp13 with ⟨rfl, rfl, h16⟩ | ⟨rfl, rfl, h17⟩
          · skip
            show V z g 4 (up1 (up1 M 87 (dvL (tdW (M 79)) (M 79) (fwt (M 79) 8 0) 8 a.toNat)) 89 U) [(0, rf g 78), (1, iv (fwt (M 79) 8 0)), (2, iv a)] [iv 1] 43
            have hw1 := h16
            have hq1 : 0 ≤ dvQ (tdW (M 79)) (M 79) (fwt (M 79) 8 0) 8 a ∧ dvQ (tdW (M 79)) (M 79) (fwt (M 79) 8 0) 8 a ≤ 9 := ⟨Int.ediv_nonneg (by omega) (by omega), hw1.2.2.2⟩
            have hq0 : 0 ≤ dvL (tdW (M 79)) (M 79) (fwt (M 79) 8 0) 8 a.toNat ((fwt (M 79) 8 0) + a) / M 79 (fwt (M 79) 8 0) := Int.ediv_nonneg (by omega) (by omega)
            have hb1 : dvB (tdW (M 79)) (M 79) (fwt (M 79) 8 0) 8 9 5 0 = dvB (tdW (M 79)) (M 79) (fwt (M 79) 8 0) 8 9 (5 - (a + 1)).toNat (a + 1).toNat := by rw [i19_1, nat_s (show a < 5 by omega), dvB_t i19_0.1 hw1]
            have hb2 : bdf (dvL (tdW (M 79)) (M 79) (fwt (M 79) 8 0) 8 (a + 1).toNat) 12 (-(180 * (a + 1))) 999 := by
              rw [dvL_s i19_0.1]
              intro j j0 j1
              have h9 := tkw_rng (f := a) (n := 8) (A := M 79) (t := dvQ (tdW (M 79)) (M 79) (fwt (M 79) 8 0) 8 a) i19_2 (fun k k0 k1 => prd_rng (x := M 79 k) hq0 hw1.2.2.2 (hR k k0 k1).1 (hR k k0 k1).2 (by decide) (by decide)) j j0 j1
              omega
            refine v_if_ne (tgt := 48) ok (by decide) dX10_findsBack_43 (by decide) (fun c18 => ?_) (fun c18 => absurd c18 (by decide))
            refine v_aload_n ok 0 dX10_findsBack_48 rfl rfl ?_
            refine v_get (T := TX10) (N := 22) (f0 := (M 78)) (v := rf g 89) ok mi_X10_findsBack_10 (kd_lt (show kd 78 = 10 from rfl) (by decide)) rfl rfl (cellF_10 _ (by decide)) 16 (by decide) mk_X10_findsBack_42 rfl rfl dX10_findsBack_49 ?_
            refine v_iload_n ok 2 dX10_findsBack_52 rfl rfl ?_
            refine v_aload_n ok 0 dX10_findsBack_53 rfl rfl ?_
            refine v_get (T := TX10) (N := 22) (f0 := (M 78)) (v := rf g 87) ok mi_X10_findsBack_10 (kd_lt (show kd 78 = 10 from rfl) (by decide)) rfl rfl (cellF_10 _ (by decide)) 14 (by decide) mk_X10_findsBack_36 rfl rfl dX10_findsBack_54 ?_
            refine v_iload_n ok 1 dX10_findsBack_57 rfl rfl ?_
            refine v_iload_n ok 2 dX10_findsBack_58 rfl rfl ?_
            refine v_iadd ok dX10_findsBack_59 ?_
            refine v_iald (n := 12) (f0 := (dvL (tdW (M 79)) (M 79) (fwt (M 79) 8 0) 8 a.toNat)) ok (by decide) rfl (by omega) rfl dX10_findsBack_60 ?_
            refine v_aload_n ok 0 dX10_findsBack_61 rfl rfl ?_
            refine v_get (T := TX10) (N := 22) (f0 := (M 78)) (v := rf g 79) ok mi_X10_findsBack_10 (kd_lt (show kd 78 = 10 from rfl) (by decide)) rfl rfl (cellF_10 _ (by decide)) 0 (by decide) mk_X10_findsBack_11 rfl rfl dX10_findsBack_62 ?_
            refine v_iload_n ok 1 dX10_findsBack_65 rfl rfl ?_
            refine v_iald (n := 90) (f0 := (M 79)) ok (by decide) rfl (by omega) rfl dX10_findsBack_66 ?_
            refine v_idiv ok (by omega) (by omega) dX10_findsBack_67 ?_
            rw [show ((((dvL (tdW (M 79)) (M 79) (fwt (M 79) 8 0) 8 a.toNat) ((fwt (M 79) 8 0) + a)) / (M 79 (fwt (M 79) 8 0))) : Int) = (dvQ (tdW (M 79)) (M 79) (fwt (M 79) 8 0) 8 a) from rfl]
            refine v_iast (n := 5) (f0 := U) ok (by decide) rfl (by omega) rfl dX10_findsBack_68 ?_
            rw [up1_up1]
            refine v_iconst (n := 0) ok dX10_findsBack_69 ?_
            refine v_istore_n ok [(3, iv 0), (0, rf g 78), (1, iv (fwt (M 79) 8 0)), (2, iv a)] dX10_findsBack_70 rfl (by decide) rfl ?_
            have lp71 : ∀ (fu : Nat) (k : Int) (G : Int → Int), (0 ≤ k ∧ k ≤ 8) → (∀ j : Int, 0 ≤ j → j < 12 → G j = tkw (dvL (tdW (M 79)) (M 79) (fwt (M 79) 8 0) 8 a.toNat) a (dvQ (tdW (M 79)) (M 79) (fwt (M 79) 8 0) 8 a) (M 79) k j) → (8 - k).toNat < fu → V z g 4 (up1 (up1 M 87 G) 89 (up U a (dvQ (tdW (M 79)) (M 79) (fwt (M 79) 8 0) 8 a))) [(0, rf g 78), (1, iv (fwt (M 79) 8 0)), (2, iv a), (3, iv k)] [] 71 := by
              intro fu
              induction fu with
              | zero => intro k G _ _ hm; exact absurd hm (Nat.not_lt_zero _)
              | succ fu ih71 =>
                intro k G i71_0 i71_1 hm71
                refine v_iload_n ok 3 dX10_findsBack_71 rfl rfl ?_
                refine v_bipush (n := 8) ok rfl dX10_findsBack_72 ?_
                refine v_icmp_ge (tgt := 107) ok ⟨by omega, by omega⟩ (by decide) dX10_findsBack_74 (by decide) (fun c19 => ?_) (fun c19 => ?_)
                · skip
                  rw [show ((up1 (up1 M 87 G) 89 (up U a (dvQ (tdW (M 79)) (M 79) (fwt (M 79) 8 0) 8 a))) : Mem) = (up1 (up1 M 89 (up U a (dvQ (tdW (M 79)) (M 79) (fwt (M 79) 8 0) 8 a))) 87 G) from (by
                        funext j
                        by_cases hj0 : j = 87
                        · subst hj0; simp [up1, up1_self]
                        by_cases hj1 : j = 89
                        · subst hj1; simp [up1, up1_self]
                        simp [up1, hj0, hj1])]
                  refine v_cong (n := 12) (dvL (tdW (M 79)) (M 79) (fwt (M 79) 8 0) 8 (a + 1).toNat) (Or.inl (by decide)) rfl (fun j j0 j1 => by rw [i71_1 j j0 j1, show k = 8 by omega, dvL_s i19_0.1]) ?_
                  rw [show ((up1 (up1 M 89 (up U a (dvQ (tdW (M 79)) (M 79) (fwt (M 79) 8 0) 8 a))) 87 (dvL (tdW (M 79)) (M 79) (fwt (M 79) 8 0) 8 (a + 1).toNat)) : Mem) = (up1 (up1 M 87 (dvL (tdW (M 79)) (M 79) (fwt (M 79) 8 0) 8 (a + 1).toNat)) 89 (up U a (dvQ (tdW (M 79)) (M 79) (fwt (M 79) 8 0) 8 a))) from (by
                        funext j
                        by_cases hj0 : j = 87
                        · subst hj0; simp [up1, up1_self]
                        by_cases hj1 : j = 89
                        · subst hj1; simp [up1, up1_self]
                        simp [up1, hj0, hj1])]
                  refine v_iinc ok 2 [(2, iv (a + 1)), (0, rf g 78), (1, iv (fwt (M 79) 8 0)), (3, iv k)] dX10_findsBack_107 rfl (by decide) rfl ?_
                  refine v_goto (tgt := 19) ok dX10_findsBack_110 (by decide) ?_
                  refine v_lv (ls' := [(0, rf g 78), (1, iv (fwt (M 79) 8 0)), (2, iv (a + 1))]) ok [1, 2, 0] rfl ?_
                  exact ih19 (a + 1) (up U a (dvQ (tdW (M 79)) (M 79) (fwt (M 79) 8 0) 8 a)) (by omega) hb1 hb2 (up_lt i19_3 rfl) (by omega)
                · skip
                  refine v_aload_n ok 0 dX10_findsBack_77 rfl rfl ?_
                  refine v_get (T := TX10) (N := 22) (f0 := (M 78)) (v := rf g 87) ok mi_X10_findsBack_10 (kd_lt (show kd 78 = 10 from rfl) (by decide)) rfl rfl (cellF_10 _ (by decide)) 14 (by decide) mk_X10_findsBack_36 rfl rfl dX10_findsBack_78 ?_
                  refine v_iload_n ok 3 dX10_findsBack_81 rfl rfl ?_
                  refine v_iload_n ok 2 dX10_findsBack_82 rfl rfl ?_
                  refine v_iadd ok dX10_findsBack_83 ?_
                  refine v_dup2 ok rfl rfl dX10_findsBack_84 ?_
                  refine v_iald (n := 12) (f0 := G) ok (by decide) rfl (by omega) rfl dX10_findsBack_85 ?_
                  refine v_aload_n ok 0 dX10_findsBack_86 rfl rfl ?_
                  refine v_get (T := TX10) (N := 22) (f0 := (M 78)) (v := rf g 89) ok mi_X10_findsBack_10 (kd_lt (show kd 78 = 10 from rfl) (by decide)) rfl rfl (cellF_10 _ (by decide)) 16 (by decide) mk_X10_findsBack_42 rfl rfl dX10_findsBack_87 ?_
                  refine v_iload_n ok 2 dX10_findsBack_90 rfl rfl ?_
                  refine v_iald (n := 5) (f0 := (up U a (dvQ (tdW (M 79)) (M 79) (fwt (M 79) 8 0) 8 a))) ok (by decide) rfl (by omega) rfl dX10_findsBack_91 ?_
                  rw [show (((up U a (dvQ (tdW (M 79)) (M 79) (fwt (M 79) 8 0) 8 a)) a) : Int) = (dvQ (tdW (M 79)) (M 79) (fwt (M 79) 8 0) 8 a) from (up_same _ _ _)]
                  refine v_aload_n ok 0 dX10_findsBack_92 rfl rfl ?_
                  refine v_get (T := TX10) (N := 22) (f0 := (M 78)) (v := rf g 79) ok mi_X10_findsBack_10 (kd_lt (show kd 78 = 10 from rfl) (by decide)) rfl rfl (cellF_10 _ (by decide)) 0 (by decide) mk_X10_findsBack_11 rfl rfl dX10_findsBack_93 ?_
                  refine v_iload_n ok 3 dX10_findsBack_96 rfl rfl ?_
                  refine v_iald (n := 90) (f0 := (M 79)) ok (by decide) rfl (by omega) rfl dX10_findsBack_97 ?_
                  refine v_imul ok dX10_findsBack_98 ?_
                  refine v_isub ok dX10_findsBack_99 ?_
                  refine v_iast (n := 12) (f0 := G) ok (by decide) rfl (by omega) rfl dX10_findsBack_100 ?_
                  rw [show (up1 (up1 (up1 M 87 G) 89 (up U a (dvQ (tdW (M 79)) (M 79) (fwt (M 79) 8 0) 8 a))) 87 (up G (k + a) ((G (k + a)) - ((dvQ (tdW (M 79)) (M 79) (fwt (M 79) 8 0) 8 a) * (M 79 k)))) : Mem) = (up1 (up1 M 87 (up G (k + a) ((G (k + a)) - ((dvQ (tdW (M 79)) (M 79) (fwt (M 79) 8 0) 8 a) * (M 79 k))))) 89 (up U a (dvQ (tdW (M 79)) (M 79) (fwt (M 79) 8 0) 8 a))) from (by
                        funext j
                        by_cases hj0 : j = 87
                        · subst hj0; simp [up1, up1_self]
                        by_cases hj1 : j = 89
                        · subst hj1; simp [up1, up1_self]
                        simp [up1, hj0, hj1])]
                  refine v_iinc ok 3 [(3, iv (k + 1)), (0, rf g 78), (1, iv (fwt (M 79) 8 0)), (2, iv a)] dX10_findsBack_101 rfl (by decide) rfl ?_
                  refine v_goto (tgt := 71) ok dX10_findsBack_104 (by decide) ?_
                  refine v_lv (ls' := [(0, rf g 78), (1, iv (fwt (M 79) 8 0)), (2, iv a), (3, iv (k + 1))]) ok [1, 2, 3, 0] rfl ?_
                  exact ih71 (k + 1) (up G (k + a) ((G (k + a)) - ((dvQ (tdW (M 79)) (M 79) (fwt (M 79) 8 0) 8 a) * (M 79 k)))) (by omega) (tkw_in2 i71_0.1 i71_1 (by omega) (by omega)) (by omega)
            refine v_lv (ls' := [(0, rf g 78), (1, iv (fwt (M 79) 8 0)), (2, iv a), (3, iv 0)]) ok [1, 2, 3, 0] rfl ?_
            exact lp71 _ 0 (dvL (tdW (M 79)) (M 79) (fwt (M 79) 8 0) 8 a.toNat) (by omega) (fun j _ _ => by unfold tkw; rw [if_neg (by omega)]) (Nat.lt_succ_self _)
          · skip
            show V z g 4 (up1 (up1 M 87 (dvL (tdW (M 79)) (M 79) (fwt (M 79) 8 0) 8 a.toNat)) 89 U) [(0, rf g 78), (1, iv (fwt (M 79) 8 0)), (2, iv a)] [iv 0] 43
            have hw1 := h17
            have hb1 : dvB (tdW (M 79)) (M 79) (fwt (M 79) 8 0) 8 9 5 0 = a := by rw [i19_1, nat_s (show a < 5 by omega), dvB_f i19_0.1 hw1]
            refine v_if_ne (tgt := 48) ok (by decide) dX10_findsBack_43 (by decide) (fun c20 => absurd c20 (by decide)) (fun c20 => ?_)
            refine v_iload_n ok 2 dX10_findsBack_46 rfl rfl ?_
            exact v_iret ok rt dX10_findsBack_47 (⟨(dvL (tdW (M 79)) (M 79) (fwt (M 79) 8 0) 8 a.toNat), U, (congrArg (fun q : Int => some (iv q)) (show a = (fbR (tdW (M 79)) (M 79)) from by (rw [fbR_a hf0 i19_0.1 hb1]))), rfl, (fun q => by rw [fbR_a hf0 i19_0.1 hb1] at q; omega)⟩)
    rw [show ((up1 M 87 (tdW ((M 79)))) : Mem) = (up1 (up1 M 87 (dvL (tdW (M 79)) (M 79) (fwt (M 79) 8 0) 8 (0 : Int).toNat)) 89 (M 89)) from (by funext j; by_cases hj0 : j = 87 <;> by_cases hj1 : j = 89 <;> simp_all [up1] <;> rfl)]
    refine v_lv (ls' := [(0, rf g 78), (1, iv (fwt ((M 79)) 8 0)), (2, iv 0)]) ok [2, 1, 0] rfl ?_
    exact lp19 _ 0 (M 89) (by omega) rfl hT (fun j _ _ => by omega) (Nat.lt_succ_self _)
  · skip
    have hfm : fwt (M 79) 8 0 = -1 := by omega
    refine v_bipush (n := -5) ok rfl dX10_findsBack_10 ?_
    exact v_iret ok rt dX10_findsBack_12 (⟨(M 87), (M 89), (congrArg (fun q : Int => some (iv q)) (show (-5) = (fbR (tdW (M 79)) (M 79)) from by (rw [fbR_n (by omega)]))), (by
          funext j
          by_cases hj0 : j = 87
          · subst hj0; simp [up1, up1_self]
          by_cases hj1 : j = 89
          · subst hj1; simp [up1, up1_self]
          simp [up1, hj0, hj1]), (fun q => by rw [fbR_n (by omega)] at q; omega)⟩)
