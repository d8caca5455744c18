set_option maxRecDepth 100000 in
set_option maxHeartbeats 400000 in
theorem ct_X10_flaw (l : Launch) (g : Gl) (M : Mem) (b : Int) (hb : i32 b) (hw : WOk (M 79)) : Ct l g yX10_flaw wsX10_flaw 2 46 [rf g 78, iv b] M (fun rv M' => (rv = some (iv (-1)) ∧ M' = M ∧ (¬ (0 ≤ b ∧ b < M 79 20))) ∨ (∃ (L U : Int → Int), rv = some (iv (unfR (tdW (M 79)) (bsA (M 79) b))) ∧ M' = (up1 (up1 M 87 L) 88 U) ∧ (0 ≤ b ∧ b < M 79 20))) := by
  refine Ct.of (cc := cX10_flaw) (nL := 2) (ret := (some .int)) (by decide) rfl (Nat.le_of_ble_eq_true rfl) (fun z hz ok rt => ?_)
  have ok : Ok z g cX10_flaw 2 RX10 wsX10_flaw 2 46 := ok
  show V z g 2 M [(0, rf g 78), (1, iv b)] [] 0
  have hm := hw.2.2.1
  refine v_aload_n ok 0 dX10_flaw_0 rfl rfl ?_
  refine v_iload_n ok 1 dX10_flaw_1 rfl rfl ?_
  refine v_callV (na := 1) (i := 78) (C := RX10) (T := TX10) (N := 22) (f0 := (M 78)) ok (ct_X10_isBasin z.2.1 g M b ⟨by omega, by omega⟩ (by first | omega | assumption)) gX10_flaw_X10_isBasin (kd_lt (show kd 78 = 10 from rfl) (by decide)) rfl rfl (cellF_10 _ (by decide)) rfl (by decide +kernel) rfl (by decide) [] rfl (Nat.le_of_ble_eq_true rfl) dX10_flaw_2 (fun v2 M3 hp1 => ?_)
  rcases hp1 with ⟨rfl, eM3, h4⟩ | ⟨rfl, eM3, h5⟩
  · skip
    subst M3
    have h4 : 0 ≤ b ∧ b < (M 79) 20 := h4
    show V z g 2 M [(0, rf g 78), (1, iv b)] [iv 1] 5
    refine v_if_eq (tgt := 16) ok (by decide) dX10_flaw_5 (by decide) (fun c6 => absurd c6 (by decide)) (fun c6 => ?_)
    refine v_aload_n ok 0 dX10_flaw_8 rfl rfl ?_
    refine v_iload_n ok 1 dX10_flaw_9 rfl rfl ?_
    refine v_callV (na := 1) (i := 78) (C := RX10) (T := TX10) (N := 22) (f0 := (M 78)) ok (ct_X10_unfolds z.2.1 g M b (by omega) (by first | omega | assumption) (hw.2.2.2.2 b (by omega) (by omega))) gX10_flaw_X10_unfolds (kd_lt (show kd 78 = 10 from rfl) (by decide)) rfl rfl (cellF_10 _ (by decide)) rfl (by decide +kernel) rfl (by decide) [] rfl (Nat.le_of_ble_eq_true rfl) dX10_flaw_10 (fun v8 M9 hp7 => ?_)
    obtain ⟨L10, U11, rfl, rfl, h12⟩ := hp7
    have h12 : unfR (tdW ((M 79))) (bsA ((M 79)) b) = -5 → ∀ k : Int, 0 ≤ k → k < 8 → U11 k = dvQ (tdW ((M 79))) (bsA ((M 79)) b) 0 5 k := h12
    show V z g 2 (up1 (up1 M 87 L10) 88 U11) [(0, rf g 78), (1, iv b)] [iv (unfR (tdW ((M 79))) (bsA ((M 79)) b))] 13
    refine v_goto (tgt := 17) ok dX10_flaw_13 (by decide) ?_
    exact v_iret ok rt dX10_flaw_17 (Or.inr (⟨L10, U11, (congrArg (fun q : Int => some (iv q)) (show (unfR (tdW ((M 79))) (bsA ((M 79)) b)) = (unfR (tdW (M 79)) (bsA (M 79) b)) from by rfl)), rfl, (by omega)⟩))
  · skip
    subst M3
    have h5 : ¬ (0 ≤ b ∧ b < (M 79) 20) := h5
    show V z g 2 M [(0, rf g 78), (1, iv b)] [iv 0] 5
    refine v_if_eq (tgt := 16) ok (by decide) dX10_flaw_5 (by decide) (fun c13 => ?_) (fun c13 => absurd c13 (by decide))
    refine v_iconst (n := -1) ok dX10_flaw_16 ?_
    exact v_iret ok rt dX10_flaw_17 (Or.inl (⟨rfl, rfl, (by omega)⟩))

theorem mk_X10_unfold_39 : Cond.fieldLink RX10 39 "StormRunoffModel" "unfolded" "[I" ∈ wsX10_unfold := by decide +kernel
theorem mi_X10_unfold_10 : ∀ w ∈ wsX100, w ∈ wsX10_unfold := by decide +kernel
set_option maxRecDepth 100000 in
set_option maxHeartbeats 400000 in
theorem ct_X10_unfold (l : Launch) (g : Gl) (M : Mem) (b h : Int) (hb : i32 b) (hh : i32 h) (hw : WOk (M 79)) : Ct l g yX10_unfold wsX10_unfold 2 46 [rf g 78, iv b, iv h] M (fun rv M' => (rv = some (iv (-1)) ∧ M' = M ∧ (¬ (0 ≤ b ∧ b < M 79 20) ∨ ¬ (0 ≤ h ∧ h ≤ 7))) ∨ (∃ (L U : Int → Int), rv = some (iv (-3)) ∧ M' = (up1 (up1 M 87 L) 88 U) ∧ (0 ≤ b ∧ b < M 79 20) ∧ (0 ≤ h ∧ h ≤ 7) ∧ (unfR (tdW (M 79)) (bsA (M 79) b) ≠ -5)) ∨ (∃ (L U : Int → Int), rv = some (iv (dvQ (tdW (M 79)) (bsA (M 79) b) 0 5 h)) ∧ M' = (up1 (up1 M 87 L) 88 U) ∧ (0 ≤ b ∧ b < M 79 20) ∧ (0 ≤ h ∧ h ≤ 7) ∧ (unfR (tdW (M 79)) (bsA (M 79) b) = -5))) := by
  refine Ct.of (cc := cX10_unfold) (nL := 3) (ret := (some .int)) (by decide) rfl (Nat.le_of_ble_eq_true rfl) (fun z hz ok rt => ?_)
  have ok : Ok z g cX10_unfold 3 RX10 wsX10_unfold 2 46 := ok
  show V z g 3 M [(0, rf g 78), (1, iv b), (2, iv h)] [] 0
  have hm := hw.2.2.1
  refine v_aload_n ok 0 dX10_unfold_0 rfl rfl ?_
  refine v_iload_n ok 1 dX10_unfold_1 rfl rfl ?_
  refine v_callV (na := 1) (i := 78) (C := RX10) (T := TX10) (N := 22) (f0 := (M 78)) ok (ct_X10_isBasin z.2.1 g M b ⟨by omega, by omega⟩ (by first | omega | assumption)) gX10_unfold_X10_isBasin (kd_lt (show kd 78 = 10 from rfl) (by decide)) rfl rfl (cellF_10 _ (by decide)) rfl (by decide +kernel) rfl (by decide) [] rfl (Nat.le_of_ble_eq_true rfl) dX10_unfold_2 (fun v2 M3 hp1 => ?_)
  rcases hp1 with ⟨rfl, eM3, h4⟩ | ⟨rfl, eM3, h5⟩
  · skip
    subst M3
    have h4 : 0 ≤ b ∧ b < (M 79) 20 := h4
    show V z g 3 M [(0, rf g 78), (1, iv b), (2, iv h)] [iv 1] 5
    refine v_if_eq (tgt := 15) ok (by decide) dX10_unfold_5 (by decide) (fun c6 => absurd c6 (by decide)) (fun c6 => ?_)
    refine v_iload_n ok 2 dX10_unfold_8 rfl rfl ?_
    refine v_callS (na := 1) ok (ct_X10_isRain z.2.1 g M h ⟨by omega, by omega⟩) gX10_unfold_X10_isRain rfl (by decide +kernel) rfl (by decide) [] rfl (Nat.le_of_ble_eq_true rfl) dX10_unfold_9 (fun v8 M9 hp7 => ?_)
    rcases hp7 with ⟨rfl, eM9, h10⟩ | ⟨rfl, eM9, h11⟩
    · skip
      subst M9
      show V z g 3 M [(0, rf g 78), (1, iv b), (2, iv h)] [iv 1] 12
      refine v_if_ne (tgt := 17) ok (by decide) dX10_unfold_12 (by decide) (fun c12 => ?_) (fun c12 => absurd c12 (by decide))
      refine v_aload_n ok 0 dX10_unfold_17 rfl rfl ?_
      refine v_iload_n ok 1 dX10_unfold_18 rfl rfl ?_
      refine v_callV (na := 1) (i := 78) (C := RX10) (T := TX10) (N := 22) (f0 := (M 78)) ok (ct_X10_unfolds z.2.1 g M b (by omega) (by first | omega | assumption) (hw.2.2.2.2 b (by omega) (by omega))) gX10_unfold_X10_unfolds (kd_lt (show kd 78 = 10 from rfl) (by decide)) rfl rfl (cellF_10 _ (by decide)) rfl (by decide +kernel) rfl (by decide) [] rfl (Nat.le_of_ble_eq_true rfl) dX10_unfold_19 (fun v14 M15 hp13 => ?_)
      obtain ⟨L16, U17, rfl, rfl, h18⟩ := hp13
      have h18 : unfR (tdW ((M 79))) (bsA ((M 79)) b) = -5 → ∀ k : Int, 0 ≤ k → k < 8 → U17 k = dvQ (tdW ((M 79))) (bsA ((M 79)) b) 0 5 k := h18
      show V z g 3 (up1 (up1 M 87 L16) 88 U17) [(0, rf g 78), (1, iv b), (2, iv h)] [iv (unfR (tdW ((M 79))) (bsA ((M 79)) b))] 22
      have hur := unfR_rng (tdW (M 79)) (bsA (M 79) b)
      have hu5 := h18
      refine v_bipush (n := -5) ok rfl dX10_unfold_22 ?_
      refine v_icmp_ne (tgt := 36) ok ⟨by omega, by omega⟩ (by decide) dX10_unfold_24 (by decide) (fun c19 => ?_) (fun c19 => ?_)
      · skip
        refine v_bipush (n := -3) ok rfl dX10_unfold_36 ?_
        exact v_iret ok rt dX10_unfold_38 (Or.inr (Or.inl (⟨L16, U17, rfl, rfl, (by omega), (by omega), (by omega)⟩)))
      · skip
        have hu6 := hu5 (by omega)
        refine v_cong (n := 8) (dvQ (tdW (M 79)) (bsA (M 79) b) 0 5) (Or.inl (by decide)) rfl (fun k k0 k1 => hu6 k k0 k1) ?_
        refine v_aload_n ok 0 dX10_unfold_27 rfl rfl ?_
        refine v_get (T := TX10) (N := 22) (f0 := (M 78)) (v := rf g 88) ok mi_X10_unfold_10 (kd_lt (show kd 78 = 10 from rfl) (by decide)) rfl rfl (cellF_10 _ (by decide)) 15 (by decide) mk_X10_unfold_39 rfl rfl dX10_unfold_28 ?_
        refine v_iload_n ok 2 dX10_unfold_31 rfl rfl ?_
        refine v_iald (n := 8) (f0 := (dvQ (tdW (M 79)) (bsA (M 79) b) 0 5)) ok (by decide) rfl (by omega) rfl dX10_unfold_32 ?_
        refine v_goto (tgt := 38) ok dX10_unfold_33 (by decide) ?_
        exact v_iret ok rt dX10_unfold_38 (Or.inr (Or.inr (⟨L16, (dvQ (tdW (M 79)) (bsA (M 79) b) 0 5), (congrArg (fun q : Int => some (iv q)) (show ((dvQ (tdW (M 79)) (bsA (M 79) b) 0 5) h) = (dvQ (tdW (M 79)) (bsA (M 79) b) 0 5 h) from by rfl)), rfl, (by omega), (by omega), (by omega)⟩)))
    · skip
      subst M9
      show V z g 3 M [(0, rf g 78), (1, iv b), (2, iv h)] [iv 0] 12
      refine v_if_ne (tgt := 17) ok (by decide) dX10_unfold_12 (by decide) (fun c20 => absurd c20 (by decide)) (fun c20 => ?_)
      refine v_iconst (n := -1) ok dX10_unfold_15 ?_
      exact v_iret ok rt dX10_unfold_16 (Or.inl (⟨rfl, rfl, (by omega)⟩))
  · skip
    subst M3
    have h5 : ¬ (0 ≤ b ∧ b < (M 79) 20) := h5
    show V z g 3 M [(0, rf g 78), (1, iv b), (2, iv h)] [iv 0] 5
    refine v_if_eq (tgt := 15) ok (by decide) dX10_unfold_5 (by decide) (fun c21 => ?_) (fun c21 => absurd c21 (by decide))
    refine v_iconst (n := -1) ok dX10_unfold_15 ?_
    exact v_iret ok rt dX10_unfold_16 (Or.inl (⟨rfl, rfl, (by omega)⟩))

theorem mk_X10_take_11 : Cond.fieldLink RX10 11 "StormRunoffModel" "w" "[I" ∈ wsX10_take := by decide +kernel
theorem mi_X10_take_10 : ∀ w ∈ wsX100, w ∈ wsX10_take := by decide +kernel
theorem mk_X10_take_39 : Cond.fieldLink RX10 39 "StormRunoffModel" "unfolded" "[I" ∈ wsX10_take := by decide +kernel
set_option maxRecDepth 100000 in
set_option maxHeartbeats 400000 in
theorem ct_X10_take (l : Launch) (g : Gl) (M : Mem) (b : Int) (hb : i32 b) (hw : WOk (M 79)) : Ct l g yX10_take wsX10_take 2 46 [rf g 78, iv b] M (fun rv M' => (rv = some (iv (-1)) ∧ M' = M ∧ (¬ (0 ≤ b ∧ b < M 79 20))) ∨ (∃ (L U : Int → Int), rv = some (iv (-3)) ∧ M' = (up1 (up1 M 87 L) 88 U) ∧ (0 ≤ b ∧ b < M 79 20) ∧ (unfR (tdW (M 79)) (bsA (M 79) b) ≠ -5)) ∨ (∃ (L U : Int → Int), rv = some (iv (sumf (dvQ (tdW (M 79)) (bsA (M 79) b) 0 5) 8)) ∧ M' = (up1 (up1 (up1 M 87 L) 88 U) 79 (lay (dvQ (tdW (M 79)) (bsA (M 79) b) 0 5) (M 79))) ∧ (0 ≤ b ∧ b < M 79 20) ∧ (unfR (tdW (M 79)) (bsA (M 79) b) = -5))) := by
  refine Ct.of (cc := cX10_take) (nL := 4) (ret := (some .int)) (by decide) rfl (Nat.le_of_ble_eq_true rfl) (fun z hz ok rt => ?_)
  have ok : Ok z g cX10_take 4 RX10 wsX10_take 2 46 := ok
  show V z g 4 M [(0, rf g 78), (1, iv b)] [] 0
  have hm := hw.2.2.1
  refine v_aload_n ok 0 dX10_take_0 rfl rfl ?_
  refine v_iload_n ok 1 dX10_take_1 rfl rfl ?_
  refine v_callV (na := 1) (i := 78) (C := RX10) (T := TX10) (N := 22) (f0 := (M 78)) ok (ct_X10_isBasin z.2.1 g M b ⟨by omega, by omega⟩ (by first | omega | assumption)) gX10_take_X10_isBasin (kd_lt (show kd 78 = 10 from rfl) (by decide)) rfl rfl (cellF_10 _ (by decide)) rfl (by decide +kernel) rfl (by decide) [] rfl (Nat.le_of_ble_eq_true rfl) dX10_take_2 (fun v2 M3 hp1 => ?_)
  rcases hp1 with ⟨rfl, eM3, h4⟩ | ⟨rfl, eM3, h5⟩
  · skip
    subst M3
    have h4 : 0 ≤ b ∧ b < (M 79) 20 := h4
    show V z g 4 M [(0, rf g 78), (1, iv b)] [iv 1] 5
    refine v_if_ne (tgt := 10) ok (by decide) dX10_take_5 (by decide) (fun c6 => ?_) (fun c6 => absurd c6 (by decide))
    refine v_aload_n ok 0 dX10_take_10 rfl rfl ?_
    refine v_iload_n ok 1 dX10_take_11 rfl rfl ?_
    refine v_callV (na := 1) (i := 78) (C := RX10) (T := TX10) (N := 22) (f0 := (M 78)) ok (ct_X10_unfolds z.2.1 g M b (by omega) (by first | omega | assumption) (hw.2.2.2.2 b (by omega) (by omega))) gX10_take_X10_unfolds (kd_lt (show kd 78 = 10 from rfl) (by decide)) rfl rfl (cellF_10 _ (by decide)) rfl (by decide +kernel) rfl (by decide) [] rfl (Nat.le_of_ble_eq_true rfl) dX10_take_12 (fun v8 M9 hp7 => ?_)
    obtain ⟨L10, U11, rfl, rfl, h12⟩ := hp7
    have h12 : unfR (tdW ((M 79))) (bsA ((M 79)) b) = -5 → ∀ k : Int, 0 ≤ k → k < 8 → U11 k = dvQ (tdW ((M 79))) (bsA ((M 79)) b) 0 5 k := h12
    show V z g 4 (up1 (up1 M 87 L10) 88 U11) [(0, rf g 78), (1, iv b)] [iv (unfR (tdW ((M 79))) (bsA ((M 79)) b))] 15
    have hur := unfR_rng (tdW (M 79)) (bsA (M 79) b)
    have hu5 := h12
    refine v_bipush (n := -5) ok rfl dX10_take_15 ?_
    refine v_icmp_eq (tgt := 23) ok ⟨by omega, by omega⟩ (by decide) dX10_take_17 (by decide) (fun c13 => ?_) (fun c13 => ?_)
    · skip
      have hu7 : unfR (tdW (M 79)) (bsA (M 79) b) = -5 := by omega
      have hu6 := hu5 hu7
      refine v_cong (n := 8) (dvQ (tdW (M 79)) (bsA (M 79) b) 0 5) (Or.inl (by decide)) rfl (fun k k0 k1 => hu6 k k0 k1) ?_
      refine v_iconst (n := 0) ok dX10_take_23 ?_
      refine v_istore_n ok [(2, iv 0), (0, rf g 78), (1, iv b)] dX10_take_24 rfl (by decide) rfl ?_
      refine v_iconst (n := 0) ok dX10_take_25 ?_
      refine v_istore_n ok [(3, iv 0), (2, iv 0), (0, rf g 78), (1, iv b)] dX10_take_26 rfl (by decide) rfl ?_
      have lp27 : ∀ (fu : Nat) (h q : Int) (L G : Int → Int), (0 ≤ h ∧ h ≤ 8) → (∀ j : Int, G j = if 0 ≤ j ∧ j < h then dvQ (tdW (M 79)) (bsA (M 79) b) 0 5 j else M 79 j) → (q = sumf (dvQ (tdW (M 79)) (bsA (M 79) b) 0 5) h.toNat) → (8 - h).toNat < fu → V z g 4 (up1 (up1 (up1 M 87 L) 88 (dvQ (tdW (M 79)) (bsA (M 79) b) 0 5)) 79 G) [(0, rf g 78), (1, iv b), (2, iv q), (3, iv h)] [] 27 := by
        intro fu
        induction fu with
        | zero => intro h q L G _ _ _ hm; exact absurd hm (Nat.not_lt_zero _)
        | succ fu ih27 =>
          intro h q L G i27_0 i27_1 i27_2 hm27
          refine v_iload_n ok 3 dX10_take_27 rfl rfl ?_
          refine v_bipush (n := 8) ok rfl dX10_take_28 ?_
          refine v_icmp_ge (tgt := 60) ok ⟨by omega, by omega⟩ (by decide) dX10_take_30 (by decide) (fun c14 => ?_) (fun c14 => ?_)
          · skip
            have e8 : h.toNat = 8 := by omega
            refine v_cong (n := 90) (lay (dvQ (tdW (M 79)) (bsA (M 79) b) 0 5) (M 79)) (Or.inl (by decide)) rfl (fun j j0 j1 => by rw [i27_1 j, show h = 8 by omega]; rfl) ?_
            refine v_iload_n ok 2 dX10_take_60 rfl rfl ?_
            exact v_iret ok rt dX10_take_61 (Or.inr (Or.inr (⟨L, (dvQ (tdW (M 79)) (bsA (M 79) b) 0 5), (congrArg (fun q : Int => some (iv q)) (show q = (sumf (dvQ (tdW (M 79)) (bsA (M 79) b) 0 5) 8) from by (rw [i27_2, e8]))), rfl, (by omega), hu7⟩)))
          · skip
            refine v_aload_n ok 0 dX10_take_33 rfl rfl ?_
            refine v_get (T := TX10) (N := 22) (f0 := (M 78)) (v := rf g 79) ok mi_X10_take_10 (kd_lt (show kd 78 = 10 from rfl) (by decide)) rfl rfl (cellF_10 _ (by decide)) 0 (by decide) mk_X10_take_11 rfl rfl dX10_take_34 ?_
            refine v_iload_n ok 3 dX10_take_37 rfl rfl ?_
            refine v_aload_n ok 0 dX10_take_38 rfl rfl ?_
            refine v_get (T := TX10) (N := 22) (f0 := (M 78)) (v := rf g 88) ok mi_X10_take_10 (kd_lt (show kd 78 = 10 from rfl) (by decide)) rfl rfl (cellF_10 _ (by decide)) 15 (by decide) mk_X10_take_39 rfl rfl dX10_take_39 ?_
            refine v_iload_n ok 3 dX10_take_42 rfl rfl ?_
            refine v_iald (n := 8) (f0 := (dvQ (tdW (M 79)) (bsA (M 79) b) 0 5)) ok (by decide) rfl (by omega) rfl dX10_take_43 ?_
            refine v_iast (n := 90) (f0 := G) ok (by decide) rfl (by omega) rfl dX10_take_44 ?_
            rw [up1_up1]
            refine v_iload_n ok 2 dX10_take_45 rfl rfl ?_
            refine v_aload_n ok 0 dX10_take_46 rfl rfl ?_
            refine v_get (T := TX10) (N := 22) (f0 := (M 78)) (v := rf g 88) ok mi_X10_take_10 (kd_lt (show kd 78 = 10 from rfl) (by decide)) rfl rfl (cellF_10 _ (by decide)) 15 (by decide) mk_X10_take_39 rfl rfl dX10_take_47 ?_
            refine v_iload_n ok 3 dX10_take_50 rfl rfl ?_
            refine v_iald (n := 8) (f0 := (dvQ (tdW (M 79)) (bsA (M 79) b) 0 5)) ok (by decide) rfl (by omega) rfl dX10_take_51 ?_
            refine v_iadd ok dX10_take_52 ?_
            refine v_istore_n ok [(2, iv (q + ((dvQ (tdW (M 79)) (bsA (M 79) b) 0 5) h))), (0, rf g 78), (1, iv b), (3, iv h)] dX10_take_53 rfl (by decide) rfl ?_
            refine v_iinc ok 3 [(3, iv (h + 1)), (2, iv (q + ((dvQ (tdW (M 79)) (bsA (M 79) b) 0 5) h))), (0, rf g 78), (1, iv b)] dX10_take_54 rfl (by decide) rfl ?_
            refine v_goto (tgt := 27) ok dX10_take_57 (by decide) ?_
            refine v_lv (ls' := [(0, rf g 78), (1, iv b), (2, iv (q + ((dvQ (tdW (M 79)) (bsA (M 79) b) 0 5) h))), (3, iv (h + 1))]) ok [2, 3, 1, 0] rfl ?_
            exact ih27 (h + 1) (q + ((dvQ (tdW (M 79)) (bsA (M 79) b) 0 5) h)) L (up G h ((dvQ (tdW (M 79)) (bsA (M 79) b) 0 5) h)) (by omega) (fun j => by
              by_cases e : j = h
              · rw [e, up_same, if_pos (by omega)]
              · rw [up_ne e, i27_1 j]
                by_cases c : 0 ≤ j ∧ j < h
                · rw [if_pos c, if_pos (by omega)]
                · rw [if_neg c, if_neg (by omega)]) (by rw [sumf_s i27_0.1, i27_2]) (by omega)
      rw [show ((up1 (up1 M 87 L10) 88 (dvQ (tdW (M 79)) (bsA (M 79) b) 0 5)) : Mem) = (up1 (up1 (up1 M 87 L10) 88 (dvQ (tdW (M 79)) (bsA (M 79) b) 0 5)) 79 (M 79)) from (by funext j; by_cases hj0 : j = 79 <;> by_cases hj1 : j = 87 <;> by_cases hj2 : j = 88 <;> simp_all [up1])]
      refine v_lv (ls' := [(0, rf g 78), (1, iv b), (2, iv 0), (3, iv 0)]) ok [2, 3, 1, 0] rfl ?_
      exact lp27 _ 0 0 L10 (M 79) (by omega) (fun j => by rw [if_neg (by omega)]) rfl (Nat.lt_succ_self _)
    · skip
      refine v_bipush (n := -3) ok rfl dX10_take_20 ?_
      exact v_iret ok rt dX10_take_22 (Or.inr (Or.inl (⟨L10, U11, rfl, rfl, (by omega), (by omega)⟩)))
  · skip
    subst M3
    have h5 : ¬ (0 ≤ b ∧ b < (M 79) 20) := h5
    show V z g 4 M [(0, rf g 78), (1, iv b)] [iv 0] 5
    refine v_if_ne (tgt := 10) ok (by decide) dX10_take_5 (by decide) (fun c15 => absurd c15 (by decide)) (fun c15 => ?_)
    refine v_iconst (n := -1) ok dX10_take_8 ?_
    exact v_iret ok rt dX10_take_9 (Or.inl (⟨rfl, rfl, (by omega)⟩))

set_option maxRecDepth 100000 in
set_option maxHeartbeats 400000 in
theorem ct_X10_backFlaw (l : Launch) (g : Gl) (M : Mem)  (hw : WOk (M 79)) : Ct l g yX10_backFlaw wsX10_backFlaw 2 45 [rf g 78] M (fun rv M' => ∃ (L U : Int → Int), rv = some (iv (fbR (tdW (M 79)) (M 79))) ∧ M' = (up1 (up1 M 87 L) 89 U)) := by
  refine Ct.of (cc := cX10_backFlaw) (nL := 1) (ret := (some .int)) (by decide) rfl (Nat.le_of_ble_eq_true rfl) (fun z hz ok rt => ?_)
  have ok : Ok z g cX10_backFlaw 1 RX10 wsX10_backFlaw 2 45 := ok
  show V z g 1 M [(0, rf g 78)] [] 0
  refine v_aload_n ok 0 dX10_backFlaw_0 rfl rfl ?_
  refine v_callV (na := 0) (i := 78) (C := RX10) (T := TX10) (N := 22) (f0 := (M 78)) ok (ct_X10_findsBack z.2.1 g M  (by first | omega | assumption)) gX10_backFlaw_X10_findsBack (kd_lt (show kd 78 = 10 from rfl) (by decide)) rfl rfl (cellF_10 _ (by decide)) rfl (by decide +kernel) rfl (by decide) [] rfl (Nat.le_of_ble_eq_true rfl) dX10_backFlaw_1 (fun v2 M3 hp1 => ?_)
  obtain ⟨L4, U5, rfl, rfl, h6⟩ := hp1
  have h6 : fbR (tdW ((M 79))) ((M 79)) = -6 → ∀ k : Int, 0 ≤ k → k < 5 → U5 k = dvQ (tdW ((M 79))) ((M 79)) (fwt ((M 79)) 8 0) 8 k := h6
  show V z g 1 (up1 (up1 M 87 L4) 89 U5) [(0, rf g 78)] [iv (fbR (tdW ((M 79))) ((M 79)))] 4
  exact v_iret ok rt dX10_backFlaw_4 (⟨L4, U5, (congrArg (fun q : Int => some (iv q)) (show (fbR (tdW ((M 79))) ((M 79))) = (fbR (tdW (M 79)) (M 79)) from by omega)), rfl⟩)

theorem mk_X10_back_84 : Cond.constantLong RX10 84 (4) ∈ wsX10_back := by decide +kernel
theorem mk_X10_back_42 : Cond.fieldLink RX10 42 "StormRunoffModel" "found" "[I" ∈ wsX10_back := by decide +kernel
theorem mi_X10_back_10 : ∀ w ∈ wsX100, w ∈ wsX10_back := by decide +kernel
set_option maxRecDepth 100000 in
set_option maxHeartbeats 400000 in
theorem ct_X10_back (l : Launch) (g : Gl) (M : Mem) (p : Int) (hp : i32 p) (hw : WOk (M 79)) : Ct l g yX10_back wsX10_back 2 45 [rf g 78, iv p] M (fun rv M' => (rv = some (iv (-1)) ∧ M' = M ∧ (¬ (0 ≤ p ∧ p ≤ 4))) ∨ (∃ (L U : Int → Int), rv = some (iv (-3)) ∧ M' = (up1 (up1 M 87 L) 89 U) ∧ (0 ≤ p ∧ p ≤ 4) ∧ (fbR (tdW (M 79)) (M 79) ≠ -6)) ∨ (∃ (L U : Int → Int), rv = some (iv (dvQ (tdW (M 79)) (M 79) (fwt (M 79) 8 0) 8 p)) ∧ M' = (up1 (up1 M 87 L) 89 U) ∧ (0 ≤ p ∧ p ≤ 4) ∧ (fbR (tdW (M 79)) (M 79) = -6))) := by
  refine Ct.of (cc := cX10_back) (nL := 2) (ret := (some .int)) (by decide) rfl (Nat.le_of_ble_eq_true rfl) (fun z hz ok rt => ?_)
  have ok : Ok z g cX10_back 2 RX10 wsX10_back 2 45 := ok
  show V z g 2 M [(0, rf g 78), (1, iv p)] [] 0
  refine v_iload_n ok 1 dX10_back_0 rfl rfl ?_
  refine v_i2l ok ⟨by omega, by omega⟩ dX10_back_1 ?_
  refine v_lconst (n := 0) ok rfl dX10_back_2 ?_
  refine v_ldc2 (n := 4) ok mk_X10_back_84 rfl dX10_back_3 ?_
  refine v_callS (na := 3) ok (ct_X10_in z.2.1 g M p 0 4 ⟨by omega, by omega⟩ (by decide) (by decide)) gX10_back_X10_in rfl (by decide +kernel) rfl (by decide) [] rfl (Nat.le_of_ble_eq_true rfl) dX10_back_6 (fun v2 M3 hp1 => ?_)
  rcases hp1 with ⟨rfl, eM3, h4⟩ | ⟨rfl, eM3, h5⟩
  · skip
    subst M3
    show V z g 2 M [(0, rf g 78), (1, iv p)] [iv 1] 9
    refine v_if_ne (tgt := 14) ok (by decide) dX10_back_9 (by decide) (fun c6 => ?_) (fun c6 => absurd c6 (by decide))
    refine v_aload_n ok 0 dX10_back_14 rfl rfl ?_
    refine v_callV (na := 0) (i := 78) (C := RX10) (T := TX10) (N := 22) (f0 := (M 78)) ok (ct_X10_findsBack z.2.1 g M  (by first | omega | assumption)) gX10_back_X10_findsBack (kd_lt (show kd 78 = 10 from rfl) (by decide)) rfl rfl (cellF_10 _ (by decide)) rfl (by decide +kernel) rfl (by decide) [] rfl (Nat.le_of_ble_eq_true rfl) dX10_back_15 (fun v8 M9 hp7 => ?_)
    obtain ⟨L10, U11, rfl, rfl, h12⟩ := hp7
    have h12 : fbR (tdW ((M 79))) ((M 79)) = -6 → ∀ k : Int, 0 ≤ k → k < 5 → U11 k = dvQ (tdW ((M 79))) ((M 79)) (fwt ((M 79)) 8 0) 8 k := h12
    show V z g 2 (up1 (up1 M 87 L10) 89 U11) [(0, rf g 78), (1, iv p)] [iv (fbR (tdW ((M 79))) ((M 79)))] 18
    have hur := fbR_rng (tdW (M 79)) (M 79)
    have hu5 := h12
    refine v_bipush (n := -6) ok rfl dX10_back_18 ?_
    refine v_icmp_ne (tgt := 32) ok ⟨by omega, by omega⟩ (by decide) dX10_back_20 (by decide) (fun c13 => ?_) (fun c13 => ?_)
    · skip
      refine v_bipush (n := -3) ok rfl dX10_back_32 ?_
      exact v_iret ok rt dX10_back_34 (Or.inr (Or.inl (⟨L10, U11, rfl, rfl, (by omega), (by omega)⟩)))
    · skip
      have hu6 := hu5 (by omega)
      refine v_cong (n := 5) (dvQ (tdW (M 79)) (M 79) (fwt (M 79) 8 0) 8) (Or.inl (by decide)) rfl (fun k k0 k1 => hu6 k k0 k1) ?_
      refine v_aload_n ok 0 dX10_back_23 rfl rfl ?_
      refine v_get (T := TX10) (N := 22) (f0 := (M 78)) (v := rf g 89) ok mi_X10_back_10 (kd_lt (show kd 78 = 10 from rfl) (by decide)) rfl rfl (cellF_10 _ (by decide)) 16 (by decide) mk_X10_back_42 rfl rfl dX10_back_24 ?_
      refine v_iload_n ok 1 dX10_back_27 rfl rfl ?_
      refine v_iald (n := 5) (f0 := (dvQ (tdW (M 79)) (M 79) (fwt (M 79) 8 0) 8)) ok (by decide) rfl (by omega) rfl dX10_back_28 ?_
      refine v_goto (tgt := 34) ok dX10_back_29 (by decide) ?_
      exact v_iret ok rt dX10_back_34 (Or.inr (Or.inr (⟨L10, (dvQ (tdW (M 79)) (M 79) (fwt (M 79) 8 0) 8), (congrArg (fun q : Int => some (iv q)) (show ((dvQ (tdW (M 79)) (M 79) (fwt (M 79) 8 0) 8) p) = (dvQ (tdW (M 79)) (M 79) (fwt (M 79) 8 0) 8 p) from by rfl)), rfl, (by omega), (by omega)⟩)))
  · skip
    subst M3
    show V z g 2 M [(0, rf g 78), (1, iv p)] [iv 0] 9
    refine v_if_ne (tgt := 14) ok (by decide) dX10_back_9 (by decide) (fun c14 => absurd c14 (by decide)) (fun c14 => ?_)
    refine v_iconst (n := -1) ok dX10_back_12 ?_
    exact v_iret ok rt dX10_back_13 (Or.inl (⟨rfl, rfl, (by omega)⟩))

theorem mk_X10_nearest_212 : Cond.constantLong RX10 212 (3) ∈ wsX10_nearest := by decide +kernel
theorem mk_X10_nearest_11 : Cond.fieldLink RX10 11 "StormRunoffModel" "w" "[I" ∈ wsX10_nearest := by decide +kernel
theorem mi_X10_nearest_10 : ∀ w ∈ wsX100, w ∈ wsX10_nearest := by decide +kernel
set_option maxRecDepth 100000 in
set_option maxHeartbeats 400000 in
theorem ct_X10_nearest (l : Launch) (g : Gl) (M : Mem) (b h : Int) (hb : i32 b) (hh : i32 h) (hw : WOk (M 79)) : Ct l g yX10_nearest wsX10_nearest 3 71 [rf g 78, iv b, iv h] M (fun rv M' => (rv = some (iv (-1)) ∧ M' = M ∧ (¬ (0 ≤ b ∧ b < M 79 20) ∨ ¬ (0 ≤ h ∧ h ≤ 3))) ∨ (∃ (Z F : Int → Int), rv = some (iv (spr (amn (nrs (tdW (M 79)) (bsA (M 79) b)) 343) h)) ∧ M' = (up1 (up1 M 90 Z) 84 F) ∧ (0 ≤ b ∧ b < M 79 20) ∧ (0 ≤ h ∧ h ≤ 2)) ∨ (∃ (Z F : Int → Int), rv = some (iv ((nrs (tdW (M 79)) (bsA (M 79) b)) (amn (nrs (tdW (M 79)) (bsA (M 79) b)) 343))) ∧ M' = (up1 (up1 M 90 Z) 84 F) ∧ (0 ≤ b ∧ b < M 79 20) ∧ (h = 3))) := by
  refine Ct.of (cc := cX10_nearest) (nL := 8) (ret := (some .int)) (by decide) rfl (Nat.le_of_ble_eq_true rfl) (fun z hz ok rt => ?_)
  have ok : Ok z g cX10_nearest 8 RX10 wsX10_nearest 3 71 := ok
  show V z g 8 M [(0, rf g 78), (1, iv b), (2, iv h)] [] 0
  have hm := hw.2.2.1
  refine v_aload_n ok 0 dX10_nearest_0 rfl rfl ?_
  refine v_iload_n ok 1 dX10_nearest_1 rfl rfl ?_
  refine v_callV (na := 1) (i := 78) (C := RX10) (T := TX10) (N := 22) (f0 := (M 78)) ok (ct_X10_isBasin z.2.1 g M b ⟨by omega, by omega⟩ (by first | omega | assumption)) gX10_nearest_X10_isBasin (kd_lt (show kd 78 = 10 from rfl) (by decide)) rfl rfl (cellF_10 _ (by decide)) rfl (by decide +kernel) rfl (by decide) [] rfl (Nat.le_of_ble_eq_true rfl) dX10_nearest_2 (fun v2 M3 hp1 => ?_)
  rcases hp1 with ⟨rfl, eM3, h4⟩ | ⟨rfl, eM3, h5⟩
  · skip
    subst M3
    have h4 : 0 ≤ b ∧ b < (M 79) 20 := h4
    show V z g 8 M [(0, rf g 78), (1, iv b), (2, iv h)] [iv 1] 5
    refine v_if_eq (tgt := 20) ok (by decide) dX10_nearest_5 (by decide) (fun c6 => absurd c6 (by decide)) (fun c6 => ?_)
    refine v_iload_n ok 2 dX10_nearest_8 rfl rfl ?_
    refine v_i2l ok ⟨by omega, by omega⟩ dX10_nearest_9 ?_
    refine v_lconst (n := 0) ok rfl dX10_nearest_10 ?_
    refine v_ldc2 (n := 3) ok mk_X10_nearest_212 rfl dX10_nearest_11 ?_
    refine v_callS (na := 3) ok (ct_X10_in z.2.1 g M h 0 3 ⟨by omega, by omega⟩ (by decide) (by decide)) gX10_nearest_X10_in rfl (by decide +kernel) rfl (by decide) [] rfl (Nat.le_of_ble_eq_true rfl) dX10_nearest_14 (fun v8 M9 hp7 => ?_)
    rcases hp7 with ⟨rfl, eM9, h10⟩ | ⟨rfl, eM9, h11⟩
    · skip
      subst M9
      show V z g 8 M [(0, rf g 78), (1, iv b), (2, iv h)] [iv 1] 17
      refine v_if_ne (tgt := 22) ok (by decide) dX10_nearest_17 (by decide) (fun c12 => ?_) (fun c12 => absurd c12 (by decide))
      refine v_aload_n ok 0 dX10_nearest_22 rfl rfl ?_
      refine v_callV (na := 0) (i := 78) (C := RX10) (T := TX10) (N := 22) (f0 := (M 78)) ok (ct_X10_keepsRain z.2.1 g M  ) gX10_nearest_X10_keepsRain (kd_lt (show kd 78 = 10 from rfl) (by decide)) rfl rfl (cellF_10 _ (by decide)) rfl (by decide +kernel) rfl (by decide) [] rfl (Nat.le_of_ble_eq_true rfl) dX10_nearest_23 (fun v14 M15 hp13 => ?_)
      obtain ⟨rfl, rfl⟩ := hp13
      show V z g 8 (up1 M 90 ((M 79))) [(0, rf g 78), (1, iv b), (2, iv h)] [] 26
      refine v_iconst (n := 0) ok dX10_nearest_26 ?_
      refine v_istore_n ok [(3, iv 0), (0, rf g 78), (1, iv b), (2, iv h)] dX10_nearest_27 rfl (by decide) rfl ?_
      refine v_iconst (n := -1) ok dX10_nearest_28 ?_
      refine v_istore ok [(4, iv (-1)), (3, iv 0), (0, rf g 78), (1, iv b), (2, iv h)] dX10_nearest_29 (by decide) rfl ?_
      refine v_iconst (n := 0) ok dX10_nearest_31 ?_
      refine v_istore ok [(5, iv 0), (4, iv (-1)), (3, iv 0), (0, rf g 78), (1, iv b), (2, iv h)] dX10_nearest_32 (by decide) rfl ?_
      have lp34 : ∀ (fu : Nat) (k p q : Int) (F G : Int → Int), (0 ≤ k ∧ k ≤ 343) → (∀ j : Int, 8 ≤ j → G j = M 79 j) → (k = 0 → p = 0 ∧ q = -1) → (0 < k → p = amn (nrs (tdW (M 79)) (bsA (M 79) b)) k.toNat ∧ q = (nrs (tdW (M 79)) (bsA (M 79) b)) p) → (343 - k).toNat < fu → V z g 8 (up1 (up1 (up1 M 90 (M 79)) 84 F) 79 G) [(0, rf g 78), (1, iv b), (2, iv h), (3, iv p), (4, iv q), (5, iv k)] [] 34 := by
        intro fu
        induction fu with
        | zero => intro k p q F G _ _ _ _ hm; exact absurd hm (Nat.not_lt_zero _)
        | succ fu ih34 =>
          intro k p q F G i34_0 i34_1 i34_2 i34_3 hm34
          have har := amn_rng (nrs (tdW (M 79)) (bsA (M 79) b)) k.toNat
          refine v_iload ok 5 dX10_nearest_34 rfl ?_
          refine v_sipush (n := 343) ok rfl dX10_nearest_36 ?_
          refine v_icmp_ge (tgt := 168) ok ⟨by omega, by omega⟩ (by decide) dX10_nearest_39 (by decide) (fun c16 => ?_) (fun c16 => ?_)
          · skip
            have e : k.toNat = 343 := by omega
            have hz := i34_3 (by omega)
            rw [e] at hz har
            rw [show (p : Int) = (amn (nrs (tdW (M 79)) (bsA (M 79) b)) 343) from hz.1]
            rw [show (q : Int) = ((nrs (tdW (M 79)) (bsA (M 79) b)) (amn (nrs (tdW (M 79)) (bsA (M 79) b)) 343)) from (by rw [hz.2, hz.1])]
            refine v_aload_n ok 0 dX10_nearest_168 rfl rfl ?_
            refine v_callV (na := 0) (i := 78) (C := RX10) (T := TX10) (N := 22) (f0 := (M 78)) ok (ct_X10_laysRain z.2.1 g (up1 (up1 (up1 M 90 (M 79)) 84 F) 79 G)  ) gX10_nearest_X10_laysRain (kd_lt (show kd 78 = 10 from rfl) (by decide)) rfl rfl (cellF_10 _ (by decide)) rfl (by decide +kernel) rfl (by decide) [] rfl (Nat.le_of_ble_eq_true rfl) dX10_nearest_169 (fun v18 M19 hp17 => ?_)
            obtain ⟨rfl, rfl⟩ := hp17
            show V z g 8 (up1 (up1 (up1 (up1 M 90 (M 79)) 84 F) 79 G) 79 (lay ((M 79)) (G))) [(0, rf g 78), (1, iv b), (2, iv h), (3, iv (amn (nrs (tdW (M 79)) (bsA (M 79) b)) 343)), (4, iv ((nrs (tdW (M 79)) (bsA (M 79) b)) (amn (nrs (tdW (M 79)) (bsA (M 79) b)) 343))), (5, iv k)] [] 172
            rw [show ((up1 (up1 (up1 (up1 M 90 (M 79)) 84 F) 79 G) 79 (lay ((M 79)) (G))) : Mem) = (up1 (up1 (up1 M 90 (M 79)) 84 F) 79 (lay ((M 79)) (G))) from (by
                  funext j
                  by_cases hj0 : j = 90
                  · subst hj0; simp [up1, up1_self]
                  by_cases hj1 : j = 84
                  · subst hj1; simp [up1, up1_self]
                  by_cases hj2 : j = 79
                  · subst hj2; simp [up1, up1_self]
                  simp [up1, hj0, hj1, hj2])]
            refine v_cong (n := 90) (M 79) (Or.inl (by decide)) rfl (fun j j0 j1 => by
                unfold lay
                by_cases c : 0 ≤ j ∧ j < 8
                · rw [if_pos c]
                · rw [if_neg c]; exact i34_1 j (by omega)) ?_
            rw [show ((up1 (up1 (up1 M 90 (M 79)) 84 F) 79 (M 79)) : Mem) = (up1 (up1 M 90 (M 79)) 84 F) from (by funext j; by_cases hj0 : j = 79 <;> by_cases hj1 : j = 84 <;> by_cases hj2 : j = 90 <;> simp_all [up1])]
            refine v_iload_n ok 2 dX10_nearest_172 rfl rfl ?_
            refine v_if_ne (tgt := 183) ok ⟨by omega, by omega⟩ dX10_nearest_173 (by decide) (fun c20 => ?_) (fun c20 => ?_)
            · skip
              refine v_iload_n ok 2 dX10_nearest_183 rfl rfl ?_
              refine v_iconst (n := 1) ok dX10_nearest_184 ?_
              refine v_icmp_ne (tgt := 198) ok ⟨by omega, by omega⟩ (by decide) dX10_nearest_185 (by decide) (fun c21 => ?_) (fun c21 => ?_)
              · skip
                refine v_iload_n ok 2 dX10_nearest_198 rfl rfl ?_
                refine v_iconst (n := 2) ok dX10_nearest_199 ?_
                refine v_icmp_ne (tgt := 210) ok ⟨by omega, by omega⟩ (by decide) dX10_nearest_200 (by decide) (fun c22 => ?_) (fun c22 => ?_)
                · skip
                  refine v_iload ok 4 dX10_nearest_210 rfl ?_
                  exact v_iret ok rt dX10_nearest_212 (Or.inr (Or.inr (⟨(M 79), F, rfl, rfl, (by omega), (by omega)⟩)))
                · skip
                  refine v_iload_n ok 3 dX10_nearest_203 rfl rfl ?_
                  refine v_bipush (n := 7) ok rfl dX10_nearest_204 ?_
                  refine v_irem ok (by omega) (by omega) dX10_nearest_206 ?_
                  refine v_goto (tgt := 212) ok dX10_nearest_207 (by decide) ?_
                  exact v_iret ok rt dX10_nearest_212 (Or.inr (Or.inl (⟨(M 79), F, (congrArg (fun q : Int => some (iv q)) (show ((amn (nrs (tdW (M 79)) (bsA (M 79) b)) 343) % 7) = (spr (amn (nrs (tdW (M 79)) (bsA (M 79) b)) 343) h) from by (first | rfl | (unfold spr; first | rw [if_pos (by omega)] | rw [if_neg (by omega), if_pos (by omega)] | rw [if_neg (by omega), if_neg (by omega)])))), rfl, (by omega), (by omega)⟩)))
              · skip
                refine v_iload_n ok 3 dX10_nearest_188 rfl rfl ?_
                refine v_bipush (n := 7) ok rfl dX10_nearest_189 ?_
                refine v_idiv ok (by omega) (by omega) dX10_nearest_191 ?_
                refine v_bipush (n := 7) ok rfl dX10_nearest_192 ?_
                refine v_irem ok (by omega) (by omega) dX10_nearest_194 ?_
                refine v_goto (tgt := 212) ok dX10_nearest_195 (by decide) ?_
                exact v_iret ok rt dX10_nearest_212 (Or.inr (Or.inl (⟨(M 79), F, (congrArg (fun q : Int => some (iv q)) (show (((amn (nrs (tdW (M 79)) (bsA (M 79) b)) 343) / 7) % 7) = (spr (amn (nrs (tdW (M 79)) (bsA (M 79) b)) 343) h) from by (first | rfl | (unfold spr; first | rw [if_pos (by omega)] | rw [if_neg (by omega), if_pos (by omega)] | rw [if_neg (by omega), if_neg (by omega)])))), rfl, (by omega), (by omega)⟩)))
            · skip
              refine v_iload_n ok 3 dX10_nearest_176 rfl rfl ?_
              refine v_bipush (n := 49) ok rfl dX10_nearest_177 ?_
              refine v_idiv ok (by omega) (by omega) dX10_nearest_179 ?_
              refine v_goto (tgt := 212) ok dX10_nearest_180 (by decide) ?_
              exact v_iret ok rt dX10_nearest_212 (Or.inr (Or.inl (⟨(M 79), F, (congrArg (fun q : Int => some (iv q)) (show ((amn (nrs (tdW (M 79)) (bsA (M 79) b)) 343) / 49) = (spr (amn (nrs (tdW (M 79)) (bsA (M 79) b)) 343) h) from by (first | rfl | (unfold spr; first | rw [if_pos (by omega)] | rw [if_neg (by omega), if_pos (by omega)] | rw [if_neg (by omega), if_neg (by omega)])))), rfl, (by omega), (by omega)⟩)))
          · skip
            have hq9 : -1 ≤ q ∧ q ≤ 24883200 := by
              rcases Int.lt_or_le 0 k with h1 | h1
              · rw [(i34_3 h1).2, (i34_3 h1).1]
                have h2 := nrs_rng (k := amn (nrs (tdW (M 79)) (bsA (M 79) b)) k.toNat) hw.2.1 (hw.2.2.2.1 b (by omega) (by omega)).1 har.1 (by omega)
                omega
              · rw [(i34_2 (by omega)).2]; omega
            refine v_iconst (n := 0) ok dX10_nearest_42 ?_
            refine v_istore ok [(6, iv 0), (0, rf g 78), (1, iv b), (2, iv h), (3, iv p), (4, iv q), (5, iv k)] dX10_nearest_43 (by decide) rfl ?_
            have lp45 : ∀ (fu : Nat) (i : Int) (G : Int → Int), (0 ≤ i ∧ i ≤ 8) → (∀ j : Int, 8 ≤ j → G j = M 79 j) → (∀ j : Int, 0 ≤ j → j < i → G j = sp8 k j) → (8 - i).toNat < fu → V z g 8 (up1 (up1 (up1 M 90 (M 79)) 84 F) 79 G) [(0, rf g 78), (1, iv b), (2, iv h), (3, iv p), (4, iv q), (5, iv k), (6, iv i)] [] 45 := by
              intro fu
              induction fu with
              | zero => intro i G _ _ _ hm; exact absurd hm (Nat.not_lt_zero _)
              | succ fu ih45 =>
                intro i G i45_0 i45_1 i45_2 hm45
                refine v_iload ok 6 dX10_nearest_45 rfl ?_
                refine v_bipush (n := 8) ok rfl dX10_nearest_47 ?_
                refine v_icmp_ge (tgt := 110) ok ⟨by omega, by omega⟩ (by decide) dX10_nearest_49 (by decide) (fun c23 => ?_) (fun c23 => ?_)
                · skip
                  refine v_cong (n := 90) (spW (M 79) k) (Or.inl (by decide)) rfl (fun j j0 j1 => by
                      unfold spW
                      by_cases c : 0 ≤ j ∧ j < 8
                      · rw [if_pos c]; exact i45_2 j j0 (by omega)
                      · rw [if_neg c]; exact i45_1 j (by omega)) ?_
                  refine v_aload_n ok 0 dX10_nearest_110 rfl rfl ?_
                  refine v_iload_n ok 1 dX10_nearest_111 rfl rfl ?_
                  refine v_callV (na := 1) (i := 78) (C := RX10) (T := TX10) (N := 22) (f0 := (M 78)) ok (ct_X10_squares z.2.1 g (up1 (up1 (up1 M 90 (M 79)) 84 F) 79 (spW (M 79) k)) b (by omega) (WOk_spW hw i34_0.1 (by omega))) gX10_nearest_X10_squares (kd_lt (show kd 78 = 10 from rfl) (by decide)) rfl rfl (cellF_10 _ (by decide)) rfl (by decide +kernel) rfl (by decide) [] rfl (Nat.le_of_ble_eq_true rfl) dX10_nearest_112 (fun v25 M26 hp24 => ?_)
                  obtain ⟨rfl, rfl⟩ := hp24
                  show V z g 8 (up1 (up1 (up1 (up1 M 90 (M 79)) 84 F) 79 (spW (M 79) k)) 84 (fl ((spW (M 79) k)) (bsA ((spW (M 79) k)) b) 8)) [(0, rf g 78), (1, iv b), (2, iv h), (3, iv p), (4, iv q), (5, iv k), (6, iv i)] [iv (sqf (fl ((spW (M 79) k)) (bsA ((spW (M 79) k)) b) 8) (tdW ((spW (M 79) k))) 12)] 115
                  rw [show ((up1 (up1 (up1 (up1 M 90 (M 79)) 84 F) 79 (spW (M 79) k)) 84 (fl ((spW (M 79) k)) (bsA ((spW (M 79) k)) b) 8)) : Mem) = (up1 (up1 (up1 M 90 (M 79)) 84 (fl ((spW (M 79) k)) (bsA ((spW (M 79) k)) b) 8)) 79 (spW (M 79) k)) from (by
                        funext j
                        by_cases hj0 : j = 90
                        · subst hj0; simp [up1, up1_self]
                        by_cases hj1 : j = 84
                        · subst hj1; simp [up1, up1_self]
                        by_cases hj2 : j = 79
                        · subst hj2; simp [up1, up1_self]
                        simp [up1, hj0, hj1, hj2])]
                  rw [show ((sqf (fl ((spW (M 79) k)) (bsA ((spW (M 79) k)) b) 8) (tdW ((spW (M 79) k))) 12) : Int) = ((nrs (tdW (M 79)) (bsA (M 79) b)) k) from (nrs_sp (M 79) (by omega))]
                  have hn := nrs_rng hw.2.1 (hw.2.2.2.1 b (by omega) (by omega)).1 i34_0.1 (show k < 343 by omega)
                  have hq : 0 < k → 0 ≤ q ∧ q ≤ 24883200 := fun h1 => by rw [(i34_3 h1).2, (i34_3 h1).1]; exact nrs_rng hw.2.1 (hw.2.2.2.1 b (by omega) (by omega)).1 har.1 (by omega)
                  refine v_istore ok [(6, iv ((nrs (tdW (M 79)) (bsA (M 79) b)) k)), (0, rf g 78), (1, iv b), (2, iv h), (3, iv p), (4, iv q), (5, iv k)] dX10_nearest_115 (by decide) rfl ?_
                  refine v_iload ok 5 dX10_nearest_117 rfl ?_
                  refine v_if_lt (tgt := 129) ok ⟨by omega, by omega⟩ dX10_nearest_119 (by decide) (fun c27 => ?_) (fun c27 => ?_)
                  · skip
                    refine v_iconst (n := 1) ok dX10_nearest_129 ?_
                    refine v_goto (tgt := 134) ok dX10_nearest_130 (by decide) ?_
                    refine v_istore ok [(7, iv 1), (6, iv ((nrs (tdW (M 79)) (bsA (M 79) b)) k)), (0, rf g 78), (1, iv b), (2, iv h), (3, iv p), (4, iv q), (5, iv k)] dX10_nearest_134 (by decide) rfl ?_
                    refine v_iload ok 0 dX10_nearest_136 rfl ?_
                    refine v_if_eq (tgt := 146) ok (by decide) dX10_nearest_138 (by decide) (fun c28 => absurd c28 (by decide)) (fun c28 => ?_)
                    refine v_iload ok 7 dX10_nearest_141 rfl ?_
                    refine v_goto (tgt := 147) ok dX10_nearest_143 (by decide) ?_
                    refine v_istore_n ok [(3, iv k), (7, iv 1), (6, iv ((nrs (tdW (M 79)) (bsA (M 79) b)) k)), (0, rf g 78), (1, iv b), (2, iv h), (4, iv q), (5, iv k)] dX10_nearest_147 rfl (by decide) rfl ?_
                    refine v_iload ok 1 dX10_nearest_148 rfl ?_
                    refine v_if_eq (tgt := 158) ok (by decide) dX10_nearest_150 (by decide) (fun c29 => absurd c29 (by decide)) (fun c29 => ?_)
                    refine v_iload ok 2 dX10_nearest_153 rfl ?_
                    refine v_goto (tgt := 160) ok dX10_nearest_155 (by decide) ?_
                    refine v_istore ok [(4, iv ((nrs (tdW (M 79)) (bsA (M 79) b)) k)), (3, iv k), (7, iv 1), (6, iv ((nrs (tdW (M 79)) (bsA (M 79) b)) k)), (0, rf g 78), (1, iv b), (2, iv h), (5, iv k)] dX10_nearest_160 (by decide) rfl ?_
                    have hb3 : 0 < k + 1 → k = amn (nrs (tdW (M 79)) (bsA (M 79) b)) (k + 1).toNat ∧ (nrs (tdW (M 79)) (bsA (M 79) b)) k = (nrs (tdW (M 79)) (bsA (M 79) b)) k := fun _ => by
                      refine ⟨?_, rfl⟩
                      rw [amn_s i34_0.1]
                      rcases Int.lt_or_le 0 k with h1 | h1
                      · have h2 := hq h1
                        rw [if_pos (by rw [← (i34_3 h1).1, ← (i34_3 h1).2]; omega)]
                      · have e0 : k = 0 := by omega
                        rw [e0]; simp [amn]
                    refine v_iinc ok 7 [(5, iv (k + 1)), (4, iv ((nrs (tdW (M 79)) (bsA (M 79) b)) k)), (3, iv k), (7, iv 1), (6, iv ((nrs (tdW (M 79)) (bsA (M 79) b)) k)), (0, rf g 78), (1, iv b), (2, iv h)] dX10_nearest_162 rfl (by decide) rfl ?_
                    refine v_goto (tgt := 34) ok dX10_nearest_165 (by decide) ?_
                    refine v_lv (ls' := [(0, rf g 78), (1, iv b), (2, iv h), (3, iv k), (4, iv ((nrs (tdW (M 79)) (bsA (M 79) b)) k)), (5, iv (k + 1))]) ok [5, 6, 7, 2, 1, 0] rfl ?_
                    exact ih34 (k + 1) k ((nrs (tdW (M 79)) (bsA (M 79) b)) k) (fl ((spW (M 79) k)) (bsA ((spW (M 79) k)) b) 8) (spW (M 79) k) (by omega) (fun j hj => by unfold spW; rw [if_neg (by omega)]) (fun q => by omega) hb3 (by omega)
                  · skip
                    refine v_iload ok 0 dX10_nearest_122 rfl ?_
                    refine v_iload ok 5 dX10_nearest_124 rfl ?_
                    refine v_icmp_ge (tgt := 133) ok ⟨by omega, by omega⟩ ⟨by omega, by omega⟩ dX10_nearest_126 (by decide) (fun c30 => ?_) (fun c30 => ?_)
                    · skip
                      refine v_iconst (n := 0) ok dX10_nearest_133 ?_
                      refine v_istore ok [(7, iv 0), (6, iv ((nrs (tdW (M 79)) (bsA (M 79) b)) k)), (0, rf g 78), (1, iv b), (2, iv h), (3, iv p), (4, iv q), (5, iv k)] dX10_nearest_134 (by decide) rfl ?_
                      refine v_iload ok 0 dX10_nearest_136 rfl ?_
                      refine v_if_eq (tgt := 146) ok (by decide) dX10_nearest_138 (by decide) (fun c31 => ?_) (fun c31 => absurd c31 (by decide))
                      refine v_iload_n ok 5 dX10_nearest_146 rfl rfl ?_
                      refine v_istore_n ok [(3, iv p), (7, iv 0), (6, iv ((nrs (tdW (M 79)) (bsA (M 79) b)) k)), (0, rf g 78), (1, iv b), (2, iv h), (4, iv q), (5, iv k)] dX10_nearest_147 rfl (by decide) rfl ?_
                      refine v_iload ok 1 dX10_nearest_148 rfl ?_
                      refine v_if_eq (tgt := 158) ok (by decide) dX10_nearest_150 (by decide) (fun c32 => ?_) (fun c32 => absurd c32 (by decide))
                      refine v_iload ok 6 dX10_nearest_158 rfl ?_
                      refine v_istore ok [(4, iv q), (3, iv p), (7, iv 0), (6, iv ((nrs (tdW (M 79)) (bsA (M 79) b)) k)), (0, rf g 78), (1, iv b), (2, iv h), (5, iv k)] dX10_nearest_160 (by decide) rfl ?_
                      have h1 : 0 < k := by
                        rcases Int.lt_or_le 0 k with h1 | h1
                        · exact h1
                        · have h2 := i34_2 (by omega)
                          omega
                      have hb3 : 0 < k + 1 → p = amn (nrs (tdW (M 79)) (bsA (M 79) b)) (k + 1).toNat ∧ q = (nrs (tdW (M 79)) (bsA (M 79) b)) p := fun _ => by
                        have h2 := i34_3 h1
                        refine ⟨?_, h2.2⟩
                        rw [amn_s i34_0.1, if_neg (by rw [← h2.1, ← h2.2]; omega)]; exact h2.1
                      refine v_iinc ok 7 [(5, iv (k + 1)), (4, iv q), (3, iv p), (7, iv 0), (6, iv ((nrs (tdW (M 79)) (bsA (M 79) b)) k)), (0, rf g 78), (1, iv b), (2, iv h)] dX10_nearest_162 rfl (by decide) rfl ?_
                      refine v_goto (tgt := 34) ok dX10_nearest_165 (by decide) ?_
                      refine v_lv (ls' := [(0, rf g 78), (1, iv b), (2, iv h), (3, iv p), (4, iv q), (5, iv (k + 1))]) ok [5, 6, 7, 2, 1, 0] rfl ?_
                      exact ih34 (k + 1) p q (fl ((spW (M 79) k)) (bsA ((spW (M 79) k)) b) 8) (spW (M 79) k) (by omega) (fun j hj => by unfold spW; rw [if_neg (by omega)]) (fun q => by omega) hb3 (by omega)
                    · skip
                      refine v_iconst (n := 1) ok dX10_nearest_129 ?_
                      refine v_goto (tgt := 134) ok dX10_nearest_130 (by decide) ?_
                      refine v_istore ok [(7, iv 1), (6, iv ((nrs (tdW (M 79)) (bsA (M 79) b)) k)), (0, rf g 78), (1, iv b), (2, iv h), (3, iv p), (4, iv q), (5, iv k)] dX10_nearest_134 (by decide) rfl ?_
                      refine v_iload ok 0 dX10_nearest_136 rfl ?_
                      refine v_if_eq (tgt := 146) ok (by decide) dX10_nearest_138 (by decide) (fun c33 => absurd c33 (by decide)) (fun c33 => ?_)
                      refine v_iload ok 7 dX10_nearest_141 rfl ?_
                      refine v_goto (tgt := 147) ok dX10_nearest_143 (by decide) ?_
                      refine v_istore_n ok [(3, iv k), (7, iv 1), (6, iv ((nrs (tdW (M 79)) (bsA (M 79) b)) k)), (0, rf g 78), (1, iv b), (2, iv h), (4, iv q), (5, iv k)] dX10_nearest_147 rfl (by decide) rfl ?_
                      refine v_iload ok 1 dX10_nearest_148 rfl ?_
                      refine v_if_eq (tgt := 158) ok (by decide) dX10_nearest_150 (by decide) (fun c34 => absurd c34 (by decide)) (fun c34 => ?_)
                      refine v_iload ok 2 dX10_nearest_153 rfl ?_
                      refine v_goto (tgt := 160) ok dX10_nearest_155 (by decide) ?_
                      refine v_istore ok [(4, iv ((nrs (tdW (M 79)) (bsA (M 79) b)) k)), (3, iv k), (7, iv 1), (6, iv ((nrs (tdW (M 79)) (bsA (M 79) b)) k)), (0, rf g 78), (1, iv b), (2, iv h), (5, iv k)] dX10_nearest_160 (by decide) rfl ?_
                      have hb3 : 0 < k + 1 → k = amn (nrs (tdW (M 79)) (bsA (M 79) b)) (k + 1).toNat ∧ (nrs (tdW (M 79)) (bsA (M 79) b)) k = (nrs (tdW (M 79)) (bsA (M 79) b)) k := fun _ => by
                        refine ⟨?_, rfl⟩
                        rw [amn_s i34_0.1]
                        rcases Int.lt_or_le 0 k with h1 | h1
                        · have h2 := hq h1
                          rw [if_pos (by rw [← (i34_3 h1).1, ← (i34_3 h1).2]; omega)]
                        · have e0 : k = 0 := by omega
                          rw [e0]; simp [amn]
                      refine v_iinc ok 7 [(5, iv (k + 1)), (4, iv ((nrs (tdW (M 79)) (bsA (M 79) b)) k)), (3, iv k), (7, iv 1), (6, iv ((nrs (tdW (M 79)) (bsA (M 79) b)) k)), (0, rf g 78), (1, iv b), (2, iv h)] dX10_nearest_162 rfl (by decide) rfl ?_
                      refine v_goto (tgt := 34) ok dX10_nearest_165 (by decide) ?_
                      refine v_lv (ls' := [(0, rf g 78), (1, iv b), (2, iv h), (3, iv k), (4, iv ((nrs (tdW (M 79)) (bsA (M 79) b)) k)), (5, iv (k + 1))]) ok [5, 6, 7, 2, 1, 0] rfl ?_
                      exact ih34 (k + 1) k ((nrs (tdW (M 79)) (bsA (M 79) b)) k) (fl ((spW (M 79) k)) (bsA ((spW (M 79) k)) b) 8) (spW (M 79) k) (by omega) (fun j hj => by unfold spW; rw [if_neg (by omega)]) (fun q => by omega) hb3 (by omega)
                · skip
                  refine v_aload_n ok 0 dX10_nearest_52 rfl rfl ?_
                  refine v_get (T := TX10) (N := 22) (f0 := (M 78)) (v := rf g 79) ok mi_X10_nearest_10 (kd_lt (show kd 78 = 10 from rfl) (by decide)) rfl rfl (cellF_10 _ (by decide)) 0 (by decide) mk_X10_nearest_11 rfl rfl dX10_nearest_53 ?_
                  refine v_iload ok 6 dX10_nearest_56 rfl ?_
                  refine v_iload ok 6 dX10_nearest_58 rfl ?_
                  refine v_if_ne (tgt := 71) ok ⟨by omega, by omega⟩ dX10_nearest_60 (by decide) (fun c35 => ?_) (fun c35 => ?_)
                  · skip
                    refine v_iload ok 6 dX10_nearest_71 rfl ?_
                    refine v_iconst (n := 1) ok dX10_nearest_73 ?_
                    refine v_icmp_ne (tgt := 88) ok ⟨by omega, by omega⟩ (by decide) dX10_nearest_74 (by decide) (fun c36 => ?_) (fun c36 => ?_)
                    · skip
                      refine v_iload ok 6 dX10_nearest_88 rfl ?_
                      refine v_iconst (n := 2) ok dX10_nearest_90 ?_
                      refine v_icmp_ne (tgt := 102) ok ⟨by omega, by omega⟩ (by decide) dX10_nearest_91 (by decide) (fun c37 => ?_) (fun c37 => ?_)
                      · skip
                        refine v_iconst (n := 0) ok dX10_nearest_102 ?_
                        have hsv : (0 : Int) = sp8 k i := by unfold sp8; rw [if_neg (by omega), if_neg (by omega), if_neg (by omega)]
                        refine v_iast (n := 90) (f0 := G) ok (by decide) rfl (by omega) rfl dX10_nearest_103 ?_
                        rw [up1_up1]
                        refine v_iinc ok 6 [(6, iv (i + 1)), (0, rf g 78), (1, iv b), (2, iv h), (3, iv p), (4, iv q), (5, iv k)] dX10_nearest_104 rfl (by decide) rfl ?_
                        refine v_goto (tgt := 45) ok dX10_nearest_107 (by decide) ?_
                        refine v_lv (ls' := [(0, rf g 78), (1, iv b), (2, iv h), (3, iv p), (4, iv q), (5, iv k), (6, iv (i + 1))]) ok [1, 2, 3, 4, 5, 6, 0] rfl ?_
                        exact ih45 (i + 1) (up G i 0) (by omega) (fun j hj => by rw [up_ne (by omega)]; exact i45_1 j hj) (up_lt i45_2 hsv) (by omega)
                      · skip
                        refine v_iload ok 5 dX10_nearest_94 rfl ?_
                        refine v_bipush (n := 7) ok rfl dX10_nearest_96 ?_
                        refine v_irem ok (by omega) (by omega) dX10_nearest_98 ?_
                        have hsv : k % 7 = sp8 k i := by unfold sp8; rw [if_neg (by omega), if_neg (by omega), if_pos (by omega)]
                        refine v_goto (tgt := 103) ok dX10_nearest_99 (by decide) ?_
                        refine v_iast (n := 90) (f0 := G) ok (by decide) rfl (by omega) rfl dX10_nearest_103 ?_
                        rw [up1_up1]
                        refine v_iinc ok 6 [(6, iv (i + 1)), (0, rf g 78), (1, iv b), (2, iv h), (3, iv p), (4, iv q), (5, iv k)] dX10_nearest_104 rfl (by decide) rfl ?_
                        refine v_goto (tgt := 45) ok dX10_nearest_107 (by decide) ?_
                        refine v_lv (ls' := [(0, rf g 78), (1, iv b), (2, iv h), (3, iv p), (4, iv q), (5, iv k), (6, iv (i + 1))]) ok [1, 2, 3, 4, 5, 6, 0] rfl ?_
                        exact ih45 (i + 1) (up G i (k % 7)) (by omega) (fun j hj => by rw [up_ne (by omega)]; exact i45_1 j hj) (up_lt i45_2 hsv) (by omega)
                    · skip
                      refine v_iload ok 5 dX10_nearest_77 rfl ?_
                      refine v_bipush (n := 7) ok rfl dX10_nearest_79 ?_
                      refine v_idiv ok (by omega) (by omega) dX10_nearest_81 ?_
                      refine v_bipush (n := 7) ok rfl dX10_nearest_82 ?_
                      refine v_irem ok (by omega) (by omega) dX10_nearest_84 ?_
                      have hsv : k / 7 % 7 = sp8 k i := by unfold sp8; rw [if_neg (by omega), if_pos (by omega)]
                      refine v_goto (tgt := 103) ok dX10_nearest_85 (by decide) ?_
                      refine v_iast (n := 90) (f0 := G) ok (by decide) rfl (by omega) rfl dX10_nearest_103 ?_
                      rw [up1_up1]
                      refine v_iinc ok 6 [(6, iv (i + 1)), (0, rf g 78), (1, iv b), (2, iv h), (3, iv p), (4, iv q), (5, iv k)] dX10_nearest_104 rfl (by decide) rfl ?_
                      refine v_goto (tgt := 45) ok dX10_nearest_107 (by decide) ?_
                      refine v_lv (ls' := [(0, rf g 78), (1, iv b), (2, iv h), (3, iv p), (4, iv q), (5, iv k), (6, iv (i + 1))]) ok [1, 2, 3, 4, 5, 6, 0] rfl ?_
                      exact ih45 (i + 1) (up G i ((k / 7) % 7)) (by omega) (fun j hj => by rw [up_ne (by omega)]; exact i45_1 j hj) (up_lt i45_2 hsv) (by omega)
                  · skip
                    refine v_iload ok 5 dX10_nearest_63 rfl ?_
                    refine v_bipush (n := 49) ok rfl dX10_nearest_65 ?_
                    refine v_idiv ok (by omega) (by omega) dX10_nearest_67 ?_
                    have hsv : k / 49 = sp8 k i := by unfold sp8; rw [if_pos (by omega)]
                    refine v_goto (tgt := 103) ok dX10_nearest_68 (by decide) ?_
                    refine v_iast (n := 90) (f0 := G) ok (by decide) rfl (by omega) rfl dX10_nearest_103 ?_
                    rw [up1_up1]
                    refine v_iinc ok 6 [(6, iv (i + 1)), (0, rf g 78), (1, iv b), (2, iv h), (3, iv p), (4, iv q), (5, iv k)] dX10_nearest_104 rfl (by decide) rfl ?_
                    refine v_goto (tgt := 45) ok dX10_nearest_107 (by decide) ?_
                    refine v_lv (ls' := [(0, rf g 78), (1, iv b), (2, iv h), (3, iv p), (4, iv q), (5, iv k), (6, iv (i + 1))]) ok [1, 2, 3, 4, 5, 6, 0] rfl ?_
                    exact ih45 (i + 1) (up G i (k / 49)) (by omega) (fun j hj => by rw [up_ne (by omega)]; exact i45_1 j hj) (up_lt i45_2 hsv) (by omega)
            refine v_lv (ls' := [(0, rf g 78), (1, iv b), (2, iv h), (3, iv p), (4, iv q), (5, iv k), (6, iv 0)]) ok [1, 2, 3, 4, 5, 6, 0] rfl ?_
            exact lp45 _ 0 G (by omega) i34_1 (fun j _ _ => by omega) (Nat.lt_succ_self _)
      rw [show ((up1 M 90 ((M 79))) : Mem) = (up1 (up1 (up1 M 90 (M 79)) 84 (M 84)) 79 (M 79)) from (by funext j; by_cases hj0 : j = 79 <;> by_cases hj1 : j = 84 <;> by_cases hj2 : j = 90 <;> simp_all [up1])]
      refine v_lv (ls' := [(0, rf g 78), (1, iv b), (2, iv h), (3, iv 0), (4, iv (-1)), (5, iv 0)]) ok [3, 4, 5, 2, 1, 0] rfl ?_
      exact lp34 _ 0 0 (-1) (M 84) (M 79) (by omega) (fun j hj => rfl) (fun _ => ⟨rfl, rfl⟩) (fun q => by omega) (Nat.lt_succ_self _)
    · skip
      subst M9
      show V z g 8 M [(0, rf g 78), (1, iv b), (2, iv h)] [iv 0] 17
      refine v_if_ne (tgt := 22) ok (by decide) dX10_nearest_17 (by decide) (fun c38 => absurd c38 (by decide)) (fun c38 => ?_)
      refine v_iconst (n := -1) ok dX10_nearest_20 ?_
      exact v_iret ok rt dX10_nearest_21 (Or.inl (⟨rfl, rfl, (by omega)⟩))
  · skip
    subst M3
    have h5 : ¬ (0 ≤ b ∧ b < (M 79) 20) := h5
    show V z g 8 M [(0, rf g 78), (1, iv b), (2, iv h)] [iv 0] 5
    refine v_if_eq (tgt := 20) ok (by decide) dX10_nearest_5 (by decide) (fun c39 => ?_) (fun c39 => absurd c39 (by decide))
    refine v_iconst (n := -1) ok dX10_nearest_20 ?_
    exact v_iret ok rt dX10_nearest_21 (Or.inl (⟨rfl, rfl, (by omega)⟩))
