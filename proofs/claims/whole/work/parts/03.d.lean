theorem mk_X2_findBack_9 : Cond.fieldLink RX2 9 "StormRunoff$Division" "left" "[I" ∈ wsX2_findBack := by decide +kernel
theorem mi_X2_findBack_2 : ∀ w ∈ wsX20, w ∈ wsX2_findBack := by decide +kernel
theorem ms_X2_findBack_X9_copyNumbers : Cond.static yX9_copyNumbers ∈ wsX2_findBack := by decide +kernel
theorem mn_X2_findBack_X9_copyNumbers : Cond.initialized yX9_copyNumbers.cls ∈ wsX2_findBack := by decide +kernel
theorem mq_X2_findBack_X9_copyNumbers : (RX2, 21, yX9_copyNumbers) ∈ nestW := by decide +kernel
theorem mk_X2_findBack_18 : Cond.fieldLink RX2 18 "StormRunoff$Division" "answer" "[I" ∈ wsX2_findBack := by decide +kernel
set_option maxRecDepth 100000 in
set_option maxHeartbeats 400000 in
theorem ct_X2_findBack (l : Launch) (g : Gl) (M : Mem)  (hR : bdf (M 3) 8 0 20) (hT : bdf (M 11) 12 0 999) : Ct l g yX2_findBack wsX2_findBack 2 46 [rf g 54, rf g 3, rf g 11] M (fun rv M' => ∃ (L U : Int → Int), rv = some (iv (fbR (M 11) (M 3))) ∧ M' = (up1 (up1 M 55 L) 57 U) ∧ (fbR (M 11) (M 3) = -6 → ∀ k : Int, 0 ≤ k → k < 5 → U k = dvQ (M 11) (M 3) (fwt (M 3) 8 0) 8 k)) := by
  refine Ct.of (cc := cX2_findBack) (nL := 5) (ret := (some .int)) (by decide) rfl (Nat.le_of_ble_eq_true rfl) (fun z hz ok rt => ?_)
  have ok : Ok z g cX2_findBack 5 RX2 wsX2_findBack 2 46 := ok
  show V z g 5 M [(0, rf g 54), (1, rf g 3), (2, rf g 11)] [] 0
  refine v_aload_n ok 1 dX2_findBack_0 rfl rfl ?_
  refine v_callS (na := 1) ok (ct_X2_firstWet z.2.1 g M  (by first | omega | assumption)) gX2_findBack_X2_firstWet rfl (by decide +kernel) rfl (by decide) [] rfl (Nat.le_of_ble_eq_true rfl) dX2_findBack_1 (fun v2 M3 hp1 => ?_)
  obtain ⟨rfl, eM3⟩ := hp1
  subst M3
  show V z g 5 M [(0, rf g 54), (1, rf g 3), (2, rf g 11)] [iv (fwt ((M 3)) 8 0)] 4
  have hfr := fwt_rng (R := M 3) 8 0 (by decide)
  refine v_istore_n ok [(3, iv (fwt ((M 3)) 8 0)), (0, rf g 54), (1, rf g 3), (2, rf g 11)] dX2_findBack_4 rfl (by decide) rfl ?_
  refine v_iload_n ok 0 dX2_findBack_5 rfl rfl ?_
  refine v_if_ge (tgt := 12) ok ⟨by omega, by omega⟩ dX2_findBack_6 (by decide) (fun c4 => ?_) (fun c4 => ?_)
  · skip
    have hf0 : ¬ fwt (M 3) 8 0 < 0 := by omega
    have hf1 : fwt (M 3) 8 0 < 8 := by omega
    have hRf := hR (fwt (M 3) 8 0) (by omega) hf1
    refine v_aload_n ok 3 dX2_findBack_12 rfl rfl ?_
    refine v_aload_n ok 1 dX2_findBack_13 rfl rfl ?_
    refine v_get (T := TX2) (N := 3) (f0 := (M 54)) (v := rf g 55) ok mi_X2_findBack_2 (kd_lt (show kd 54 = 2 from rfl) (by decide)) rfl rfl (cellF_2 _ (by decide)) 0 (by decide) mk_X2_findBack_9 rfl rfl dX2_findBack_14 ?_
    refine v_callN (na := 2) ok (ct_X9_copyNumbers z.2.1 g M 11 55 12 (by decide) (by decide) rfl rfl (show (11 : Nat) ≠ 55 by decide)) gX2_findBack_X9_copyNumbers_n21 mq_X2_findBack_X9_copyNumbers ms_X2_findBack_X9_copyNumbers mn_X2_findBack_X9_copyNumbers rfl (by decide +kernel) rfl (by decide) [] rfl (Nat.le_of_ble_eq_true rfl) dX2_findBack_17 (fun v6 M7 hp5 => ?_)
    obtain ⟨rfl, rfl⟩ := hp5
    show V z g 5 (up1 M 55 ((M 11))) [(3, iv (fwt ((M 3)) 8 0)), (0, rf g 54), (1, rf g 3), (2, rf g 11)] [] 20
    refine v_iconst (n := 0) ok dX2_findBack_20 ?_
    refine v_istore ok [(4, iv 0), (3, iv (fwt ((M 3)) 8 0)), (0, rf g 54), (1, rf g 3), (2, rf g 11)] dX2_findBack_21 (by decide) rfl ?_
    have lp23 : ∀ (fu : Nat) (a : Int) (U : Int → Int), (0 ≤ a ∧ a ≤ 5) → (dvB (M 11) (M 3) (fwt (M 3) 8 0) 8 9 5 0 = dvB (M 11) (M 3) (fwt (M 3) 8 0) 8 9 (5 - a).toNat a.toNat) → (bdf (dvL (M 11) (M 3) (fwt (M 3) 8 0) 8 a.toNat) 12 (-(180 * a)) 999) → (∀ j : Int, 0 ≤ j → j < a → U j = dvQ (M 11) (M 3) (fwt (M 3) 8 0) 8 j) → (5 - a).toNat < fu → V z g 5 (up1 (up1 M 55 (dvL (M 11) (M 3) (fwt (M 3) 8 0) 8 a.toNat)) 57 U) [(0, rf g 54), (1, rf g 3), (2, rf g 11), (3, iv (fwt (M 3) 8 0)), (4, iv a)] [] 23 := by
      intro fu
      induction fu with
      | zero => intro a U _ _ _ _ hm; exact absurd hm (Nat.not_lt_zero _)
      | succ fu ih23 =>
        intro a U i23_0 i23_1 i23_2 i23_3 hm23
        refine v_iload ok 4 dX2_findBack_23 rfl ?_
        refine v_aload_n ok 0 dX2_findBack_25 rfl rfl ?_
        refine v_get (T := TX2) (N := 3) (f0 := (M 54)) (v := rf g 57) ok mi_X2_findBack_2 (kd_lt (show kd 54 = 2 from rfl) (by decide)) rfl rfl (cellF_2 _ (by decide)) 2 (by decide) mk_X2_findBack_18 rfl rfl dX2_findBack_26 ?_
        refine v_alen (n := 5) ok (Or.inl (by decide)) rfl dX2_findBack_29 ?_
        refine v_icmp_ge (tgt := 102) ok ⟨by omega, by omega⟩ (by decide) dX2_findBack_30 (by decide) (fun c8 => ?_) (fun c8 => ?_)
        · skip
          have e5 : a.toNat = 5 := by omega
          have hb1 : dvB (M 11) (M 3) (fwt (M 3) 8 0) 8 9 5 0 = -1 := by rw [i23_1, show (5 - a).toNat = 0 by omega]; rfl
          have hl8 : bdf (dvL (M 11) (M 3) (fwt (M 3) 8 0) 8 5) 12 (-100000) 100000 := by
            intro j j0 j1
            have h9 := i23_2 j j0 j1
            rw [e5] at h9
            omega
          have hq5 : ∀ k : Int, 0 ≤ k → k < 5 → U k = dvQ (M 11) (M 3) (fwt (M 3) 8 0) 8 k := fun k k0 k1 => i23_3 k k0 (by omega)
          have hu := fbR_b (T := M 11) hf0 hb1
          have hr := rsc_rng (L := dvL (M 11) (M 3) (fwt (M 3) 8 0) 8 5) 12 0 (by decide)
          rw [show ((up1 (up1 M 55 (dvL (M 11) (M 3) (fwt (M 3) 8 0) 8 a.toNat)) 57 U) : Mem) = (up1 (up1 M 55 (dvL (M 11) (M 3) (fwt (M 3) 8 0) 8 5)) 57 U) from (by rw [e5])]
          refine v_aload_n ok 0 dX2_findBack_102 rfl rfl ?_
          refine v_callV (na := 0) (i := 54) (C := RX2) (T := TX2) (N := 3) (f0 := (M 54)) ok (ct_X2_firstLeft z.2.1 g (up1 (up1 M 55 (dvL (M 11) (M 3) (fwt (M 3) 8 0) 8 5)) 57 U)  hl8) gX2_findBack_X2_firstLeft (kd_lt (show kd 54 = 2 from rfl) (by decide)) rfl rfl (cellF_2 _ (by decide)) rfl (by decide +kernel) rfl (by decide) [] rfl (Nat.le_of_ble_eq_true rfl) dX2_findBack_103 (fun v10 M11 hp9 => ?_)
          obtain ⟨rfl, rfl⟩ := hp9
          show V z g 5 (up1 (up1 M 55 (dvL (M 11) (M 3) (fwt (M 3) 8 0) 8 5)) 57 U) [(0, rf g 54), (1, rf g 3), (2, rf g 11), (3, iv (fwt (M 3) 8 0)), (4, iv a)] [iv (rsc ((dvL (M 11) (M 3) (fwt (M 3) 8 0) 8 5)) 12 0)] 106
          refine v_istore ok [(4, iv (rsc ((dvL (M 11) (M 3) (fwt (M 3) 8 0) 8 5)) 12 0)), (0, rf g 54), (1, rf g 3), (2, rf g 11), (3, iv (fwt (M 3) 8 0))] dX2_findBack_106 (by decide) rfl ?_
          refine v_iload ok 0 dX2_findBack_108 rfl ?_
          refine v_if_ge (tgt := 118) ok ⟨by omega, by omega⟩ dX2_findBack_110 (by decide) (fun c12 => ?_) (fun c12 => ?_)
          · skip
            refine v_bipush (n := 10) ok rfl dX2_findBack_118 ?_
            refine v_iload ok 0 dX2_findBack_120 rfl ?_
            refine v_iadd ok dX2_findBack_122 ?_
            exact v_iret ok rt dX2_findBack_123 (⟨(dvL (M 11) (M 3) (fwt (M 3) 8 0) 8 5), U, (congrArg (fun q : Int => some (iv q)) (show (10 + (rsc ((dvL (M 11) (M 3) (fwt (M 3) 8 0) 8 5)) 12 0)) = (fbR (M 11) (M 3)) from by (first | exact (hu.1 (by omega)).symm | exact (hu.2 (by omega)).symm))), rfl, (fun _ => hq5)⟩)
          · skip
            refine v_bipush (n := -6) ok rfl dX2_findBack_113 ?_
            refine v_goto (tgt := 123) ok dX2_findBack_115 (by decide) ?_
            exact v_iret ok rt dX2_findBack_123 (⟨(dvL (M 11) (M 3) (fwt (M 3) 8 0) 8 5), U, (congrArg (fun q : Int => some (iv q)) (show (-6) = (fbR (M 11) (M 3)) from by (first | exact (hu.1 (by omega)).symm | exact (hu.2 (by omega)).symm))), rfl, (fun _ => hq5)⟩)
        · skip
          refine v_iload_n ok 3 dX2_findBack_33 rfl rfl ?_
          refine v_iload ok 4 dX2_findBack_34 rfl ?_
          refine v_iadd ok dX2_findBack_36 ?_
          refine v_aload_n ok 0 dX2_findBack_37 rfl rfl ?_
          refine v_get (T := TX2) (N := 3) (f0 := (M 54)) (v := rf g 55) ok mi_X2_findBack_2 (kd_lt (show kd 54 = 2 from rfl) (by decide)) rfl rfl (cellF_2 _ (by decide)) 0 (by decide) mk_X2_findBack_9 rfl rfl dX2_findBack_38 ?_
          refine v_alen (n := 12) ok (Or.inl (by decide)) rfl dX2_findBack_41 ?_
          refine v_icmp_ge (tgt := 102) ok ⟨by omega, by omega⟩ (by decide) dX2_findBack_42 (by decide) (fun c13 => absurd c13 (by omega)) (fun c13 => ?_)
          have hv := i23_2 ((fwt (M 3) 8 0) + a) (by omega) (by omega)
          refine v_aload_n ok 0 dX2_findBack_45 rfl rfl ?_
          refine v_get (T := TX2) (N := 3) (f0 := (M 54)) (v := rf g 57) ok mi_X2_findBack_2 (kd_lt (show kd 54 = 2 from rfl) (by decide)) rfl rfl (cellF_2 _ (by decide)) 2 (by decide) mk_X2_findBack_18 rfl rfl dX2_findBack_46 ?_
          refine v_iload ok 4 dX2_findBack_49 rfl ?_
          refine v_aload_n ok 0 dX2_findBack_51 rfl rfl ?_
          refine v_get (T := TX2) (N := 3) (f0 := (M 54)) (v := rf g 55) ok mi_X2_findBack_2 (kd_lt (show kd 54 = 2 from rfl) (by decide)) rfl rfl (cellF_2 _ (by decide)) 0 (by decide) mk_X2_findBack_9 rfl rfl dX2_findBack_52 ?_
          refine v_iload_n ok 3 dX2_findBack_55 rfl rfl ?_
          refine v_iload ok 4 dX2_findBack_56 rfl ?_
          refine v_iadd ok dX2_findBack_58 ?_
          refine v_iald (n := 12) (f0 := (dvL (M 11) (M 3) (fwt (M 3) 8 0) 8 a.toNat)) ok (by decide) rfl (by omega) rfl dX2_findBack_59 ?_
          refine v_aload_n ok 1 dX2_findBack_60 rfl rfl ?_
          refine v_iload_n ok 3 dX2_findBack_61 rfl rfl ?_
          refine v_iald (n := 8) (f0 := (M 3)) ok (by decide) rfl (by omega) rfl dX2_findBack_62 ?_
          refine v_bipush (n := 9) ok rfl dX2_findBack_63 ?_
          refine v_callS (na := 3) ok (ct_X2_wholePart z.2.1 g (up1 (up1 M 55 (dvL (M 11) (M 3) (fwt (M 3) 8 0) 8 a.toNat)) 57 U) ((dvL (M 11) (M 3) (fwt (M 3) 8 0) 8 a.toNat) ((fwt (M 3) 8 0) + a)) (M 3 (fwt (M 3) 8 0)) 9 ⟨by omega, by omega⟩ (⟨by omega, by omega⟩) (by decide)) gX2_findBack_X2_wholePart rfl (by decide +kernel) rfl (by decide) [iv a, rf g 57] rfl (Nat.le_of_ble_eq_true rfl) dX2_findBack_65 (fun v15 M16 hp14 => ?_)
          rcases hp14 with ⟨rfl, rfl, h17⟩ | ⟨rfl, rfl, h18⟩
          · skip
            show V z g 5 (up1 (up1 M 55 (dvL (M 11) (M 3) (fwt (M 3) 8 0) 8 a.toNat)) 57 U) [(0, rf g 54), (1, rf g 3), (2, rf g 11), (3, iv (fwt (M 3) 8 0)), (4, iv a)] [iv (((dvL (M 11) (M 3) (fwt (M 3) 8 0) 8 a.toNat) ((fwt (M 3) 8 0) + a)) / (M 3 (fwt (M 3) 8 0))), iv a, rf g 57] 68
            have hw := h17
            have hq1 : 0 ≤ dvQ (M 11) (M 3) (fwt (M 3) 8 0) 8 a ∧ dvQ (M 11) (M 3) (fwt (M 3) 8 0) 8 a ≤ 9 := ⟨Int.ediv_nonneg (by omega) (by omega), hw.2.2.2⟩
            have hq0 : 0 ≤ dvL (M 11) (M 3) (fwt (M 3) 8 0) 8 a.toNat ((fwt (M 3) 8 0) + a) / M 3 (fwt (M 3) 8 0) := Int.ediv_nonneg (by omega) (by omega)
            have hb1 : dvB (M 11) (M 3) (fwt (M 3) 8 0) 8 9 5 0 = dvB (M 11) (M 3) (fwt (M 3) 8 0) 8 9 (5 - (a + 1)).toNat (a + 1).toNat := by rw [i23_1, nat_s (show a < 5 by omega), dvB_t i23_0.1 hw]
            have hb2 : bdf (dvL (M 11) (M 3) (fwt (M 3) 8 0) 8 (a + 1).toNat) 12 (-(180 * (a + 1))) 999 := by
              rw [dvL_s i23_0.1]
              intro j j0 j1
              have h9 := tkw_rng (f := a) (n := 8) (A := M 3) (t := dvQ (M 11) (M 3) (fwt (M 3) 8 0) 8 a) i23_2 (fun k k0 k1 => prd_rng (x := M 3 k) hq0 hw.2.2.2 (hR k k0 k1).1 (hR k k0 k1).2 (by decide) (by decide)) j j0 j1
              omega
            refine v_iast (n := 5) (f0 := U) ok (by decide) rfl (by omega) rfl dX2_findBack_68 ?_
            rw [up1_up1]
            refine v_aload_n ok 0 dX2_findBack_69 rfl rfl ?_
            refine v_get (T := TX2) (N := 3) (f0 := (M 54)) (v := rf g 57) ok mi_X2_findBack_2 (kd_lt (show kd 54 = 2 from rfl) (by decide)) rfl rfl (cellF_2 _ (by decide)) 2 (by decide) mk_X2_findBack_18 rfl rfl dX2_findBack_70 ?_
            refine v_iload ok 4 dX2_findBack_73 rfl ?_
            refine v_iald (n := 5) (f0 := up U a (((dvL (M 11) (M 3) (fwt (M 3) 8 0) 8 a.toNat) ((fwt (M 3) 8 0) + a)) / (M 3 (fwt (M 3) 8 0)))) ok (by decide) rfl (by omega) rfl dX2_findBack_75 ?_
            rw [show ((up U a (((dvL (M 11) (M 3) (fwt (M 3) 8 0) 8 a.toNat) ((fwt (M 3) 8 0) + a)) / (M 3 (fwt (M 3) 8 0))) a) : Int) = (dvQ (M 11) (M 3) (fwt (M 3) 8 0) 8 a) from (by rw [up_same]; rfl)]
            refine v_if_ge (tgt := 82) ok ⟨by omega, by omega⟩ dX2_findBack_76 (by decide) (fun c19 => ?_) (fun c19 => absurd c19 (by omega))
            refine v_aload_n ok 0 dX2_findBack_82 rfl rfl ?_
            refine v_iload ok 4 dX2_findBack_83 rfl ?_
            refine v_aload_n ok 0 dX2_findBack_85 rfl rfl ?_
            refine v_get (T := TX2) (N := 3) (f0 := (M 54)) (v := rf g 57) ok mi_X2_findBack_2 (kd_lt (show kd 54 = 2 from rfl) (by decide)) rfl rfl (cellF_2 _ (by decide)) 2 (by decide) mk_X2_findBack_18 rfl rfl dX2_findBack_86 ?_
            refine v_iload ok 4 dX2_findBack_89 rfl ?_
            refine v_iald (n := 5) (f0 := up U a (((dvL (M 11) (M 3) (fwt (M 3) 8 0) 8 a.toNat) ((fwt (M 3) 8 0) + a)) / (M 3 (fwt (M 3) 8 0)))) ok (by decide) rfl (by omega) rfl dX2_findBack_91 ?_
            rw [show ((up U a (((dvL (M 11) (M 3) (fwt (M 3) 8 0) 8 a.toNat) ((fwt (M 3) 8 0) + a)) / (M 3 (fwt (M 3) 8 0))) a) : Int) = (dvQ (M 11) (M 3) (fwt (M 3) 8 0) 8 a) from (by rw [up_same]; rfl)]
            refine v_aload_n ok 1 dX2_findBack_92 rfl rfl ?_
            refine v_callV (na := 3) (i := 54) (C := RX2) (T := TX2) (N := 3) (f0 := (M 54)) ok (ct_X2_takeAway z.2.1 g (up1 (up1 M 55 (dvL (M 11) (M 3) (fwt (M 3) 8 0) 8 a.toNat)) 57 (up U a (((dvL (M 11) (M 3) (fwt (M 3) 8 0) 8 a.toNat) ((fwt (M 3) 8 0) + a)) / (M 3 (fwt (M 3) 8 0))))) a (dvQ (M 11) (M 3) (fwt (M 3) 8 0) 8 a) 3 8 (by decide) rfl (show (3 : Nat) ≠ 55 by decide) (by first | omega | assumption)) gX2_findBack_X2_takeAway (kd_lt (show kd 54 = 2 from rfl) (by decide)) rfl rfl (cellF_2 _ (by decide)) rfl (by decide +kernel) rfl (by decide) [] rfl (Nat.le_of_ble_eq_true rfl) dX2_findBack_93 (fun v21 M22 hp20 => ?_)
            obtain ⟨rfl, rfl⟩ := hp20
            show V z g 5 (up1 (up1 (up1 M 55 (dvL (M 11) (M 3) (fwt (M 3) 8 0) 8 a.toNat)) 57 (up U a (((dvL (M 11) (M 3) (fwt (M 3) 8 0) 8 a.toNat) ((fwt (M 3) 8 0) + a)) / (M 3 (fwt (M 3) 8 0))))) 55 (tkw ((dvL (M 11) (M 3) (fwt (M 3) 8 0) 8 a.toNat)) a (dvQ (M 11) (M 3) (fwt (M 3) 8 0) 8 a) ((M 3)) 8)) [(0, rf g 54), (1, rf g 3), (2, rf g 11), (3, iv (fwt (M 3) 8 0)), (4, iv a)] [] 96
            rw [show ((up1 (up1 (up1 M 55 (dvL (M 11) (M 3) (fwt (M 3) 8 0) 8 a.toNat)) 57 (up U a (((dvL (M 11) (M 3) (fwt (M 3) 8 0) 8 a.toNat) ((fwt (M 3) 8 0) + a)) / (M 3 (fwt (M 3) 8 0))))) 55 (tkw ((dvL (M 11) (M 3) (fwt (M 3) 8 0) 8 a.toNat)) a (dvQ (M 11) (M 3) (fwt (M 3) 8 0) 8 a) ((M 3)) 8)) : Mem) = (up1 (up1 M 55 (tkw ((dvL (M 11) (M 3) (fwt (M 3) 8 0) 8 a.toNat)) a (dvQ (M 11) (M 3) (fwt (M 3) 8 0) 8 a) ((M 3)) 8)) 57 (up U a (((dvL (M 11) (M 3) (fwt (M 3) 8 0) 8 a.toNat) ((fwt (M 3) 8 0) + a)) / (M 3 (fwt (M 3) 8 0))))) from (by
                  funext j
                  by_cases hj0 : j = 55
                  · subst hj0; simp [up1, up1_self]
                  by_cases hj1 : j = 57
                  · subst hj1; simp [up1, up1_self]
                  simp [up1, hj0, hj1])]
            rw [show ((up1 (up1 M 55 (tkw ((dvL (M 11) (M 3) (fwt (M 3) 8 0) 8 a.toNat)) a (dvQ (M 11) (M 3) (fwt (M 3) 8 0) 8 a) ((M 3)) 8)) 57 (up U a (((dvL (M 11) (M 3) (fwt (M 3) 8 0) 8 a.toNat) ((fwt (M 3) 8 0) + a)) / (M 3 (fwt (M 3) 8 0))))) : Mem) = (up1 (up1 M 55 (dvL (M 11) (M 3) (fwt (M 3) 8 0) 8 (a + 1).toNat)) 57 (up U a (dvL (M 11) (M 3) (fwt (M 3) 8 0) 8 a.toNat ((fwt (M 3) 8 0) + a) / M 3 (fwt (M 3) 8 0)))) from (by rw [dvL_s i23_0.1])]
            refine v_iinc ok 4 [(4, iv (a + 1)), (0, rf g 54), (1, rf g 3), (2, rf g 11), (3, iv (fwt (M 3) 8 0))] dX2_findBack_96 rfl (by decide) rfl ?_
            refine v_goto (tgt := 23) ok dX2_findBack_99 (by decide) ?_
            refine v_lv (ls' := [(0, rf g 54), (1, rf g 3), (2, rf g 11), (3, iv (fwt (M 3) 8 0)), (4, iv (a + 1))]) ok [1, 2, 3, 4, 0] rfl ?_
            exact ih23 (a + 1) (up U a (dvL (M 11) (M 3) (fwt (M 3) 8 0) 8 a.toNat ((fwt (M 3) 8 0) + a) / M 3 (fwt (M 3) 8 0))) (by omega) hb1 hb2 (up_lt i23_3 rfl) (by omega)
          · skip
            show V z g 5 (up1 (up1 M 55 (dvL (M 11) (M 3) (fwt (M 3) 8 0) 8 a.toNat)) 57 U) [(0, rf g 54), (1, rf g 3), (2, rf g 11), (3, iv (fwt (M 3) 8 0)), (4, iv a)] [iv (-1), iv a, rf g 57] 68
            have hw := h18
            have hb1 : dvB (M 11) (M 3) (fwt (M 3) 8 0) 8 9 5 0 = a := by rw [i23_1, nat_s (show a < 5 by omega), dvB_f i23_0.1 hw]
            refine v_iast (n := 5) (f0 := U) ok (by decide) rfl (by omega) rfl dX2_findBack_68 ?_
            rw [up1_up1]
            refine v_aload_n ok 0 dX2_findBack_69 rfl rfl ?_
            refine v_get (T := TX2) (N := 3) (f0 := (M 54)) (v := rf g 57) ok mi_X2_findBack_2 (kd_lt (show kd 54 = 2 from rfl) (by decide)) rfl rfl (cellF_2 _ (by decide)) 2 (by decide) mk_X2_findBack_18 rfl rfl dX2_findBack_70 ?_
            refine v_iload ok 4 dX2_findBack_73 rfl ?_
            refine v_iald (n := 5) (f0 := up U a (-1)) ok (by decide) rfl (by omega) rfl dX2_findBack_75 ?_
            rw [show ((up U a (-1) a) : Int) = (-1) from (by rw [up_same])]
            refine v_if_ge (tgt := 82) ok (by decide) dX2_findBack_76 (by decide) (fun c23 => absurd c23 (by decide)) (fun c23 => ?_)
            refine v_iload ok 4 dX2_findBack_79 rfl ?_
            exact v_iret ok rt dX2_findBack_81 (⟨(dvL (M 11) (M 3) (fwt (M 3) 8 0) 8 a.toNat), (up U a (-1)), (congrArg (fun q : Int => some (iv q)) (show a = (fbR (M 11) (M 3)) from by (rw [fbR_a hf0 i23_0.1 hb1]))), rfl, (fun q => by rw [fbR_a hf0 i23_0.1 hb1] at q; omega)⟩)
    rw [show ((up1 M 55 ((M 11))) : Mem) = (up1 M 55 (dvL (M 11) (M 3) (fwt (M 3) 8 0) 8 (0 : Int).toNat)) from rfl]
    refine v_lv (ls' := [(0, rf g 54), (1, rf g 3), (2, rf g 11), (3, iv (fwt ((M 3)) 8 0)), (4, iv 0)]) ok [2, 3, 4, 1, 0] rfl ?_
    rw [show ((up1 M 55 (dvL (M 11) (M 3) (fwt (M 3) 8 0) 8 (0 : Int).toNat)) : Mem) = (up1 (up1 M 55 (dvL (M 11) (M 3) (fwt (M 3) 8 0) 8 (0 : Int).toNat)) 57 (M 57)) from (by
          funext j
          by_cases hj0 : j = 55
          · subst hj0; simp [up1, up1_self]
          by_cases hj1 : j = 57
          · subst hj1; simp [up1, up1_self]
          simp [up1, hj0, hj1])]
    exact lp23 _ 0 (M 57) (by omega) rfl hT (fun j _ _ => by omega) (Nat.lt_succ_self _)
  · skip
    refine v_bipush (n := -5) ok rfl dX2_findBack_9 ?_
    exact v_iret ok rt dX2_findBack_11 (⟨(M 55), (M 57), (congrArg (fun q : Int => some (iv q)) (show (-5) = (fbR (M 11) (M 3)) from by (rw [fbR_n (by omega)]))), (by
          funext j
          by_cases hj0 : j = 55
          · subst hj0; simp [up1, up1_self]
          by_cases hj1 : j = 57
          · subst hj1; simp [up1, up1_self]
          simp [up1, hj0, hj1]), (fun q => by rw [fbR_n (by omega)] at q; omega)⟩)

theorem mk_X3_spread_9 : Cond.fieldLink RX3 9 "StormRunoff$Nearness" "rain" "[I" ∈ wsX3_spread := by decide +kernel
theorem mi_X3_spread_3 : ∀ w ∈ wsX30, w ∈ wsX3_spread := by decide +kernel
set_option maxRecDepth 100000 in
set_option maxHeartbeats 400000 in
theorem ct_X3_spread (l : Launch) (g : Gl) (M : Mem) (r : Int) (hr : 0 ≤ r ∧ r < 343) : Ct l g yX3_spread wsX3_spread 0 0 [rf g 58, iv r] M (fun rv M' => rv = none ∧ M' = (up1 M 59 (spr r))) := by
  refine Ct.of (cc := cX3_spread) (nL := 4) (ret := none) (by decide) rfl (Nat.le_of_ble_eq_true rfl) (fun z hz ok rt => ?_)
  have ok : Ok z g cX3_spread 4 RX3 wsX3_spread 0 0 := ok
  show V z g 4 M [(0, rf g 58), (1, iv r)] [] 0
  refine v_iload_n ok 1 dX3_spread_0 rfl rfl ?_
  refine v_istore_n ok [(2, iv r), (0, rf g 58), (1, iv r)] dX3_spread_1 rfl (by decide) rfl ?_
  refine v_aload_n ok 1 dX3_spread_2 rfl rfl ?_
  refine v_get (T := TX3) (N := 4) (f0 := (M 58)) (v := rf g 59) ok mi_X3_spread_3 (kd_lt (show kd 58 = 3 from rfl) (by decide)) rfl rfl (cellF_3 _ (by decide)) 0 (by decide) mk_X3_spread_9 rfl rfl dX3_spread_3 ?_
  refine v_alen (n := 3) ok (Or.inl (by decide)) rfl dX3_spread_6 ?_
  refine v_iconst (n := 1) ok dX3_spread_7 ?_
  refine v_isub ok dX3_spread_8 ?_
  show V z g 4 M [(2, iv r), (0, rf g 58), (1, iv r)] [iv 2] 9
  refine v_istore_n ok [(3, iv 2), (2, iv r), (0, rf g 58), (1, iv r)] dX3_spread_9 rfl (by decide) rfl ?_
  refine v_iload_n ok 0 dX3_spread_10 rfl rfl ?_
  refine v_if_lt (tgt := 35) ok (by decide) dX3_spread_11 (by decide) (fun c1 => absurd c1 (by decide)) (fun c1 => ?_)
  refine v_aload_n ok 2 dX3_spread_14 rfl rfl ?_
  refine v_get (T := TX3) (N := 4) (f0 := (M 58)) (v := rf g 59) ok mi_X3_spread_3 (kd_lt (show kd 58 = 3 from rfl) (by decide)) rfl rfl (cellF_3 _ (by decide)) 0 (by decide) mk_X3_spread_9 rfl rfl dX3_spread_15 ?_
  refine v_iload_n ok 0 dX3_spread_18 rfl rfl ?_
  refine v_iload_n ok 1 dX3_spread_19 rfl rfl ?_
  refine v_bipush (n := 7) ok rfl dX3_spread_20 ?_
  refine v_irem ok (by omega) (by omega) dX3_spread_22 ?_
  refine v_iast (n := 3) (f0 := (M 59)) ok (by decide) rfl (by omega) rfl dX3_spread_23 ?_
  refine v_iload_n ok 1 dX3_spread_24 rfl rfl ?_
  refine v_bipush (n := 7) ok rfl dX3_spread_25 ?_
  refine v_idiv ok (by omega) (by omega) dX3_spread_27 ?_
  refine v_istore_n ok [(2, iv (r / 7)), (3, iv 2), (0, rf g 58), (1, iv r)] dX3_spread_28 rfl (by decide) rfl ?_
  refine v_iinc ok 1 [(3, iv 1), (2, iv (r / 7)), (0, rf g 58), (1, iv r)] dX3_spread_29 rfl (by decide) rfl ?_
  refine v_goto (tgt := 10) ok dX3_spread_32 (by decide) ?_
  refine v_iload_n ok 0 dX3_spread_10 rfl rfl ?_
  refine v_if_lt (tgt := 35) ok (by decide) dX3_spread_11 (by decide) (fun c2 => absurd c2 (by decide)) (fun c2 => ?_)
  refine v_aload_n ok 2 dX3_spread_14 rfl rfl ?_
  refine v_get (T := TX3) (N := 4) (f0 := (M 58)) (v := rf g 59) ok mi_X3_spread_3 (kd_lt (show kd 58 = 3 from rfl) (by decide)) rfl rfl (cellF_3 _ (by decide)) 0 (by decide) mk_X3_spread_9 rfl rfl dX3_spread_15 ?_
  refine v_iload_n ok 0 dX3_spread_18 rfl rfl ?_
  refine v_iload_n ok 1 dX3_spread_19 rfl rfl ?_
  refine v_bipush (n := 7) ok rfl dX3_spread_20 ?_
  refine v_irem ok (by omega) (by omega) dX3_spread_22 ?_
  refine v_iast (n := 3) (f0 := up (M 59) 2 (r % 7)) ok (by decide) rfl (by omega) rfl dX3_spread_23 ?_
  rw [up1_up1]
  refine v_iload_n ok 1 dX3_spread_24 rfl rfl ?_
  refine v_bipush (n := 7) ok rfl dX3_spread_25 ?_
  refine v_idiv ok (by omega) (by omega) dX3_spread_27 ?_
  refine v_istore_n ok [(2, iv ((r / 7) / 7)), (3, iv 1), (0, rf g 58), (1, iv r)] dX3_spread_28 rfl (by decide) rfl ?_
  refine v_iinc ok 1 [(3, iv 0), (2, iv ((r / 7) / 7)), (0, rf g 58), (1, iv r)] dX3_spread_29 rfl (by decide) rfl ?_
  refine v_goto (tgt := 10) ok dX3_spread_32 (by decide) ?_
  refine v_iload_n ok 0 dX3_spread_10 rfl rfl ?_
  refine v_if_lt (tgt := 35) ok (by decide) dX3_spread_11 (by decide) (fun c3 => absurd c3 (by decide)) (fun c3 => ?_)
  refine v_aload_n ok 2 dX3_spread_14 rfl rfl ?_
  refine v_get (T := TX3) (N := 4) (f0 := (M 58)) (v := rf g 59) ok mi_X3_spread_3 (kd_lt (show kd 58 = 3 from rfl) (by decide)) rfl rfl (cellF_3 _ (by decide)) 0 (by decide) mk_X3_spread_9 rfl rfl dX3_spread_15 ?_
  refine v_iload_n ok 0 dX3_spread_18 rfl rfl ?_
  refine v_iload_n ok 1 dX3_spread_19 rfl rfl ?_
  refine v_bipush (n := 7) ok rfl dX3_spread_20 ?_
  refine v_irem ok (by omega) (by omega) dX3_spread_22 ?_
  refine v_iast (n := 3) (f0 := up (up (M 59) 2 (r % 7)) 1 ((r / 7) % 7)) ok (by decide) rfl (by omega) rfl dX3_spread_23 ?_
  rw [up1_up1]
  refine v_iload_n ok 1 dX3_spread_24 rfl rfl ?_
  refine v_bipush (n := 7) ok rfl dX3_spread_25 ?_
  refine v_idiv ok (by omega) (by omega) dX3_spread_27 ?_
  refine v_istore_n ok [(2, iv (((r / 7) / 7) / 7)), (3, iv 0), (0, rf g 58), (1, iv r)] dX3_spread_28 rfl (by decide) rfl ?_
  refine v_iinc ok 1 [(3, iv (-1)), (2, iv (((r / 7) / 7) / 7)), (0, rf g 58), (1, iv r)] dX3_spread_29 rfl (by decide) rfl ?_
  refine v_goto (tgt := 10) ok dX3_spread_32 (by decide) ?_
  refine v_iload_n ok 0 dX3_spread_10 rfl rfl ?_
  refine v_if_lt (tgt := 35) ok (by decide) dX3_spread_11 (by decide) (fun c4 => ?_) (fun c4 => absurd c4 (by decide))
  refine v_cong (n := 3) (spr r) (Or.inl (by decide)) rfl (fun k k0 k1 => by
      have e : k = 0 ∨ k = 1 ∨ k = 2 := by omega
      rcases e with rfl | rfl | rfl <;> simp [up, spr] <;> omega) ?_
  exact v_vret ok rt dX3_spread_35 (⟨rfl, rfl⟩)

theorem mk_X3_squaresFrom_18 : Cond.fieldLink RX3 18 "StormRunoff$Nearness" "flow" "[I" ∈ wsX3_squaresFrom := by decide +kernel
theorem mi_X3_squaresFrom_3 : ∀ w ∈ wsX30, w ∈ wsX3_squaresFrom := by decide +kernel
set_option maxRecDepth 100000 in
set_option maxHeartbeats 400000 in
theorem ct_X3_squaresFrom (l : Launch) (g : Gl) (M : Mem)   : Ct l g yX3_squaresFrom wsX3_squaresFrom 0 0 [rf g 58, rf g 11] M (fun rv M' => rv = some (iv (sqf (M 61) (M 11) 12)) ∧ M' = M) := by
  refine Ct.of (cc := cX3_squaresFrom) (nL := 5) (ret := (some .int)) (by decide) rfl (Nat.le_of_ble_eq_true rfl) (fun z hz ok rt => ?_)
  have ok : Ok z g cX3_squaresFrom 5 RX3 wsX3_squaresFrom 0 0 := ok
  show V z g 5 M [(0, rf g 58), (1, rf g 11)] [] 0
  refine v_iconst (n := 0) ok dX3_squaresFrom_0 ?_
  refine v_istore_n ok [(2, iv 0), (0, rf g 58), (1, rf g 11)] dX3_squaresFrom_1 rfl (by decide) rfl ?_
  refine v_iconst (n := 0) ok dX3_squaresFrom_2 ?_
  refine v_istore_n ok [(3, iv 0), (2, iv 0), (0, rf g 58), (1, rf g 11)] dX3_squaresFrom_3 rfl (by decide) rfl ?_
  have lp4 : ∀ (fu : Nat) (h q w : Int), (0 ≤ h ∧ h ≤ 12) → (q = sqf (M 61) (M 11) h.toNat) → (12 - h).toNat < fu → V z g 5 M [(0, rf g 58), (1, rf g 11), (2, iv q), (3, iv h)] [] 4 := by
    intro fu
    induction fu with
    | zero => intro h q w _ _ hm; exact absurd hm (Nat.not_lt_zero _)
    | succ fu ih4 =>
      intro h q w i4_0 i4_1 hm4
      refine v_iload_n ok 3 dX3_squaresFrom_4 rfl rfl ?_
      refine v_aload_n ok 0 dX3_squaresFrom_5 rfl rfl ?_
      refine v_get (T := TX3) (N := 4) (f0 := (M 58)) (v := rf g 61) ok mi_X3_squaresFrom_3 (kd_lt (show kd 58 = 3 from rfl) (by decide)) rfl rfl (cellF_3 _ (by decide)) 2 (by decide) mk_X3_squaresFrom_18 rfl rfl dX3_squaresFrom_6 ?_
      refine v_alen (n := 12) ok (Or.inl (by decide)) rfl dX3_squaresFrom_9 ?_
      refine v_icmp_ge (tgt := 45) ok ⟨by omega, by omega⟩ (by decide) dX3_squaresFrom_10 (by decide) (fun c1 => ?_) (fun c1 => ?_)
      · skip
        have e : h.toNat = 12 := by omega
        refine v_iload_n ok 2 dX3_squaresFrom_45 rfl rfl ?_
        exact v_iret ok rt dX3_squaresFrom_46 (⟨(congrArg (fun q : Int => some (iv q)) (show q = (sqf (M 61) (M 11) 12) from by (rw [i4_1, e]))), rfl⟩)
      · skip
        refine v_iload_n ok 3 dX3_squaresFrom_13 rfl rfl ?_
        refine v_aload_n ok 1 dX3_squaresFrom_14 rfl rfl ?_
        refine v_alen (n := 12) ok (Or.inl (by decide)) rfl dX3_squaresFrom_15 ?_
        refine v_icmp_ge (tgt := 45) ok ⟨by omega, by omega⟩ (by decide) dX3_squaresFrom_16 (by decide) (fun c2 => absurd c2 (by omega)) (fun c2 => ?_)
        refine v_aload_n ok 0 dX3_squaresFrom_19 rfl rfl ?_
        refine v_get (T := TX3) (N := 4) (f0 := (M 58)) (v := rf g 61) ok mi_X3_squaresFrom_3 (kd_lt (show kd 58 = 3 from rfl) (by decide)) rfl rfl (cellF_3 _ (by decide)) 2 (by decide) mk_X3_squaresFrom_18 rfl rfl dX3_squaresFrom_20 ?_
        refine v_iload_n ok 3 dX3_squaresFrom_23 rfl rfl ?_
        refine v_iald (n := 12) (f0 := (M 61)) ok (by decide) rfl (by omega) rfl dX3_squaresFrom_24 ?_
        refine v_aload_n ok 1 dX3_squaresFrom_25 rfl rfl ?_
        refine v_iload_n ok 3 dX3_squaresFrom_26 rfl rfl ?_
        refine v_iald (n := 12) (f0 := (M 11)) ok (by decide) rfl (by omega) rfl dX3_squaresFrom_27 ?_
        refine v_isub ok dX3_squaresFrom_28 ?_
        refine v_istore ok [(4, iv ((M 61 h) - (M 11 h))), (0, rf g 58), (1, rf g 11), (2, iv q), (3, iv h)] dX3_squaresFrom_29 (by decide) rfl ?_
        refine v_iload_n ok 3 dX3_squaresFrom_31 rfl rfl ?_
        refine v_iload ok 0 dX3_squaresFrom_32 rfl ?_
        refine v_iload ok 0 dX3_squaresFrom_34 rfl ?_
        refine v_imul ok dX3_squaresFrom_36 ?_
        refine v_iadd ok dX3_squaresFrom_37 ?_
        refine v_istore_n ok [(2, iv (q + (((M 61 h) - (M 11 h)) * ((M 61 h) - (M 11 h))))), (4, iv ((M 61 h) - (M 11 h))), (0, rf g 58), (1, rf g 11), (3, iv h)] dX3_squaresFrom_38 rfl (by decide) rfl ?_
        refine v_iinc ok 4 [(3, iv (h + 1)), (2, iv (q + (((M 61 h) - (M 11 h)) * ((M 61 h) - (M 11 h))))), (4, iv ((M 61 h) - (M 11 h))), (0, rf g 58), (1, rf g 11)] dX3_squaresFrom_39 rfl (by decide) rfl ?_
        refine v_goto (tgt := 4) ok dX3_squaresFrom_42 (by decide) ?_
        refine v_lv (ls' := [(0, rf g 58), (1, rf g 11), (2, iv (q + (((M 61 h) - (M 11 h)) * ((M 61 h) - (M 11 h))))), (3, iv (h + 1))]) ok [3, 4, 1, 0] rfl ?_
        exact ih4 (h + 1) (q + (((M 61 h) - (M 11 h)) * ((M 61 h) - (M 11 h)))) 0 (by omega) (by rw [sqf_s i4_0.1, i4_1]) (by omega)
  refine v_lv (ls' := [(0, rf g 58), (1, rf g 11), (2, iv 0), (3, iv 0)]) ok [2, 3, 1, 0] rfl ?_
  exact lp4 _ 0 0 0 (by omega) rfl (Nat.lt_succ_self _)

theorem mk_X3_seek_9 : Cond.fieldLink RX3 9 "StormRunoff$Nearness" "rain" "[I" ∈ wsX3_seek := by decide +kernel
theorem mi_X3_seek_3 : ∀ w ∈ wsX30, w ∈ wsX3_seek := by decide +kernel
theorem mk_X3_seek_18 : Cond.fieldLink RX3 18 "StormRunoff$Nearness" "flow" "[I" ∈ wsX3_seek := by decide +kernel
theorem mk_X3_seek_21 : Cond.fieldLink RX3 21 "StormRunoff$Nearness" "least" "I" ∈ wsX3_seek := by decide +kernel
theorem mk_X3_seek_15 : Cond.fieldLink RX3 15 "StormRunoff$Nearness" "best" "[I" ∈ wsX3_seek := by decide +kernel
theorem ms_X3_seek_X9_copyNumbers : Cond.static yX9_copyNumbers ∈ wsX3_seek := by decide +kernel
theorem mn_X3_seek_X9_copyNumbers : Cond.initialized yX9_copyNumbers.cls ∈ wsX3_seek := by decide +kernel
theorem mq_X3_seek_X9_copyNumbers : (RX3, 39, yX9_copyNumbers) ∈ nestW := by decide +kernel
set_option maxRecDepth 100000 in
set_option maxHeartbeats 400000 in
theorem ct_X3_seek (l : Launch) (g : Gl) (M : Mem) (b : Nat) (hb : kd b = 0) (hT : bdf (M 11) 12 0 999) (hA : bdf (M (b + 1)) 5 0 9) : Ct l g yX3_seek wsX3_seek 2 47 [rf g 58, rf g b, rf g 11] M (fun rv M' => ∃ (R F : Int → Int), rv = none ∧ M' = (up1 (up1 (up1 (up1 M 58 (up (M 58) 3 ((nrs (M 11) (M (b + 1))) (amn (nrs (M 11) (M (b + 1))) 343)))) 59 R) 61 F) 60 (spr (amn (nrs (M 11) (M (b + 1))) 343)))) := by
  refine Ct.of (cc := cX3_seek) (nL := 5) (ret := none) (by decide) rfl (Nat.le_of_ble_eq_true rfl) (fun z hz ok rt => ?_)
  have ok : Ok z g cX3_seek 5 RX3 wsX3_seek 2 47 := ok
  show V z g 5 M [(0, rf g 58), (1, rf g b), (2, rf g 11)] [] 0
  refine v_iconst (n := 0) ok dX3_seek_0 ?_
  refine v_istore_n ok [(3, iv 0), (0, rf g 58), (1, rf g b), (2, rf g 11)] dX3_seek_1 rfl (by decide) rfl ?_
  have lp2 : ∀ (fu : Nat) (r Q : Int) (R F B : Int → Int), (0 ≤ r ∧ r ≤ 343) → (0 < r → Q = (nrs (M 11) (M (b + 1))) (amn (nrs (M 11) (M (b + 1))) r.toNat) ∧ B = spr (amn (nrs (M 11) (M (b + 1))) r.toNat)) → (343 - r).toNat < fu → V z g 5 (up1 (up1 (up1 (up1 M 58 (up (M 58) 3 Q)) 59 R) 61 F) 60 B) [(0, rf g 58), (1, rf g b), (2, rf g 11), (3, iv r)] [] 2 := by
    intro fu
    induction fu with
    | zero => intro r Q R F B _ _ hm; exact absurd hm (Nat.not_lt_zero _)
    | succ fu ih2 =>
      intro r Q R F B i2_0 i2_1 hm2
      have har := amn_rng (nrs (M 11) (M (b + 1))) r.toNat
      refine v_iload_n ok 3 dX3_seek_2 rfl rfl ?_
      refine v_sipush (n := 343) ok rfl dX3_seek_3 ?_
      refine v_icmp_ge (tgt := 69) ok ⟨by omega, by omega⟩ (by decide) dX3_seek_6 (by decide) (fun c1 => ?_) (fun c1 => ?_)
      · skip
        have e : r.toNat = 343 := by omega
        have hz := i2_1 (by omega)
        rw [e] at hz
        rw [show ((up1 (up1 (up1 (up1 M 58 (up (M 58) 3 Q)) 59 R) 61 F) 60 B) : Mem) = (up1 (up1 (up1 (up1 M 58 (up (M 58) 3 ((nrs (M 11) (M (b + 1))) (amn (nrs (M 11) (M (b + 1))) 343)))) 59 R) 61 F) 60 (spr (amn (nrs (M 11) (M (b + 1))) 343))) from (by rw [hz.1, hz.2])]
        exact v_vret ok rt dX3_seek_69 (⟨R, F, rfl, rfl⟩)
      · skip
        have hn := nrs_rng hT hA i2_0.1 (show r < 343 by omega)
        refine v_aload_n ok 0 dX3_seek_9 rfl rfl ?_
        refine v_iload_n ok 3 dX3_seek_10 rfl rfl ?_
        refine v_callV (na := 1) (i := 58) (C := RX3) (T := TX3) (N := 4) (f0 := (up (M 58) 3 Q)) ok (ct_X3_spread z.2.1 g (up1 (up1 (up1 (up1 M 58 (up (M 58) 3 Q)) 59 R) 61 F) 60 B) r (by first | omega | assumption)) gX3_seek_X3_spread (kd_lt (show kd 58 = 3 from rfl) (by decide)) rfl rfl (cellF_3 _ (by decide)) rfl (by decide +kernel) rfl (by decide) [] rfl (Nat.le_of_ble_eq_true rfl) dX3_seek_11 (fun v3 M4 hp2 => ?_)
        obtain ⟨rfl, rfl⟩ := hp2
        show V z g 5 (up1 (up1 (up1 (up1 (up1 M 58 (up (M 58) 3 Q)) 59 R) 61 F) 60 B) 59 (spr r)) [(0, rf g 58), (1, rf g b), (2, rf g 11), (3, iv r)] [] 14
        rw [show ((up1 (up1 (up1 (up1 (up1 M 58 (up (M 58) 3 Q)) 59 R) 61 F) 60 B) 59 (spr r)) : Mem) = (up1 (up1 (up1 (up1 M 58 (up (M 58) 3 Q)) 59 (spr r)) 61 F) 60 B) from (by
              funext j
              by_cases hj0 : j = 58
              · subst hj0; simp [up1, up1_self]
              by_cases hj1 : j = 59
              · subst hj1; simp [up1, up1_self]
              by_cases hj2 : j = 61
              · subst hj2; simp [up1, up1_self]
              by_cases hj3 : j = 60
              · subst hj3; simp [up1, up1_self]
              simp [up1, hj0, hj1, hj2, hj3])]
        refine v_aload_n ok 1 dX3_seek_14 rfl rfl ?_
        refine v_aload_n ok 0 dX3_seek_15 rfl rfl ?_
        refine v_get (T := TX3) (N := 4) (f0 := (up (M 58) 3 Q)) (v := rf g 59) ok mi_X3_seek_3 (kd_lt (show kd 58 = 3 from rfl) (by decide)) rfl rfl (cellF_3 _ (by decide)) 0 (by decide) mk_X3_seek_9 rfl rfl dX3_seek_16 ?_
        refine v_aload_n ok 0 dX3_seek_19 rfl rfl ?_
        refine v_get (T := TX3) (N := 4) (f0 := (up (M 58) 3 Q)) (v := rf g 61) ok mi_X3_seek_3 (kd_lt (show kd 58 = 3 from rfl) (by decide)) rfl rfl (cellF_3 _ (by decide)) 2 (by decide) mk_X3_seek_18 rfl rfl dX3_seek_20 ?_
        refine v_callV (na := 2) (i := b) (C := RX0) (T := TX0) (N := 4) (f0 := (M b)) ok (ct_X0_flowBy z.2.1 g (up1 (up1 (up1 (up1 M 58 (up (M 58) 3 Q)) 59 (spr r)) 61 F) 60 B) b 59 61 3 12 hb (by decide) (by decide) rfl rfl (show (59 : Nat) ≠ 61 by decide) (ln_ne (show (ln (b + 1) : Int) = 5 from (ln_c0_1 hb)) (show (ln 61 : Int) = 12 from rfl) (by decide))) gX3_seek_X0_flowBy (kd_lt hb (by decide)) rfl (by rw [up1_ne (kd_ne (show kd b = 0 from hb) (show kd 60 = 11 from rfl) (by decide)), up1_ne (kd_ne (show kd b = 0 from hb) (show kd 61 = 11 from rfl) (by decide)), up1_ne (kd_ne (show kd b = 0 from hb) (show kd 59 = 11 from rfl) (by decide)), up1_ne (kd_ne (show kd b = 0 from hb) (show kd 58 = 3 from rfl) (by decide))]) (cellF_0 _ hb) rfl (by decide +kernel) rfl (by decide) [] rfl (Nat.le_of_ble_eq_true rfl) dX3_seek_23 (fun v6 M7 hp5 => ?_)
        obtain ⟨rfl, rfl⟩ := hp5
        rw [show ((up1 (up1 (up1 (up1 M 58 (up (M 58) 3 Q)) 59 (spr r)) 61 F) 60 B) : Mem) (b + 1) = (M (b + 1)) from (by rw [up1_ne (ln_ne (show (ln (b + 1) : Int) = 5 from (ln_c0_1 hb)) (show (ln 60 : Int) = 3 from rfl) (by decide)), up1_ne (ln_ne (show (ln (b + 1) : Int) = 5 from (ln_c0_1 hb)) (show (ln 61 : Int) = 12 from rfl) (by decide)), up1_ne (ln_ne (show (ln (b + 1) : Int) = 5 from (ln_c0_1 hb)) (show (ln 59 : Int) = 3 from rfl) (by decide)), up1_ne (kd_ne (show kd (b + 1) = 11 from (kd_c0_1 hb)) (show kd 58 = 3 from rfl) (by decide))])]
        show V z g 5 (up1 (up1 (up1 (up1 (up1 M 58 (up (M 58) 3 Q)) 59 (spr r)) 61 F) 60 B) 61 (fl ((spr r)) ((M (b + 1))) 3)) [(0, rf g 58), (1, rf g b), (2, rf g 11), (3, iv r)] [] 26
        rw [show ((up1 (up1 (up1 (up1 (up1 M 58 (up (M 58) 3 Q)) 59 (spr r)) 61 F) 60 B) 61 (fl ((spr r)) ((M (b + 1))) 3)) : Mem) = (up1 (up1 (up1 (up1 M 58 (up (M 58) 3 Q)) 59 (spr r)) 61 (fl ((spr r)) ((M (b + 1))) 3)) 60 B) from (by
              funext j
              by_cases hj0 : j = 58
              · subst hj0; simp [up1, up1_self]
              by_cases hj1 : j = 59
              · subst hj1; simp [up1, up1_self]
              by_cases hj2 : j = 61
              · subst hj2; simp [up1, up1_self]
              by_cases hj3 : j = 60
              · subst hj3; simp [up1, up1_self]
              simp [up1, hj0, hj1, hj2, hj3])]
        refine v_aload_n ok 0 dX3_seek_26 rfl rfl ?_
        refine v_aload_n ok 2 dX3_seek_27 rfl rfl ?_
        refine v_callV (na := 1) (i := 58) (C := RX3) (T := TX3) (N := 4) (f0 := (up (M 58) 3 Q)) ok (ct_X3_squaresFrom z.2.1 g (up1 (up1 (up1 (up1 M 58 (up (M 58) 3 Q)) 59 (spr r)) 61 (fl ((spr r)) ((M (b + 1))) 3)) 60 B)  ) gX3_seek_X3_squaresFrom (kd_lt (show kd 58 = 3 from rfl) (by decide)) rfl rfl (cellF_3 _ (by decide)) rfl (by decide +kernel) rfl (by decide) [] rfl (Nat.le_of_ble_eq_true rfl) dX3_seek_28 (fun v9 M10 hp8 => ?_)
        obtain ⟨rfl, rfl⟩ := hp8
        show V z g 5 (up1 (up1 (up1 (up1 M 58 (up (M 58) 3 Q)) 59 (spr r)) 61 (fl ((spr r)) ((M (b + 1))) 3)) 60 B) [(0, rf g 58), (1, rf g b), (2, rf g 11), (3, iv r)] [iv (sqf ((fl ((spr r)) ((M (b + 1))) 3)) ((M 11)) 12)] 31
        have hsq : sqf (fl (spr r) (M (b + 1)) 3) (M 11) 12 = (nrs (M 11) (M (b + 1))) r := rfl
        rw [show ((sqf ((fl ((spr r)) ((M (b + 1))) 3)) ((M 11)) 12) : Int) = ((nrs (M 11) (M (b + 1))) r) from hsq]
        refine v_istore ok [(4, iv ((nrs (M 11) (M (b + 1))) r)), (0, rf g 58), (1, rf g b), (2, rf g 11), (3, iv r)] dX3_seek_31 (by decide) rfl ?_
        refine v_iload_n ok 4 dX3_seek_33 rfl rfl ?_
        refine v_if_eq (tgt := 46) ok ⟨by omega, by omega⟩ dX3_seek_34 (by decide) (fun c11 => ?_) (fun c11 => ?_)
        · skip
          have hr0 : r = 0 := by omega
          have e1 : amn (nrs (M 11) (M (b + 1))) (r + 1).toNat = r := by
            rw [hr0]; simp [amn]
          have hb2 : 0 < r + 1 → (nrs (M 11) (M (b + 1))) r = (nrs (M 11) (M (b + 1))) (amn (nrs (M 11) (M (b + 1))) (r + 1).toNat) ∧ spr r = spr (amn (nrs (M 11) (M (b + 1))) (r + 1).toNat) := fun _ => by rw [e1]; exact ⟨rfl, rfl⟩
          refine v_aload_n ok 1 dX3_seek_46 rfl rfl ?_
          refine v_iload ok 0 dX3_seek_47 rfl ?_
          refine v_put (T := TX3) (N := 4) (f0 := (up (M 58) 3 Q)) (f' := up (up (M 58) 3 Q) 3 ((nrs (M 11) (M (b + 1))) r)) (ty := .int) ok mi_X3_seek_3 (kd_lt (show kd 58 = 3 from rfl) (by decide)) rfl rfl (cellF_3 _ (by decide)) tyX3 tyX3_ok nmX3 3 (by decide) mk_X3_seek_21 rfl rfl (by decide +kernel) rfl rfl (Nat.le_of_ble_eq_true rfl) ((cellF_3 _ (by decide)).trans rfl) dX3_seek_49 ?_
          rw [up_up]
          rw [show (up1 (up1 (up1 (up1 (up1 M 58 (up (M 58) 3 Q)) 59 (spr r)) 61 (fl ((spr r)) ((M (b + 1))) 3)) 60 B) 58 (up (M 58) 3 ((nrs (M 11) (M (b + 1))) r)) : Mem) = (up1 (up1 (up1 (up1 M 58 (up (M 58) 3 ((nrs (M 11) (M (b + 1))) r))) 59 (spr r)) 61 (fl ((spr r)) ((M (b + 1))) 3)) 60 B) from (by
                funext j
                by_cases hj0 : j = 58
                · subst hj0; simp [up1, up1_self]
                by_cases hj1 : j = 59
                · subst hj1; simp [up1, up1_self]
                by_cases hj2 : j = 61
                · subst hj2; simp [up1, up1_self]
                by_cases hj3 : j = 60
                · subst hj3; simp [up1, up1_self]
                simp [up1, hj0, hj1, hj2, hj3])]
          refine v_aload_n ok 1 dX3_seek_52 rfl rfl ?_
          refine v_get (T := TX3) (N := 4) (f0 := up (M 58) 3 ((nrs (M 11) (M (b + 1))) r)) (v := rf g 59) ok mi_X3_seek_3 (kd_lt (show kd 58 = 3 from rfl) (by decide)) rfl rfl (cellF_3 _ (by decide)) 0 (by decide) mk_X3_seek_9 rfl rfl dX3_seek_53 ?_
          refine v_aload_n ok 1 dX3_seek_56 rfl rfl ?_
          refine v_get (T := TX3) (N := 4) (f0 := up (M 58) 3 ((nrs (M 11) (M (b + 1))) r)) (v := rf g 60) ok mi_X3_seek_3 (kd_lt (show kd 58 = 3 from rfl) (by decide)) rfl rfl (cellF_3 _ (by decide)) 1 (by decide) mk_X3_seek_15 rfl rfl dX3_seek_57 ?_
          refine v_callN (na := 2) ok (ct_X9_copyNumbers z.2.1 g (up1 (up1 (up1 (up1 M 58 (up (M 58) 3 ((nrs (M 11) (M (b + 1))) r))) 59 (spr r)) 61 (fl ((spr r)) ((M (b + 1))) 3)) 60 B) 59 60 3 (by decide) (by decide) rfl rfl (show (59 : Nat) ≠ 60 by decide)) gX3_seek_X9_copyNumbers_n39 mq_X3_seek_X9_copyNumbers ms_X3_seek_X9_copyNumbers mn_X3_seek_X9_copyNumbers rfl (by decide +kernel) rfl (by decide) [] rfl (Nat.le_of_ble_eq_true rfl) dX3_seek_60 (fun v13 M14 hp12 => ?_)
          obtain ⟨rfl, rfl⟩ := hp12
          show V z g 5 (up1 (up1 (up1 (up1 (up1 M 58 (up (M 58) 3 ((nrs (M 11) (M (b + 1))) r))) 59 (spr r)) 61 (fl ((spr r)) ((M (b + 1))) 3)) 60 B) 60 ((spr r))) [(4, iv ((nrs (M 11) (M (b + 1))) r)), (0, rf g 58), (1, rf g b), (2, rf g 11), (3, iv r)] [] 63
          rw [show ((up1 (up1 (up1 (up1 (up1 M 58 (up (M 58) 3 ((nrs (M 11) (M (b + 1))) r))) 59 (spr r)) 61 (fl ((spr r)) ((M (b + 1))) 3)) 60 B) 60 ((spr r))) : Mem) = (up1 (up1 (up1 (up1 M 58 (up (M 58) 3 ((nrs (M 11) (M (b + 1))) r))) 59 (spr r)) 61 (fl ((spr r)) ((M (b + 1))) 3)) 60 ((spr r))) from (by
                funext j
                by_cases hj0 : j = 58
                · subst hj0; simp [up1, up1_self]
                by_cases hj1 : j = 59
                · subst hj1; simp [up1, up1_self]
                by_cases hj2 : j = 61
                · subst hj2; simp [up1, up1_self]
                by_cases hj3 : j = 60
                · subst hj3; simp [up1, up1_self]
                simp [up1, hj0, hj1, hj2, hj3])]
          refine v_iinc ok 4 [(3, iv (r + 1)), (4, iv ((nrs (M 11) (M (b + 1))) r)), (0, rf g 58), (1, rf g b), (2, rf g 11)] dX3_seek_63 rfl (by decide) rfl ?_
          refine v_goto (tgt := 2) ok dX3_seek_66 (by decide) ?_
          refine v_lv (ls' := [(0, rf g 58), (1, rf g b), (2, rf g 11), (3, iv (r + 1))]) ok [2, 3, 4, 0] rfl ?_
          exact ih2 (r + 1) ((nrs (M 11) (M (b + 1))) r) (spr r) (fl ((spr r)) ((M (b + 1))) 3) ((spr r)) (by omega) hb2 (by omega)
        · skip
          have hr1 : 0 < r := by omega
          have hQ : 0 ≤ Q ∧ Q ≤ 2147483647 := by
            have h1 := (i2_1 hr1).1
            have h2 := nrs_rng hT hA har.1 (show amn (nrs (M 11) (M (b + 1))) r.toNat < 343 by omega)
            rw [h1]; omega
          refine v_iload ok 0 dX3_seek_37 rfl ?_
          refine v_aload_n ok 1 dX3_seek_39 rfl rfl ?_
          refine v_get (T := TX3) (N := 4) (f0 := (up (M 58) 3 Q)) (v := iv Q) ok mi_X3_seek_3 (kd_lt (show kd 58 = 3 from rfl) (by decide)) rfl rfl (cellF_3 _ (by decide)) 3 (by decide) mk_X3_seek_21 rfl rfl dX3_seek_40 ?_
          refine v_icmp_ge (tgt := 63) ok ⟨by omega, by omega⟩ ⟨by omega, by omega⟩ dX3_seek_43 (by decide) (fun c15 => ?_) (fun c15 => ?_)
          · skip
            have hc : ¬ (nrs (M 11) (M (b + 1))) r < Q := by omega
            have e1 : amn (nrs (M 11) (M (b + 1))) (r + 1).toNat = amn (nrs (M 11) (M (b + 1))) r.toNat := by rw [amn_s i2_0.1, if_neg (by rw [← (i2_1 hr1).1]; exact hc)]
            have hb2 : 0 < r + 1 → Q = (nrs (M 11) (M (b + 1))) (amn (nrs (M 11) (M (b + 1))) (r + 1).toNat) ∧ B = spr (amn (nrs (M 11) (M (b + 1))) (r + 1).toNat) := fun _ => by rw [e1]; exact i2_1 hr1
            refine v_iinc ok 4 [(3, iv (r + 1)), (4, iv ((nrs (M 11) (M (b + 1))) r)), (0, rf g 58), (1, rf g b), (2, rf g 11)] dX3_seek_63 rfl (by decide) rfl ?_
            refine v_goto (tgt := 2) ok dX3_seek_66 (by decide) ?_
            refine v_lv (ls' := [(0, rf g 58), (1, rf g b), (2, rf g 11), (3, iv (r + 1))]) ok [2, 3, 4, 0] rfl ?_
            exact ih2 (r + 1) Q (spr r) (fl ((spr r)) ((M (b + 1))) 3) B (by omega) hb2 (by omega)
          · skip
            have hc : (nrs (M 11) (M (b + 1))) r < Q := by omega
            have e1 : amn (nrs (M 11) (M (b + 1))) (r + 1).toNat = r := by
              rw [amn_s i2_0.1, if_pos (by rw [← (i2_1 hr1).1]; exact hc)]
            have hb2 : 0 < r + 1 → (nrs (M 11) (M (b + 1))) r = (nrs (M 11) (M (b + 1))) (amn (nrs (M 11) (M (b + 1))) (r + 1).toNat) ∧ spr r = spr (amn (nrs (M 11) (M (b + 1))) (r + 1).toNat) := fun _ => by rw [e1]; exact ⟨rfl, rfl⟩
            refine v_aload_n ok 1 dX3_seek_46 rfl rfl ?_
            refine v_iload ok 0 dX3_seek_47 rfl ?_
            refine v_put (T := TX3) (N := 4) (f0 := (up (M 58) 3 Q)) (f' := up (up (M 58) 3 Q) 3 ((nrs (M 11) (M (b + 1))) r)) (ty := .int) ok mi_X3_seek_3 (kd_lt (show kd 58 = 3 from rfl) (by decide)) rfl rfl (cellF_3 _ (by decide)) tyX3 tyX3_ok nmX3 3 (by decide) mk_X3_seek_21 rfl rfl (by decide +kernel) rfl rfl (Nat.le_of_ble_eq_true rfl) ((cellF_3 _ (by decide)).trans rfl) dX3_seek_49 ?_
            rw [up_up]
            rw [show (up1 (up1 (up1 (up1 (up1 M 58 (up (M 58) 3 Q)) 59 (spr r)) 61 (fl ((spr r)) ((M (b + 1))) 3)) 60 B) 58 (up (M 58) 3 ((nrs (M 11) (M (b + 1))) r)) : Mem) = (up1 (up1 (up1 (up1 M 58 (up (M 58) 3 ((nrs (M 11) (M (b + 1))) r))) 59 (spr r)) 61 (fl ((spr r)) ((M (b + 1))) 3)) 60 B) from (by
                  funext j
                  by_cases hj0 : j = 58
                  · subst hj0; simp [up1, up1_self]
                  by_cases hj1 : j = 59
                  · subst hj1; simp [up1, up1_self]
                  by_cases hj2 : j = 61
                  · subst hj2; simp [up1, up1_self]
                  by_cases hj3 : j = 60
                  · subst hj3; simp [up1, up1_self]
                  simp [up1, hj0, hj1, hj2, hj3])]
            refine v_aload_n ok 1 dX3_seek_52 rfl rfl ?_
            refine v_get (T := TX3) (N := 4) (f0 := up (M 58) 3 ((nrs (M 11) (M (b + 1))) r)) (v := rf g 59) ok mi_X3_seek_3 (kd_lt (show kd 58 = 3 from rfl) (by decide)) rfl rfl (cellF_3 _ (by decide)) 0 (by decide) mk_X3_seek_9 rfl rfl dX3_seek_53 ?_
            refine v_aload_n ok 1 dX3_seek_56 rfl rfl ?_
            refine v_get (T := TX3) (N := 4) (f0 := up (M 58) 3 ((nrs (M 11) (M (b + 1))) r)) (v := rf g 60) ok mi_X3_seek_3 (kd_lt (show kd 58 = 3 from rfl) (by decide)) rfl rfl (cellF_3 _ (by decide)) 1 (by decide) mk_X3_seek_15 rfl rfl dX3_seek_57 ?_
            refine v_callN (na := 2) ok (ct_X9_copyNumbers z.2.1 g (up1 (up1 (up1 (up1 M 58 (up (M 58) 3 ((nrs (M 11) (M (b + 1))) r))) 59 (spr r)) 61 (fl ((spr r)) ((M (b + 1))) 3)) 60 B) 59 60 3 (by decide) (by decide) rfl rfl (show (59 : Nat) ≠ 60 by decide)) gX3_seek_X9_copyNumbers_n39 mq_X3_seek_X9_copyNumbers ms_X3_seek_X9_copyNumbers mn_X3_seek_X9_copyNumbers rfl (by decide +kernel) rfl (by decide) [] rfl (Nat.le_of_ble_eq_true rfl) dX3_seek_60 (fun v17 M18 hp16 => ?_)
            obtain ⟨rfl, rfl⟩ := hp16
            show V z g 5 (up1 (up1 (up1 (up1 (up1 M 58 (up (M 58) 3 ((nrs (M 11) (M (b + 1))) r))) 59 (spr r)) 61 (fl ((spr r)) ((M (b + 1))) 3)) 60 B) 60 ((spr r))) [(4, iv ((nrs (M 11) (M (b + 1))) r)), (0, rf g 58), (1, rf g b), (2, rf g 11), (3, iv r)] [] 63
            rw [show ((up1 (up1 (up1 (up1 (up1 M 58 (up (M 58) 3 ((nrs (M 11) (M (b + 1))) r))) 59 (spr r)) 61 (fl ((spr r)) ((M (b + 1))) 3)) 60 B) 60 ((spr r))) : Mem) = (up1 (up1 (up1 (up1 M 58 (up (M 58) 3 ((nrs (M 11) (M (b + 1))) r))) 59 (spr r)) 61 (fl ((spr r)) ((M (b + 1))) 3)) 60 ((spr r))) from (by
                  funext j
                  by_cases hj0 : j = 58
                  · subst hj0; simp [up1, up1_self]
                  by_cases hj1 : j = 59
                  · subst hj1; simp [up1, up1_self]
                  by_cases hj2 : j = 61
                  · subst hj2; simp [up1, up1_self]
                  by_cases hj3 : j = 60
                  · subst hj3; simp [up1, up1_self]
                  simp [up1, hj0, hj1, hj2, hj3])]
            refine v_iinc ok 4 [(3, iv (r + 1)), (4, iv ((nrs (M 11) (M (b + 1))) r)), (0, rf g 58), (1, rf g b), (2, rf g 11)] dX3_seek_63 rfl (by decide) rfl ?_
            refine v_goto (tgt := 2) ok dX3_seek_66 (by decide) ?_
            refine v_lv (ls' := [(0, rf g 58), (1, rf g b), (2, rf g 11), (3, iv (r + 1))]) ok [2, 3, 4, 0] rfl ?_
            exact ih2 (r + 1) ((nrs (M 11) (M (b + 1))) r) (spr r) (fl ((spr r)) ((M (b + 1))) 3) ((spr r)) (by omega) hb2 (by omega)
  rw [show (M : Mem) = (up1 (up1 (up1 (up1 M 58 (up (M 58) 3 (M 58 3))) 59 (M 59)) 61 (M 61)) 60 (M 60)) from (by rw [up_self (M 58) 3]; simp [up1_self])]
  refine v_lv (ls' := [(0, rf g 58), (1, rf g b), (2, rf g 11), (3, iv 0)]) ok [1, 2, 3, 0] rfl ?_
  exact lp2 _ 0 (M 58 3) (M 59) (M 61) (M 60) (by omega) (fun q => by omega) (Nat.lt_succ_self _)
