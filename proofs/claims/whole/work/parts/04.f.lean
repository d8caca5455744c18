theorem mk_X5_readClause_22 : Cond.fieldLink RX5 22 "StormRunoff$SetUp" "letter" "I" ∈ wsX5_readClause := by decide +kernel
theorem mi_X5_readClause_5 : ∀ w ∈ wsX50, w ∈ wsX5_readClause := by decide +kernel
theorem mk_X5_readClause_28 : Cond.fieldLink RX5 28 "StormRunoff$SetUp" "many" "I" ∈ wsX5_readClause := by decide +kernel
theorem mk_X5_readClause_19 : Cond.fieldLink RX5 19 "StormRunoff$SetUp" "at" "I" ∈ wsX5_readClause := by decide +kernel
set_option maxRecDepth 100000 in
set_option maxHeartbeats 400000 in
theorem ct_X5_readClause (l : Launch) (g : Gl) (M : Mem)  (hL : 0 ≤ M 62 1 ∧ M 62 1 ≤ 100) (hA : 0 ≤ M 62 2 ∧ M 62 2 ≤ 700) (hG : bdf (M 63) 100 0 127) : Ct l g yX5_readClause wsX5_readClause 3 69 [rf g 62] M (fun rv M' => ∃ (N : Int → Int), rv = some (iv (clR (M 63) (M 62 1) (M 62 2)).1) ∧ M' = (up1 (up1 M 62 (up (up (up (M 62) 3 (sgn (M 63) (M 62 1) (M 62 2))) 2 (clR (M 63) (M 62 1) (M 62 2)).2.1) 5 (clR (M 63) (M 62 1) (M 62 2)).2.2)) 64 N) ∧ ((clR (M 63) (M 62 1) (M 62 2)).1 = 1 → ∀ j : Int, 0 ≤ j → j < (clR (M 63) (M 62 1) (M 62 2)).2.2 → N j = clV (M 63) (M 62 1) (M 62 2) j)) := by
  refine Ct.of (cc := cX5_readClause) (nL := 1) (ret := (some .boolean)) (by decide) rfl (Nat.le_of_ble_eq_true rfl) (fun z hz ok rt => ?_)
  have ok : Ok z g cX5_readClause 1 RX5 wsX5_readClause 3 69 := ok
  show V z g 1 M [(0, rf g 62)] [] 0
  refine v_aload_n ok 0 dX5_readClause_0 rfl rfl ?_
  refine v_aload_n ok 0 dX5_readClause_1 rfl rfl ?_
  refine v_callV (na := 0) (i := 62) (C := RX5) (T := TX5) (N := 6) (f0 := (M 62)) ok (ct_X5_sign z.2.1 g M  (by first | omega | assumption) (by first | omega | assumption) (by first | omega | assumption)) gX5_readClause_X5_sign (kd_lt (show kd 62 = 5 from rfl) (by decide)) rfl rfl (cellF_5 _ (by decide)) rfl (by decide +kernel) rfl (by decide) [rf g 62] rfl (Nat.le_of_ble_eq_true rfl) dX5_readClause_2 (fun v2 M3 hp1 => ?_)
  obtain ⟨rfl, eM3, h4⟩ := hp1
  subst M3
  have h4 : -1 ≤ (sgn ((M 63)) ((M 62) 1) ((M 62) 2)) ∧ (sgn ((M 63)) ((M 62) 1) ((M 62) 2)) ≤ 127 := h4
  show V z g 1 M [(0, rf g 62)] [iv (sgn ((M 63)) ((M 62) 1) ((M 62) 2)), rf g 62] 5
  refine v_put (T := TX5) (N := 6) (f0 := (M 62)) (f' := up (M 62) 3 (sgn ((M 63)) ((M 62) 1) ((M 62) 2))) (ty := .int) ok mi_X5_readClause_5 (kd_lt (show kd 62 = 5 from rfl) (by decide)) rfl rfl (cellF_5 _ (by decide)) tyX5 tyX5_ok nmX5 3 (by decide) mk_X5_readClause_22 rfl rfl (by decide +kernel) rfl rfl (Nat.le_of_ble_eq_true rfl) ((cellF_5 _ (by decide)).trans rfl) dX5_readClause_5 ?_
  refine v_aload_n ok 0 dX5_readClause_8 rfl rfl ?_
  refine v_iconst (n := 0) ok dX5_readClause_9 ?_
  refine v_put (T := TX5) (N := 6) (f0 := up (M 62) 3 (sgn ((M 63)) ((M 62) 1) ((M 62) 2))) (f' := up (up (M 62) 3 (sgn ((M 63)) ((M 62) 1) ((M 62) 2))) 5 0) (ty := .int) ok mi_X5_readClause_5 (kd_lt (show kd 62 = 5 from rfl) (by decide)) rfl rfl (cellF_5 _ (by decide)) tyX5 tyX5_ok nmX5 5 (by decide) mk_X5_readClause_28 rfl rfl (by decide +kernel) rfl rfl (Nat.le_of_ble_eq_true rfl) ((cellF_5 _ (by decide)).trans rfl) dX5_readClause_10 ?_
  rw [up1_up1]
  refine v_aload_n ok 0 dX5_readClause_13 rfl rfl ?_
  refine v_get (T := TX5) (N := 6) (f0 := up (up (M 62) 3 (sgn ((M 63)) ((M 62) 1) ((M 62) 2))) 5 0) (v := iv (sgn ((M 63)) ((M 62) 1) ((M 62) 2))) ok mi_X5_readClause_5 (kd_lt (show kd 62 = 5 from rfl) (by decide)) rfl rfl (cellF_5 _ (by decide)) 3 (by decide) mk_X5_readClause_22 rfl rfl dX5_readClause_14 ?_
  by_cases e5 : (sgn ((M 63)) ((M 62) 1) ((M 62) 2)) = 98
  · skip
    refine v_lookup (off := 43) (tgt := 60) ok ⟨by omega, by omega⟩ (by decide) (by rw [e5]; decide) dX5_readClause_17 (by decide) ?_
    have hs := e5
    refine v_aload_n ok 0 dX5_readClause_60 rfl rfl ?_
    refine v_dup ok rfl dX5_readClause_61 ?_
    refine v_get (T := TX5) (N := 6) (f0 := up (up (M 62) 3 (sgn ((M 63)) ((M 62) 1) ((M 62) 2))) 5 0) (v := iv (M 62 2)) ok mi_X5_readClause_5 (kd_lt (show kd 62 = 5 from rfl) (by decide)) rfl rfl (cellF_5 _ (by decide)) 2 (by decide) mk_X5_readClause_19 rfl rfl dX5_readClause_62 ?_
    refine v_iconst (n := 1) ok dX5_readClause_65 ?_
    refine v_iadd ok dX5_readClause_66 ?_
    refine v_put (T := TX5) (N := 6) (f0 := up (up (M 62) 3 (sgn ((M 63)) ((M 62) 1) ((M 62) 2))) 5 0) (f' := up (up (up (M 62) 3 (sgn ((M 63)) ((M 62) 1) ((M 62) 2))) 5 0) 2 ((M 62 2) + 1)) (ty := .int) ok mi_X5_readClause_5 (kd_lt (show kd 62 = 5 from rfl) (by decide)) rfl rfl (cellF_5 _ (by decide)) tyX5 tyX5_ok nmX5 2 (by decide) mk_X5_readClause_19 rfl rfl (by decide +kernel) rfl rfl (Nat.le_of_ble_eq_true rfl) ((cellF_5 _ (by decide)).trans rfl) dX5_readClause_67 ?_
    rw [up1_up1]
    refine v_aload_n ok 0 dX5_readClause_70 rfl rfl ?_
    refine v_iconst (n := 1) ok dX5_readClause_71 ?_
    refine v_iconst (n := 5) ok dX5_readClause_72 ?_
    refine v_callV (na := 2) (i := 62) (C := RX5) (T := TX5) (N := 6) (f0 := up (up (up (M 62) 3 (sgn ((M 63)) ((M 62) 1) ((M 62) 2))) 5 0) 2 ((M 62 2) + 1)) ok (ct_X5_readDigits_1_5 z.2.1 g (up1 M 62 (up (up (up (M 62) 3 (sgn ((M 63)) ((M 62) 1) ((M 62) 2))) 5 0) 2 ((M 62 2) + 1)))  (by show 0 ≤ (M 62 1) ∧ (M 62 1) ≤ 100; first | omega | assumption) (by show 0 ≤ ((M 62 2) + 1) ∧ ((M 62 2) + 1) ≤ 800; first | omega | assumption) (by show bdf ((M 63)) 100 0 127; first | omega | assumption) (by show 0 = 0; first | omega | assumption)) gX5_readClause_X5_readDigits (kd_lt (show kd 62 = 5 from rfl) (by decide)) rfl rfl (cellF_5 _ (by decide)) rfl (by decide +kernel) rfl (by decide) [] rfl (Nat.le_of_ble_eq_true rfl) dX5_readClause_73 (fun v7 M8 hp6 => ?_)
    rcases hp6 with ⟨N9, rfl, rfl, h10, h11⟩ | ⟨N12, rfl, rfl, h13, h14⟩
    · skip
      have h10 : (dgs ((M 63)) ((M 62 1)) 5 (((M 62 2) + 1))) < 1 := h10
      have h11 : ∀ j : Int, 0 ≤ j → j < (dgs ((M 63)) ((M 62 1)) 5 (((M 62 2) + 1))) → N9 j = (M 63) (((M 62 2) + 1) + j) - 48 := h11
      show V z g 1 (up1 (up1 (up1 M 62 (up (up (up (M 62) 3 (sgn ((M 63)) ((M 62) 1) ((M 62) 2))) 5 0) 2 ((M 62 2) + 1))) 62 (up (up (up (up (up (M 62) 3 (sgn ((M 63)) ((M 62) 1) ((M 62) 2))) 5 0) 2 ((M 62 2) + 1)) 2 (((M 62 2) + 1) + (dgs ((M 63)) ((M 62 1)) 5 (((M 62 2) + 1))))) 5 (dgs ((M 63)) ((M 62 1)) 5 (((M 62 2) + 1))))) 64 N9) [(0, rf g 62)] [iv 0] 76
      rw [show ((up1 (up1 (up1 M 62 (up (up (up (M 62) 3 (sgn ((M 63)) ((M 62) 1) ((M 62) 2))) 5 0) 2 ((M 62 2) + 1))) 62 (up (up (up (up (up (M 62) 3 (sgn ((M 63)) ((M 62) 1) ((M 62) 2))) 5 0) 2 ((M 62 2) + 1)) 2 (((M 62 2) + 1) + (dgs ((M 63)) ((M 62 1)) 5 (((M 62 2) + 1))))) 5 (dgs ((M 63)) ((M 62 1)) 5 (((M 62 2) + 1))))) 64 N9) : Mem) = (up1 (up1 M 62 (up (up (up (up (up (M 62) 3 (sgn ((M 63)) ((M 62) 1) ((M 62) 2))) 5 0) 2 ((M 62 2) + 1)) 2 (((M 62 2) + 1) + (dgs ((M 63)) ((M 62 1)) 5 (((M 62 2) + 1))))) 5 (dgs ((M 63)) ((M 62 1)) 5 (((M 62 2) + 1))))) 64 N9) from (by
            funext j
            by_cases hj0 : j = 62
            · subst hj0; simp [up1, up1_self]
            by_cases hj1 : j = 64
            · subst hj1; simp [up1, up1_self]
            simp [up1, hj0, hj1])]
      have hC : (clR (M 63) (M 62 1) (M 62 2)) = (0, M 62 2 + 1 + dgs (M 63) (M 62 1) 5 (M 62 2 + 1), dgs (M 63) (M 62 1) 5 (M 62 2 + 1)) := by unfold clR; rw [if_pos hs, if_neg (by omega)]
      have hN := h11
      rw [show ((up1 (up1 M 62 (up (up (up (up (up (M 62) 3 (sgn ((M 63)) ((M 62) 1) ((M 62) 2))) 5 0) 2 ((M 62 2) + 1)) 2 (((M 62 2) + 1) + (dgs ((M 63)) ((M 62 1)) 5 (((M 62 2) + 1))))) 5 (dgs ((M 63)) ((M 62 1)) 5 (((M 62 2) + 1))))) 64 N9) : Mem) = (up1 (up1 M 62 (up (up (up (M 62) 3 (sgn (M 63) (M 62 1) (M 62 2))) 2 (clR (M 63) (M 62 1) (M 62 2)).2.1) 5 (clR (M 63) (M 62 1) (M 62 2)).2.2)) 64 N9) from (by rw [zz_d, hC])]
      exact v_zret ok rt (by omega) dX5_readClause_76 (⟨N9, (congrArg (fun q : Int => some (iv q)) (show 0 = (clR (M 63) (M 62 1) (M 62 2)).1 from by (rw [hC]))), rfl, (by first | exact (fun q => by rw [hC] at q; exact absurd (show (0 : Int) = 1 from q) (by decide)) | exact (fun q j j0 j1 => by rw [hC] at j1; unfold clV; rw [if_pos (Or.inl hs)]; exact hN j j0 j1))⟩)
    · skip
      have h13 : 1 ≤ (dgs ((M 63)) ((M 62 1)) 5 (((M 62 2) + 1))) := h13
      have h14 : ∀ j : Int, 0 ≤ j → j < (dgs ((M 63)) ((M 62 1)) 5 (((M 62 2) + 1))) → N12 j = (M 63) (((M 62 2) + 1) + j) - 48 := h14
      show V z g 1 (up1 (up1 (up1 M 62 (up (up (up (M 62) 3 (sgn ((M 63)) ((M 62) 1) ((M 62) 2))) 5 0) 2 ((M 62 2) + 1))) 62 (up (up (up (up (up (M 62) 3 (sgn ((M 63)) ((M 62) 1) ((M 62) 2))) 5 0) 2 ((M 62 2) + 1)) 2 (((M 62 2) + 1) + (dgs ((M 63)) ((M 62 1)) 5 (((M 62 2) + 1))))) 5 (dgs ((M 63)) ((M 62 1)) 5 (((M 62 2) + 1))))) 64 N12) [(0, rf g 62)] [iv 1] 76
      rw [show ((up1 (up1 (up1 M 62 (up (up (up (M 62) 3 (sgn ((M 63)) ((M 62) 1) ((M 62) 2))) 5 0) 2 ((M 62 2) + 1))) 62 (up (up (up (up (up (M 62) 3 (sgn ((M 63)) ((M 62) 1) ((M 62) 2))) 5 0) 2 ((M 62 2) + 1)) 2 (((M 62 2) + 1) + (dgs ((M 63)) ((M 62 1)) 5 (((M 62 2) + 1))))) 5 (dgs ((M 63)) ((M 62 1)) 5 (((M 62 2) + 1))))) 64 N12) : Mem) = (up1 (up1 M 62 (up (up (up (up (up (M 62) 3 (sgn ((M 63)) ((M 62) 1) ((M 62) 2))) 5 0) 2 ((M 62 2) + 1)) 2 (((M 62 2) + 1) + (dgs ((M 63)) ((M 62 1)) 5 (((M 62 2) + 1))))) 5 (dgs ((M 63)) ((M 62 1)) 5 (((M 62 2) + 1))))) 64 N12) from (by
            funext j
            by_cases hj0 : j = 62
            · subst hj0; simp [up1, up1_self]
            by_cases hj1 : j = 64
            · subst hj1; simp [up1, up1_self]
            simp [up1, hj0, hj1])]
      have hC : (clR (M 63) (M 62 1) (M 62 2)) = (1, M 62 2 + 1 + dgs (M 63) (M 62 1) 5 (M 62 2 + 1), dgs (M 63) (M 62 1) 5 (M 62 2 + 1)) := by unfold clR; rw [if_pos hs, if_pos (by omega)]
      have hN := h14
      rw [show ((up1 (up1 M 62 (up (up (up (up (up (M 62) 3 (sgn ((M 63)) ((M 62) 1) ((M 62) 2))) 5 0) 2 ((M 62 2) + 1)) 2 (((M 62 2) + 1) + (dgs ((M 63)) ((M 62 1)) 5 (((M 62 2) + 1))))) 5 (dgs ((M 63)) ((M 62 1)) 5 (((M 62 2) + 1))))) 64 N12) : Mem) = (up1 (up1 M 62 (up (up (up (M 62) 3 (sgn (M 63) (M 62 1) (M 62 2))) 2 (clR (M 63) (M 62 1) (M 62 2)).2.1) 5 (clR (M 63) (M 62 1) (M 62 2)).2.2)) 64 N12) from (by rw [zz_d, hC])]
      exact v_zret ok rt (by omega) dX5_readClause_76 (⟨N12, (congrArg (fun q : Int => some (iv q)) (show 1 = (clR (M 63) (M 62 1) (M 62 2)).1 from by (rw [hC]))), rfl, (by first | exact (fun q => by rw [hC] at q; exact absurd (show (0 : Int) = 1 from q) (by decide)) | exact (fun q j j0 j1 => by rw [hC] at j1; unfold clV; rw [if_pos (Or.inl hs)]; exact hN j j0 j1))⟩)
  · skip
    by_cases e15 : (sgn ((M 63)) ((M 62) 1) ((M 62) 2)) = 107
    · skip
      refine v_lookup (off := 60) (tgt := 77) ok ⟨by omega, by omega⟩ (by decide) (by rw [e15]; decide) dX5_readClause_17 (by decide) ?_
      have hs := e15
      refine v_aload_n ok 0 dX5_readClause_77 rfl rfl ?_
      refine v_dup ok rfl dX5_readClause_78 ?_
      refine v_get (T := TX5) (N := 6) (f0 := up (up (M 62) 3 (sgn ((M 63)) ((M 62) 1) ((M 62) 2))) 5 0) (v := iv (M 62 2)) ok mi_X5_readClause_5 (kd_lt (show kd 62 = 5 from rfl) (by decide)) rfl rfl (cellF_5 _ (by decide)) 2 (by decide) mk_X5_readClause_19 rfl rfl dX5_readClause_79 ?_
      refine v_iconst (n := 1) ok dX5_readClause_82 ?_
      refine v_iadd ok dX5_readClause_83 ?_
      refine v_put (T := TX5) (N := 6) (f0 := up (up (M 62) 3 (sgn ((M 63)) ((M 62) 1) ((M 62) 2))) 5 0) (f' := up (up (up (M 62) 3 (sgn ((M 63)) ((M 62) 1) ((M 62) 2))) 5 0) 2 ((M 62 2) + 1)) (ty := .int) ok mi_X5_readClause_5 (kd_lt (show kd 62 = 5 from rfl) (by decide)) rfl rfl (cellF_5 _ (by decide)) tyX5 tyX5_ok nmX5 2 (by decide) mk_X5_readClause_19 rfl rfl (by decide +kernel) rfl rfl (Nat.le_of_ble_eq_true rfl) ((cellF_5 _ (by decide)).trans rfl) dX5_readClause_84 ?_
      rw [up1_up1]
      refine v_aload_n ok 0 dX5_readClause_87 rfl rfl ?_
      refine v_iconst (n := 3) ok dX5_readClause_88 ?_
      refine v_iconst (n := 3) ok dX5_readClause_89 ?_
      refine v_callV (na := 2) (i := 62) (C := RX5) (T := TX5) (N := 6) (f0 := up (up (up (M 62) 3 (sgn ((M 63)) ((M 62) 1) ((M 62) 2))) 5 0) 2 ((M 62 2) + 1)) ok (ct_X5_readDigits_3_3 z.2.1 g (up1 M 62 (up (up (up (M 62) 3 (sgn ((M 63)) ((M 62) 1) ((M 62) 2))) 5 0) 2 ((M 62 2) + 1)))  (by show 0 ≤ (M 62 1) ∧ (M 62 1) ≤ 100; first | omega | assumption) (by show 0 ≤ ((M 62 2) + 1) ∧ ((M 62 2) + 1) ≤ 800; first | omega | assumption) (by show bdf ((M 63)) 100 0 127; first | omega | assumption) (by show 0 = 0; first | omega | assumption)) gX5_readClause_X5_readDigits (kd_lt (show kd 62 = 5 from rfl) (by decide)) rfl rfl (cellF_5 _ (by decide)) rfl (by decide +kernel) rfl (by decide) [] rfl (Nat.le_of_ble_eq_true rfl) dX5_readClause_90 (fun v17 M18 hp16 => ?_)
      rcases hp16 with ⟨N19, rfl, rfl, h20, h21⟩ | ⟨N22, rfl, rfl, h23, h24⟩
      · skip
        have h20 : (dgs ((M 63)) ((M 62 1)) 3 (((M 62 2) + 1))) < 3 := h20
        have h21 : ∀ j : Int, 0 ≤ j → j < (dgs ((M 63)) ((M 62 1)) 3 (((M 62 2) + 1))) → N19 j = (M 63) (((M 62 2) + 1) + j) - 48 := h21
        show V z g 1 (up1 (up1 (up1 M 62 (up (up (up (M 62) 3 (sgn ((M 63)) ((M 62) 1) ((M 62) 2))) 5 0) 2 ((M 62 2) + 1))) 62 (up (up (up (up (up (M 62) 3 (sgn ((M 63)) ((M 62) 1) ((M 62) 2))) 5 0) 2 ((M 62 2) + 1)) 2 (((M 62 2) + 1) + (dgs ((M 63)) ((M 62 1)) 3 (((M 62 2) + 1))))) 5 (dgs ((M 63)) ((M 62 1)) 3 (((M 62 2) + 1))))) 64 N19) [(0, rf g 62)] [iv 0] 93
        rw [show ((up1 (up1 (up1 M 62 (up (up (up (M 62) 3 (sgn ((M 63)) ((M 62) 1) ((M 62) 2))) 5 0) 2 ((M 62 2) + 1))) 62 (up (up (up (up (up (M 62) 3 (sgn ((M 63)) ((M 62) 1) ((M 62) 2))) 5 0) 2 ((M 62 2) + 1)) 2 (((M 62 2) + 1) + (dgs ((M 63)) ((M 62 1)) 3 (((M 62 2) + 1))))) 5 (dgs ((M 63)) ((M 62 1)) 3 (((M 62 2) + 1))))) 64 N19) : Mem) = (up1 (up1 M 62 (up (up (up (up (up (M 62) 3 (sgn ((M 63)) ((M 62) 1) ((M 62) 2))) 5 0) 2 ((M 62 2) + 1)) 2 (((M 62 2) + 1) + (dgs ((M 63)) ((M 62 1)) 3 (((M 62 2) + 1))))) 5 (dgs ((M 63)) ((M 62 1)) 3 (((M 62 2) + 1))))) 64 N19) from (by
              funext j
              by_cases hj0 : j = 62
              · subst hj0; simp [up1, up1_self]
              by_cases hj1 : j = 64
              · subst hj1; simp [up1, up1_self]
              simp [up1, hj0, hj1])]
        have hC : (clR (M 63) (M 62 1) (M 62 2)) = (0, M 62 2 + 1 + dgs (M 63) (M 62 1) 3 (M 62 2 + 1), dgs (M 63) (M 62 1) 3 (M 62 2 + 1)) := by unfold clR; rw [if_neg (by omega), if_pos hs, if_neg (by omega)]
        have hN := h21
        rw [show ((up1 (up1 M 62 (up (up (up (up (up (M 62) 3 (sgn ((M 63)) ((M 62) 1) ((M 62) 2))) 5 0) 2 ((M 62 2) + 1)) 2 (((M 62 2) + 1) + (dgs ((M 63)) ((M 62 1)) 3 (((M 62 2) + 1))))) 5 (dgs ((M 63)) ((M 62 1)) 3 (((M 62 2) + 1))))) 64 N19) : Mem) = (up1 (up1 M 62 (up (up (up (M 62) 3 (sgn (M 63) (M 62 1) (M 62 2))) 2 (clR (M 63) (M 62 1) (M 62 2)).2.1) 5 (clR (M 63) (M 62 1) (M 62 2)).2.2)) 64 N19) from (by rw [zz_d, hC])]
        exact v_zret ok rt (by omega) dX5_readClause_93 (⟨N19, (congrArg (fun q : Int => some (iv q)) (show 0 = (clR (M 63) (M 62 1) (M 62 2)).1 from by (rw [hC]))), rfl, (by first | exact (fun q => by rw [hC] at q; exact absurd (show (0 : Int) = 1 from q) (by decide)) | exact (fun q j j0 j1 => by rw [hC] at j1; unfold clV; rw [if_pos (Or.inr hs)]; exact hN j j0 j1))⟩)
      · skip
        have h23 : 3 ≤ (dgs ((M 63)) ((M 62 1)) 3 (((M 62 2) + 1))) := h23
        have h24 : ∀ j : Int, 0 ≤ j → j < (dgs ((M 63)) ((M 62 1)) 3 (((M 62 2) + 1))) → N22 j = (M 63) (((M 62 2) + 1) + j) - 48 := h24
        show V z g 1 (up1 (up1 (up1 M 62 (up (up (up (M 62) 3 (sgn ((M 63)) ((M 62) 1) ((M 62) 2))) 5 0) 2 ((M 62 2) + 1))) 62 (up (up (up (up (up (M 62) 3 (sgn ((M 63)) ((M 62) 1) ((M 62) 2))) 5 0) 2 ((M 62 2) + 1)) 2 (((M 62 2) + 1) + (dgs ((M 63)) ((M 62 1)) 3 (((M 62 2) + 1))))) 5 (dgs ((M 63)) ((M 62 1)) 3 (((M 62 2) + 1))))) 64 N22) [(0, rf g 62)] [iv 1] 93
        rw [show ((up1 (up1 (up1 M 62 (up (up (up (M 62) 3 (sgn ((M 63)) ((M 62) 1) ((M 62) 2))) 5 0) 2 ((M 62 2) + 1))) 62 (up (up (up (up (up (M 62) 3 (sgn ((M 63)) ((M 62) 1) ((M 62) 2))) 5 0) 2 ((M 62 2) + 1)) 2 (((M 62 2) + 1) + (dgs ((M 63)) ((M 62 1)) 3 (((M 62 2) + 1))))) 5 (dgs ((M 63)) ((M 62 1)) 3 (((M 62 2) + 1))))) 64 N22) : Mem) = (up1 (up1 M 62 (up (up (up (up (up (M 62) 3 (sgn ((M 63)) ((M 62) 1) ((M 62) 2))) 5 0) 2 ((M 62 2) + 1)) 2 (((M 62 2) + 1) + (dgs ((M 63)) ((M 62 1)) 3 (((M 62 2) + 1))))) 5 (dgs ((M 63)) ((M 62 1)) 3 (((M 62 2) + 1))))) 64 N22) from (by
              funext j
              by_cases hj0 : j = 62
              · subst hj0; simp [up1, up1_self]
              by_cases hj1 : j = 64
              · subst hj1; simp [up1, up1_self]
              simp [up1, hj0, hj1])]
        have hC : (clR (M 63) (M 62 1) (M 62 2)) = (1, M 62 2 + 1 + dgs (M 63) (M 62 1) 3 (M 62 2 + 1), dgs (M 63) (M 62 1) 3 (M 62 2 + 1)) := by unfold clR; rw [if_neg (by omega), if_pos hs, if_pos (by omega)]
        have hN := h24
        rw [show ((up1 (up1 M 62 (up (up (up (up (up (M 62) 3 (sgn ((M 63)) ((M 62) 1) ((M 62) 2))) 5 0) 2 ((M 62 2) + 1)) 2 (((M 62 2) + 1) + (dgs ((M 63)) ((M 62 1)) 3 (((M 62 2) + 1))))) 5 (dgs ((M 63)) ((M 62 1)) 3 (((M 62 2) + 1))))) 64 N22) : Mem) = (up1 (up1 M 62 (up (up (up (M 62) 3 (sgn (M 63) (M 62 1) (M 62 2))) 2 (clR (M 63) (M 62 1) (M 62 2)).2.1) 5 (clR (M 63) (M 62 1) (M 62 2)).2.2)) 64 N22) from (by rw [zz_d, hC])]
        exact v_zret ok rt (by omega) dX5_readClause_93 (⟨N22, (congrArg (fun q : Int => some (iv q)) (show 1 = (clR (M 63) (M 62 1) (M 62 2)).1 from by (rw [hC]))), rfl, (by first | exact (fun q => by rw [hC] at q; exact absurd (show (0 : Int) = 1 from q) (by decide)) | exact (fun q j j0 j1 => by rw [hC] at j1; unfold clV; rw [if_pos (Or.inr hs)]; exact hN j j0 j1))⟩)
    · skip
      by_cases e25 : (sgn ((M 63)) ((M 62) 1) ((M 62) 2)) = 116
      · skip
        refine v_lookup (off := 94) (tgt := 111) ok ⟨by omega, by omega⟩ (by decide) (by rw [e25]; decide) dX5_readClause_17 (by decide) ?_
        have hs := e25
        refine v_aload_n ok 0 dX5_readClause_111 rfl rfl ?_
        refine v_dup ok rfl dX5_readClause_112 ?_
        refine v_get (T := TX5) (N := 6) (f0 := up (up (M 62) 3 (sgn ((M 63)) ((M 62) 1) ((M 62) 2))) 5 0) (v := iv (M 62 2)) ok mi_X5_readClause_5 (kd_lt (show kd 62 = 5 from rfl) (by decide)) rfl rfl (cellF_5 _ (by decide)) 2 (by decide) mk_X5_readClause_19 rfl rfl dX5_readClause_113 ?_
        refine v_iconst (n := 1) ok dX5_readClause_116 ?_
        refine v_iadd ok dX5_readClause_117 ?_
        refine v_put (T := TX5) (N := 6) (f0 := up (up (M 62) 3 (sgn ((M 63)) ((M 62) 1) ((M 62) 2))) 5 0) (f' := up (up (up (M 62) 3 (sgn ((M 63)) ((M 62) 1) ((M 62) 2))) 5 0) 2 ((M 62 2) + 1)) (ty := .int) ok mi_X5_readClause_5 (kd_lt (show kd 62 = 5 from rfl) (by decide)) rfl rfl (cellF_5 _ (by decide)) tyX5 tyX5_ok nmX5 2 (by decide) mk_X5_readClause_19 rfl rfl (by decide +kernel) rfl rfl (Nat.le_of_ble_eq_true rfl) ((cellF_5 _ (by decide)).trans rfl) dX5_readClause_118 ?_
        rw [up1_up1]
        refine v_aload_n ok 0 dX5_readClause_121 rfl rfl ?_
        refine v_bipush (n := 12) ok rfl dX5_readClause_122 ?_
        refine v_callV (na := 1) (i := 62) (C := RX5) (T := TX5) (N := 6) (f0 := up (up (up (M 62) 3 (sgn ((M 63)) ((M 62) 1) ((M 62) 2))) 5 0) 2 ((M 62 2) + 1)) ok (ct_X5_readNumbers_12 z.2.1 g (up1 M 62 (up (up (up (M 62) 3 (sgn ((M 63)) ((M 62) 1) ((M 62) 2))) 5 0) 2 ((M 62 2) + 1)))  (by show 0 ≤ (M 62 1) ∧ (M 62 1) ≤ 100; first | omega | assumption) (by show 0 ≤ ((M 62 2) + 1) ∧ ((M 62 2) + 1) ≤ 800; first | omega | assumption) (by show bdf ((M 63)) 100 0 127; first | omega | assumption) (by show 0 = 0; first | omega | assumption)) gX5_readClause_X5_readNumbers (kd_lt (show kd 62 = 5 from rfl) (by decide)) rfl rfl (cellF_5 _ (by decide)) rfl (by decide +kernel) rfl (by decide) [] rfl (Nat.le_of_ble_eq_true rfl) dX5_readClause_124 (fun v27 M28 hp26 => ?_)
        obtain ⟨N29, rfl, rfl, h30⟩ := hp26
        have h30 : ∀ j : Int, 0 ≤ j → j < (nrd ((M 63)) ((M 62 1)) (((M 62 2) + 1)) 12 0).2.2 → N29 j = nmv ((M 63)) (nst ((M 63)) ((M 62 1)) (((M 62 2) + 1)) j.toNat) (dgs ((M 63)) ((M 62 1)) 3 (nst ((M 63)) ((M 62 1)) (((M 62 2) + 1)) j.toNat)).toNat := h30
        show V z g 1 (up1 (up1 (up1 M 62 (up (up (up (M 62) 3 (sgn ((M 63)) ((M 62) 1) ((M 62) 2))) 5 0) 2 ((M 62 2) + 1))) 62 (up (up (up (up (up (M 62) 3 (sgn ((M 63)) ((M 62) 1) ((M 62) 2))) 5 0) 2 ((M 62 2) + 1)) 2 (nrd ((M 63)) ((M 62 1)) (((M 62 2) + 1)) 12 0).2.1) 5 (nrd ((M 63)) ((M 62 1)) (((M 62 2) + 1)) 12 0).2.2)) 64 N29) [(0, rf g 62)] [iv ((nrd ((M 63)) ((M 62 1)) (((M 62 2) + 1)) 12 0).1)] 127
        rw [show ((up1 (up1 (up1 M 62 (up (up (up (M 62) 3 (sgn ((M 63)) ((M 62) 1) ((M 62) 2))) 5 0) 2 ((M 62 2) + 1))) 62 (up (up (up (up (up (M 62) 3 (sgn ((M 63)) ((M 62) 1) ((M 62) 2))) 5 0) 2 ((M 62 2) + 1)) 2 (nrd ((M 63)) ((M 62 1)) (((M 62 2) + 1)) 12 0).2.1) 5 (nrd ((M 63)) ((M 62 1)) (((M 62 2) + 1)) 12 0).2.2)) 64 N29) : Mem) = (up1 (up1 M 62 (up (up (up (up (up (M 62) 3 (sgn ((M 63)) ((M 62) 1) ((M 62) 2))) 5 0) 2 ((M 62 2) + 1)) 2 (nrd ((M 63)) ((M 62 1)) (((M 62 2) + 1)) 12 0).2.1) 5 (nrd ((M 63)) ((M 62 1)) (((M 62 2) + 1)) 12 0).2.2)) 64 N29) from (by
              funext j
              by_cases hj0 : j = 62
              · subst hj0; simp [up1, up1_self]
              by_cases hj1 : j = 64
              · subst hj1; simp [up1, up1_self]
              simp [up1, hj0, hj1])]
        have hC : (clR (M 63) (M 62 1) (M 62 2)) = nrd (M 63) (M 62 1) (M 62 2 + 1) 12 0 := by unfold clR; rw [if_neg (by omega), if_neg (by omega), if_neg (by omega), if_pos hs]
        have hN := h30
        have h01 := nrd_01 (T := M 63) (L := M 62 1) (p := M 62 2 + 1) 12 0
        rw [show ((up1 (up1 M 62 (up (up (up (up (up (M 62) 3 (sgn ((M 63)) ((M 62) 1) ((M 62) 2))) 5 0) 2 ((M 62 2) + 1)) 2 (nrd ((M 63)) ((M 62 1)) (((M 62 2) + 1)) 12 0).2.1) 5 (nrd ((M 63)) ((M 62 1)) (((M 62 2) + 1)) 12 0).2.2)) 64 N29) : Mem) = (up1 (up1 M 62 (up (up (up (M 62) 3 (sgn (M 63) (M 62 1) (M 62 2))) 2 (clR (M 63) (M 62 1) (M 62 2)).2.1) 5 (clR (M 63) (M 62 1) (M 62 2)).2.2)) 64 N29) from (by rw [zz_d, hC])]
        exact v_zret ok rt (by (first | exact h01 | exact Or.comm.mp h01)) dX5_readClause_127 (⟨N29, (congrArg (fun q : Int => some (iv q)) (show ((nrd ((M 63)) ((M 62 1)) (((M 62 2) + 1)) 12 0).1) = (clR (M 63) (M 62 1) (M 62 2)).1 from by (rw [hC]))), rfl, (fun q j j0 j1 => by rw [hC] at j1; unfold clV; rw [if_neg (by omega)]; exact hN j j0 j1)⟩)
      · skip
        by_cases e31 : (sgn ((M 63)) ((M 62) 1) ((M 62) 2)) = 119
        · skip
          refine v_lookup (off := 77) (tgt := 94) ok ⟨by omega, by omega⟩ (by decide) (by rw [e31]; decide) dX5_readClause_17 (by decide) ?_
          have hs := e31
          refine v_aload_n ok 0 dX5_readClause_94 rfl rfl ?_
          refine v_dup ok rfl dX5_readClause_95 ?_
          refine v_get (T := TX5) (N := 6) (f0 := up (up (M 62) 3 (sgn ((M 63)) ((M 62) 1) ((M 62) 2))) 5 0) (v := iv (M 62 2)) ok mi_X5_readClause_5 (kd_lt (show kd 62 = 5 from rfl) (by decide)) rfl rfl (cellF_5 _ (by decide)) 2 (by decide) mk_X5_readClause_19 rfl rfl dX5_readClause_96 ?_
          refine v_iconst (n := 1) ok dX5_readClause_99 ?_
          refine v_iadd ok dX5_readClause_100 ?_
          refine v_put (T := TX5) (N := 6) (f0 := up (up (M 62) 3 (sgn ((M 63)) ((M 62) 1) ((M 62) 2))) 5 0) (f' := up (up (up (M 62) 3 (sgn ((M 63)) ((M 62) 1) ((M 62) 2))) 5 0) 2 ((M 62 2) + 1)) (ty := .int) ok mi_X5_readClause_5 (kd_lt (show kd 62 = 5 from rfl) (by decide)) rfl rfl (cellF_5 _ (by decide)) tyX5 tyX5_ok nmX5 2 (by decide) mk_X5_readClause_19 rfl rfl (by decide +kernel) rfl rfl (Nat.le_of_ble_eq_true rfl) ((cellF_5 _ (by decide)).trans rfl) dX5_readClause_101 ?_
          rw [up1_up1]
          refine v_aload_n ok 0 dX5_readClause_104 rfl rfl ?_
          refine v_bipush (n := 8) ok rfl dX5_readClause_105 ?_
          refine v_callV (na := 1) (i := 62) (C := RX5) (T := TX5) (N := 6) (f0 := up (up (up (M 62) 3 (sgn ((M 63)) ((M 62) 1) ((M 62) 2))) 5 0) 2 ((M 62 2) + 1)) ok (ct_X5_readNumbers_8 z.2.1 g (up1 M 62 (up (up (up (M 62) 3 (sgn ((M 63)) ((M 62) 1) ((M 62) 2))) 5 0) 2 ((M 62 2) + 1)))  (by show 0 ≤ (M 62 1) ∧ (M 62 1) ≤ 100; first | omega | assumption) (by show 0 ≤ ((M 62 2) + 1) ∧ ((M 62 2) + 1) ≤ 800; first | omega | assumption) (by show bdf ((M 63)) 100 0 127; first | omega | assumption) (by show 0 = 0; first | omega | assumption)) gX5_readClause_X5_readNumbers (kd_lt (show kd 62 = 5 from rfl) (by decide)) rfl rfl (cellF_5 _ (by decide)) rfl (by decide +kernel) rfl (by decide) [] rfl (Nat.le_of_ble_eq_true rfl) dX5_readClause_107 (fun v33 M34 hp32 => ?_)
          obtain ⟨N35, rfl, rfl, h36⟩ := hp32
          have h36 : ∀ j : Int, 0 ≤ j → j < (nrd ((M 63)) ((M 62 1)) (((M 62 2) + 1)) 8 0).2.2 → N35 j = nmv ((M 63)) (nst ((M 63)) ((M 62 1)) (((M 62 2) + 1)) j.toNat) (dgs ((M 63)) ((M 62 1)) 3 (nst ((M 63)) ((M 62 1)) (((M 62 2) + 1)) j.toNat)).toNat := h36
          show V z g 1 (up1 (up1 (up1 M 62 (up (up (up (M 62) 3 (sgn ((M 63)) ((M 62) 1) ((M 62) 2))) 5 0) 2 ((M 62 2) + 1))) 62 (up (up (up (up (up (M 62) 3 (sgn ((M 63)) ((M 62) 1) ((M 62) 2))) 5 0) 2 ((M 62 2) + 1)) 2 (nrd ((M 63)) ((M 62 1)) (((M 62 2) + 1)) 8 0).2.1) 5 (nrd ((M 63)) ((M 62 1)) (((M 62 2) + 1)) 8 0).2.2)) 64 N35) [(0, rf g 62)] [iv ((nrd ((M 63)) ((M 62 1)) (((M 62 2) + 1)) 8 0).1)] 110
          rw [show ((up1 (up1 (up1 M 62 (up (up (up (M 62) 3 (sgn ((M 63)) ((M 62) 1) ((M 62) 2))) 5 0) 2 ((M 62 2) + 1))) 62 (up (up (up (up (up (M 62) 3 (sgn ((M 63)) ((M 62) 1) ((M 62) 2))) 5 0) 2 ((M 62 2) + 1)) 2 (nrd ((M 63)) ((M 62 1)) (((M 62 2) + 1)) 8 0).2.1) 5 (nrd ((M 63)) ((M 62 1)) (((M 62 2) + 1)) 8 0).2.2)) 64 N35) : Mem) = (up1 (up1 M 62 (up (up (up (up (up (M 62) 3 (sgn ((M 63)) ((M 62) 1) ((M 62) 2))) 5 0) 2 ((M 62 2) + 1)) 2 (nrd ((M 63)) ((M 62 1)) (((M 62 2) + 1)) 8 0).2.1) 5 (nrd ((M 63)) ((M 62 1)) (((M 62 2) + 1)) 8 0).2.2)) 64 N35) from (by
                funext j
                by_cases hj0 : j = 62
                · subst hj0; simp [up1, up1_self]
                by_cases hj1 : j = 64
                · subst hj1; simp [up1, up1_self]
                simp [up1, hj0, hj1])]
          have hC : (clR (M 63) (M 62 1) (M 62 2)) = nrd (M 63) (M 62 1) (M 62 2 + 1) 8 0 := by unfold clR; rw [if_neg (by omega), if_neg (by omega), if_pos hs]
          have hN := h36
          have h01 := nrd_01 (T := M 63) (L := M 62 1) (p := M 62 2 + 1) 8 0
          rw [show ((up1 (up1 M 62 (up (up (up (up (up (M 62) 3 (sgn ((M 63)) ((M 62) 1) ((M 62) 2))) 5 0) 2 ((M 62 2) + 1)) 2 (nrd ((M 63)) ((M 62 1)) (((M 62 2) + 1)) 8 0).2.1) 5 (nrd ((M 63)) ((M 62 1)) (((M 62 2) + 1)) 8 0).2.2)) 64 N35) : Mem) = (up1 (up1 M 62 (up (up (up (M 62) 3 (sgn (M 63) (M 62 1) (M 62 2))) 2 (clR (M 63) (M 62 1) (M 62 2)).2.1) 5 (clR (M 63) (M 62 1) (M 62 2)).2.2)) 64 N35) from (by rw [zz_d, hC])]
          exact v_zret ok rt (by (first | exact h01 | exact Or.comm.mp h01)) dX5_readClause_110 (⟨N35, (congrArg (fun q : Int => some (iv q)) (show ((nrd ((M 63)) ((M 62 1)) (((M 62 2) + 1)) 8 0).1) = (clR (M 63) (M 62 1) (M 62 2)).1 from by (rw [hC]))), rfl, (fun q j j0 j1 => by rw [hC] at j1; unfold clV; rw [if_neg (by omega)]; exact hN j j0 j1)⟩)
        · skip
          refine v_lookup (off := 111) (tgt := 128) ok ⟨by omega, by omega⟩ (by decide) (by simp [Op.lookupswitch.offset, Ne.symm e5, e5, Ne.symm e15, e15, Ne.symm e25, e25, Ne.symm e31, e31]) dX5_readClause_17 (by decide) ?_
          have hC : (clR (M 63) (M 62 1) (M 62 2)) = (0, M 62 2, 0) := by unfold clR; rw [if_neg (by omega), if_neg (by omega), if_neg (by omega), if_neg (by omega)]
          rw [show ((up1 M 62 (up (up (M 62) 3 (sgn ((M 63)) ((M 62) 1) ((M 62) 2))) 5 0)) : Mem) = (up1 (up1 M 62 (up (up (up (M 62) 3 (sgn (M 63) (M 62 1) (M 62 2))) 2 (clR (M 63) (M 62 1) (M 62 2)).2.1) 5 (clR (M 63) (M 62 1) (M 62 2)).2.2)) 64 (M 64)) from (by rw [hC]; exact zz_f)]
          refine v_iconst (n := 0) ok dX5_readClause_128 ?_
          exact v_zret ok rt (by omega) dX5_readClause_129 (⟨(M 64), (congrArg (fun q : Int => some (iv q)) (show 0 = (clR (M 63) (M 62 1) (M 62 2)).1 from by (rw [hC]))), rfl, (fun q => by rw [hC] at q; exact absurd (show (0 : Int) = 1 from q) (by decide))⟩)

theorem mk_X5_findFault_19 : Cond.fieldLink RX5 19 "StormRunoff$SetUp" "at" "I" ∈ wsX5_findFault := by decide +kernel
theorem mi_X5_findFault_5 : ∀ w ∈ wsX50, w ∈ wsX5_findFault := by decide +kernel
theorem mk_X5_findFault_15 : Cond.fieldLink RX5 15 "StormRunoff$SetUp" "length" "I" ∈ wsX5_findFault := by decide +kernel
set_option maxRecDepth 100000 in
set_option maxHeartbeats 400000 in
theorem ct_X5_findFault (l : Launch) (g : Gl) (M : Mem)  (hL : 0 ≤ M 62 1 ∧ M 62 1 ≤ 100) (hG : bdf (M 63) 100 0 127) : Ct l g yX5_findFault wsX5_findFault 4 89 [rf g 62] M (fun rv M' => ∃ (s p m : Int) (N : Int → Int), rv = some (iv (ffR (M 63) (M 62 1) 12 0)) ∧ M' = (up1 (up1 M 62 (up (up (up (M 62) 3 s) 2 p) 5 m)) 64 N)) := by
  refine Ct.of (cc := cX5_findFault) (nL := 2) (ret := (some .int)) (by decide) rfl (Nat.le_of_ble_eq_true rfl) (fun z hz ok rt => ?_)
  have ok : Ok z g cX5_findFault 2 RX5 wsX5_findFault 4 89 := ok
  show V z g 2 M [(0, rf g 62)] [] 0
  refine v_aload_n ok 0 dX5_findFault_0 rfl rfl ?_
  refine v_callV (na := 0) (i := 62) (C := RX5) (T := TX5) (N := 6) (f0 := (M 62)) ok (ct_X5_begin z.2.1 g M  ) gX5_findFault_X5_begin (kd_lt (show kd 62 = 5 from rfl) (by decide)) rfl rfl (cellF_5 _ (by decide)) rfl (by decide +kernel) rfl (by decide) [] rfl (Nat.le_of_ble_eq_true rfl) dX5_findFault_1 (fun v2 M3 hp1 => ?_)
  obtain ⟨rfl, rfl⟩ := hp1
  show V z g 2 (up1 M 62 (up ((M 62)) 2 0)) [(0, rf g 62)] [] 4
  refine v_iconst (n := 1) ok dX5_findFault_4 ?_
  refine v_istore_n ok [(1, iv 1), (0, rf g 62)] dX5_findFault_5 rfl (by decide) rfl ?_
  have lp6 : ∀ (fu : Nat) (c s p m : Int) (N : Int → Int), (1 ≤ c ∧ c ≤ 13) → (0 ≤ p ∧ p ≤ M 62 1) → (ffR (M 63) (M 62 1) 12 0 = ffR (M 63) (M 62 1) (13 - c).toNat p) → (13 - c).toNat < fu → V z g 2 (up1 (up1 M 62 (up (up (up (M 62) 3 s) 2 p) 5 m)) 64 N) [(0, rf g 62), (1, iv c)] [] 6 := by
    intro fu
    induction fu with
    | zero => intro c s p m N _ _ _ hm; exact absurd hm (Nat.not_lt_zero _)
    | succ fu ih6 =>
      intro c s p m N i6_0 i6_1 i6_2 hm6
      have hrg := clR_rng (T := M 63) i6_1
      refine v_iload_n ok 1 dX5_findFault_6 rfl rfl ?_
      refine v_bipush (n := 12) ok rfl dX5_findFault_7 ?_
      refine v_icmp_gt (tgt := 63) ok ⟨by omega, by omega⟩ (by decide) dX5_findFault_9 (by decide) (fun c4 => ?_) (fun c4 => ?_)
      · skip
        refine v_aload_n ok 0 dX5_findFault_63 rfl rfl ?_
        refine v_get (T := TX5) (N := 6) (f0 := (up (up (up (M 62) 3 s) 2 p) 5 m)) (v := iv p) ok mi_X5_findFault_5 (kd_lt (show kd 62 = 5 from rfl) (by decide)) rfl rfl (cellF_5 _ (by decide)) 2 (by decide) mk_X5_findFault_19 rfl rfl dX5_findFault_64 ?_
        exact v_iret ok rt dX5_findFault_67 (⟨s, p, m, N, (congrArg (fun q : Int => some (iv q)) (show p = (ffR (M 63) (M 62 1) 12 0) from by (rw [i6_2, show (13 - c).toNat = 0 by omega]; rfl))), rfl⟩)
      · skip
        refine v_aload_n ok 0 dX5_findFault_12 rfl rfl ?_
        refine v_callV (na := 0) (i := 62) (C := RX5) (T := TX5) (N := 6) (f0 := (up (up (up (M 62) 3 s) 2 p) 5 m)) ok (ct_X5_readClause z.2.1 g (up1 (up1 M 62 (up (up (up (M 62) 3 s) 2 p) 5 m)) 64 N)  (by show 0 ≤ (M 62 1) ∧ (M 62 1) ≤ 100; first | omega | assumption) (by show 0 ≤ p ∧ p ≤ 700; first | omega | assumption) (by show bdf ((M 63)) 100 0 127; first | omega | assumption)) gX5_findFault_X5_readClause (kd_lt (show kd 62 = 5 from rfl) (by decide)) rfl rfl (cellF_5 _ (by decide)) rfl (by decide +kernel) rfl (by decide) [] rfl (Nat.le_of_ble_eq_true rfl) dX5_findFault_13 (fun v6 M7 hp5 => ?_)
        obtain ⟨N8, rfl, rfl, h9⟩ := hp5
        have h9 : (clR ((M 63)) ((M 62 1)) (p)).1 = 1 → ∀ j : Int, 0 ≤ j → j < (clR ((M 63)) ((M 62 1)) (p)).2.2 → N8 j = clV ((M 63)) ((M 62 1)) (p) j := h9
        show V z g 2 (up1 (up1 (up1 (up1 M 62 (up (up (up (M 62) 3 s) 2 p) 5 m)) 64 N) 62 (up (up (up ((up (up (up (M 62) 3 s) 2 p) 5 m)) 3 (sgn ((M 63)) ((M 62 1)) (p))) 2 (clR ((M 63)) ((M 62 1)) (p)).2.1) 5 (clR ((M 63)) ((M 62 1)) (p)).2.2)) 64 N8) [(0, rf g 62), (1, iv c)] [iv ((clR ((M 63)) ((M 62 1)) (p)).1)] 16
        rw [show ((up1 (up1 (up1 (up1 M 62 (up (up (up (M 62) 3 s) 2 p) 5 m)) 64 N) 62 (up (up (up ((up (up (up (M 62) 3 s) 2 p) 5 m)) 3 (sgn ((M 63)) ((M 62 1)) (p))) 2 (clR ((M 63)) ((M 62 1)) (p)).2.1) 5 (clR ((M 63)) ((M 62 1)) (p)).2.2)) 64 N8) : Mem) = (up1 (up1 M 62 (up (up (up ((up (up (up (M 62) 3 s) 2 p) 5 m)) 3 (sgn ((M 63)) ((M 62 1)) (p))) 2 (clR ((M 63)) ((M 62 1)) (p)).2.1) 5 (clR ((M 63)) ((M 62 1)) (p)).2.2)) 64 N8) from (by
              funext j
              by_cases hj0 : j = 62
              · subst hj0; simp [up1, up1_self]
              by_cases hj1 : j = 64
              · subst hj1; simp [up1, up1_self]
              simp [up1, hj0, hj1])]
        rw [show ((up1 (up1 M 62 (up (up (up ((up (up (up (M 62) 3 s) 2 p) 5 m)) 3 (sgn ((M 63)) ((M 62 1)) (p))) 2 (clR ((M 63)) ((M 62 1)) (p)).2.1) 5 (clR ((M 63)) ((M 62 1)) (p)).2.2)) 64 N8) : Mem) = (up1 (up1 M 62 (up (up (up (M 62) 3 (sgn (M 63) (M 62 1) p)) 2 (clR (M 63) (M 62 1) p).2.1) 5 (clR (M 63) (M 62 1) p).2.2)) 64 N8) from (by rw [zz_e])]
        refine v_if_ne (tgt := 24) ok ⟨by omega, by omega⟩ dX5_findFault_16 (by decide) (fun c10 => ?_) (fun c10 => ?_)
        · skip
          refine v_aload_n ok 0 dX5_findFault_24 rfl rfl ?_
          refine v_get (T := TX5) (N := 6) (f0 := (up (up (up (M 62) 3 (sgn (M 63) (M 62 1) p)) 2 (clR (M 63) (M 62 1) p).2.1) 5 (clR (M 63) (M 62 1) p).2.2)) (v := iv ((clR (M 63) (M 62 1) p).2.1)) ok mi_X5_findFault_5 (kd_lt (show kd 62 = 5 from rfl) (by decide)) rfl rfl (cellF_5 _ (by decide)) 2 (by decide) mk_X5_findFault_19 rfl rfl dX5_findFault_25 ?_
          refine v_aload_n ok 0 dX5_findFault_28 rfl rfl ?_
          refine v_get (T := TX5) (N := 6) (f0 := (up (up (up (M 62) 3 (sgn (M 63) (M 62 1) p)) 2 (clR (M 63) (M 62 1) p).2.1) 5 (clR (M 63) (M 62 1) p).2.2)) (v := iv (M 62 1)) ok mi_X5_findFault_5 (kd_lt (show kd 62 = 5 from rfl) (by decide)) rfl rfl (cellF_5 _ (by decide)) 1 (by decide) mk_X5_findFault_15 rfl rfl dX5_findFault_29 ?_
          refine v_icmp_lt (tgt := 37) ok ⟨by omega, by omega⟩ ⟨by omega, by omega⟩ dX5_findFault_32 (by decide) (fun c11 => ?_) (fun c11 => ?_)
          · skip
            refine v_iload_n ok 1 dX5_findFault_37 rfl rfl ?_
            refine v_bipush (n := 12) ok rfl dX5_findFault_38 ?_
            refine v_icmp_eq (tgt := 52) ok ⟨by omega, by omega⟩ (by decide) dX5_findFault_40 (by decide) (fun c12 => ?_) (fun c12 => ?_)
            · skip
              refine v_aload_n ok 0 dX5_findFault_52 rfl rfl ?_
              refine v_get (T := TX5) (N := 6) (f0 := (up (up (up (M 62) 3 (sgn (M 63) (M 62 1) p)) 2 (clR (M 63) (M 62 1) p).2.1) 5 (clR (M 63) (M 62 1) p).2.2)) (v := iv ((clR (M 63) (M 62 1) p).2.1)) ok mi_X5_findFault_5 (kd_lt (show kd 62 = 5 from rfl) (by decide)) rfl rfl (cellF_5 _ (by decide)) 2 (by decide) mk_X5_findFault_19 rfl rfl dX5_findFault_53 ?_
              exact v_iret ok rt dX5_findFault_56 (⟨(sgn (M 63) (M 62 1) p), ((clR (M 63) (M 62 1) p).2.1), ((clR (M 63) (M 62 1) p).2.2), N8, (congrArg (fun q : Int => some (iv q)) (show ((clR (M 63) (M 62 1) p).2.1) = (ffR (M 63) (M 62 1) 12 0) from by (rw [i6_2, show (13 - c).toNat = (12 - c).toNat + 1 by omega, ffR, if_neg (by omega), if_neg (by omega), if_pos (by first | exact Or.inr hsg | (left; omega))]))), rfl⟩)
            · skip
              refine v_aload_n ok 0 dX5_findFault_43 rfl rfl ?_
              refine v_bipush (n := 59) ok rfl dX5_findFault_44 ?_
              refine v_callV (na := 1) (i := 62) (C := RX5) (T := TX5) (N := 6) (f0 := (up (up (up (M 62) 3 (sgn (M 63) (M 62 1) p)) 2 (clR (M 63) (M 62 1) p).2.1) 5 (clR (M 63) (M 62 1) p).2.2)) ok (ct_X5_stepOver z.2.1 g (up1 (up1 M 62 (up (up (up (M 62) 3 (sgn (M 63) (M 62 1) p)) 2 (clR (M 63) (M 62 1) p).2.1) 5 (clR (M 63) (M 62 1) p).2.2)) 64 N8) 59 (by show 0 ≤ (M 62 1) ∧ (M 62 1) ≤ 100; first | omega | assumption) (by show 0 ≤ ((clR (M 63) (M 62 1) p).2.1) ∧ ((clR (M 63) (M 62 1) p).2.1) ≤ 1000; first | omega | assumption) (by show bdf ((M 63)) 100 0 127; first | omega | assumption) (by decide)) gX5_findFault_X5_stepOver (kd_lt (show kd 62 = 5 from rfl) (by decide)) rfl rfl (cellF_5 _ (by decide)) rfl (by decide +kernel) rfl (by decide) [] rfl (Nat.le_of_ble_eq_true rfl) dX5_findFault_46 (fun v14 M15 hp13 => ?_)
              rcases hp13 with ⟨rfl, rfl, h16⟩ | ⟨rfl, rfl, h17⟩
              · skip
                have h16 : (sgn ((M 63)) ((M 62 1)) (((clR (M 63) (M 62 1) p).2.1))) ≠ 59 := h16
                show V z g 2 (up1 (up1 M 62 (up (up (up (M 62) 3 (sgn (M 63) (M 62 1) p)) 2 (clR (M 63) (M 62 1) p).2.1) 5 (clR (M 63) (M 62 1) p).2.2)) 64 N8) [(0, rf g 62), (1, iv c)] [iv 0] 49
                have hsg := h16
                refine v_if_ne (tgt := 57) ok (by decide) dX5_findFault_49 (by decide) (fun c18 => absurd c18 (by decide)) (fun c18 => ?_)
                refine v_aload_n ok 0 dX5_findFault_52 rfl rfl ?_
                refine v_get (T := TX5) (N := 6) (f0 := (up (up (up (M 62) 3 (sgn (M 63) (M 62 1) p)) 2 (clR (M 63) (M 62 1) p).2.1) 5 (clR (M 63) (M 62 1) p).2.2)) (v := iv ((clR (M 63) (M 62 1) p).2.1)) ok mi_X5_findFault_5 (kd_lt (show kd 62 = 5 from rfl) (by decide)) rfl rfl (cellF_5 _ (by decide)) 2 (by decide) mk_X5_findFault_19 rfl rfl dX5_findFault_53 ?_
                exact v_iret ok rt dX5_findFault_56 (⟨(sgn (M 63) (M 62 1) p), ((clR (M 63) (M 62 1) p).2.1), ((clR (M 63) (M 62 1) p).2.2), N8, (congrArg (fun q : Int => some (iv q)) (show ((clR (M 63) (M 62 1) p).2.1) = (ffR (M 63) (M 62 1) 12 0) from by (rw [i6_2, show (13 - c).toNat = (12 - c).toNat + 1 by omega, ffR, if_neg (by omega), if_neg (by omega), if_pos (by first | exact Or.inr hsg | (left; omega))]))), rfl⟩)
              · skip
                have h17 : (sgn ((M 63)) ((M 62 1)) (((clR (M 63) (M 62 1) p).2.1))) = 59 := h17
                show V z g 2 (up1 (up1 (up1 M 62 (up (up (up (M 62) 3 (sgn (M 63) (M 62 1) p)) 2 (clR (M 63) (M 62 1) p).2.1) 5 (clR (M 63) (M 62 1) p).2.2)) 64 N8) 62 (up ((up (up (up (M 62) 3 (sgn (M 63) (M 62 1) p)) 2 (clR (M 63) (M 62 1) p).2.1) 5 (clR (M 63) (M 62 1) p).2.2)) 2 (((clR (M 63) (M 62 1) p).2.1) + 1))) [(0, rf g 62), (1, iv c)] [iv 1] 49
                rw [show ((up1 (up1 (up1 M 62 (up (up (up (M 62) 3 (sgn (M 63) (M 62 1) p)) 2 (clR (M 63) (M 62 1) p).2.1) 5 (clR (M 63) (M 62 1) p).2.2)) 64 N8) 62 (up ((up (up (up (M 62) 3 (sgn (M 63) (M 62 1) p)) 2 (clR (M 63) (M 62 1) p).2.1) 5 (clR (M 63) (M 62 1) p).2.2)) 2 (((clR (M 63) (M 62 1) p).2.1) + 1))) : Mem) = (up1 (up1 M 62 (up ((up (up (up (M 62) 3 (sgn (M 63) (M 62 1) p)) 2 (clR (M 63) (M 62 1) p).2.1) 5 (clR (M 63) (M 62 1) p).2.2)) 2 (((clR (M 63) (M 62 1) p).2.1) + 1))) 64 N8) from (by
                      funext j
                      by_cases hj0 : j = 62
                      · subst hj0; simp [up1, up1_self]
                      by_cases hj1 : j = 64
                      · subst hj1; simp [up1, up1_self]
                      simp [up1, hj0, hj1])]
                have hsg := h17
                have hb2 : ffR (M 63) (M 62 1) 12 0 = ffR (M 63) (M 62 1) (13 - (c + 1)).toNat ((clR (M 63) (M 62 1) p).2.1 + 1) := by rw [i6_2, show (13 - c).toNat = (13 - (c + 1)).toNat + 1 by omega, ffR, if_neg (by omega), if_neg (by omega), if_neg (by omega)]
                rw [show ((up1 (up1 M 62 (up ((up (up (up (M 62) 3 (sgn (M 63) (M 62 1) p)) 2 (clR (M 63) (M 62 1) p).2.1) 5 (clR (M 63) (M 62 1) p).2.2)) 2 (((clR (M 63) (M 62 1) p).2.1) + 1))) 64 N8) : Mem) = (up1 (up1 M 62 (up (up (up (M 62) 3 (sgn (M 63) (M 62 1) p)) 2 ((clR (M 63) (M 62 1) p).2.1 + 1)) 5 (clR (M 63) (M 62 1) p).2.2)) 64 N8) from (by rw [up3])]
                refine v_if_ne (tgt := 57) ok (by decide) dX5_findFault_49 (by decide) (fun c19 => ?_) (fun c19 => absurd c19 (by decide))
                refine v_iinc ok 1 [(1, iv (c + 1)), (0, rf g 62)] dX5_findFault_57 rfl (by decide) rfl ?_
                refine v_goto (tgt := 6) ok dX5_findFault_60 (by decide) ?_
                refine v_lv (ls' := [(0, rf g 62), (1, iv (c + 1))]) ok [1, 0] rfl ?_
                rw [show ((up1 (up1 M 62 (up (up (up (M 62) 3 (sgn (M 63) (M 62 1) p)) 2 ((clR (M 63) (M 62 1) p).2.1 + 1)) 5 (clR (M 63) (M 62 1) p).2.2)) 64 N8) : Mem) = (up1 (up1 M 62 (up (up (up (M 62) 3 (sgn (M 63) (M 62 1) p)) 2 ((clR (M 63) (M 62 1) p).2.1 + 1)) 5 ((clR (M 63) (M 62 1) p).2.2))) 64 N8) from (by
                      funext j
                      by_cases hj0 : j = 62
                      · subst hj0; simp [up1, up1_self]
                      by_cases hj1 : j = 64
                      · subst hj1; simp [up1, up1_self]
                      simp [up1, hj0, hj1])]
                exact ih6 (c + 1) (sgn (M 63) (M 62 1) p) ((clR (M 63) (M 62 1) p).2.1 + 1) ((clR (M 63) (M 62 1) p).2.2) N8 (by omega) (by omega) hb2 (by omega)
          · skip
            refine v_iconst (n := -1) ok dX5_findFault_35 ?_
            exact v_iret ok rt dX5_findFault_36 (⟨(sgn (M 63) (M 62 1) p), ((clR (M 63) (M 62 1) p).2.1), ((clR (M 63) (M 62 1) p).2.2), N8, (congrArg (fun q : Int => some (iv q)) (show (-1) = (ffR (M 63) (M 62 1) 12 0) from by (rw [i6_2, show (13 - c).toNat = (12 - c).toNat + 1 by omega, ffR, if_neg (by omega), if_pos (by omega)]))), rfl⟩)
        · skip
          refine v_aload_n ok 0 dX5_findFault_19 rfl rfl ?_
          refine v_get (T := TX5) (N := 6) (f0 := (up (up (up (M 62) 3 (sgn (M 63) (M 62 1) p)) 2 (clR (M 63) (M 62 1) p).2.1) 5 (clR (M 63) (M 62 1) p).2.2)) (v := iv ((clR (M 63) (M 62 1) p).2.1)) ok mi_X5_findFault_5 (kd_lt (show kd 62 = 5 from rfl) (by decide)) rfl rfl (cellF_5 _ (by decide)) 2 (by decide) mk_X5_findFault_19 rfl rfl dX5_findFault_20 ?_
          exact v_iret ok rt dX5_findFault_23 (⟨(sgn (M 63) (M 62 1) p), ((clR (M 63) (M 62 1) p).2.1), ((clR (M 63) (M 62 1) p).2.2), N8, (congrArg (fun q : Int => some (iv q)) (show ((clR (M 63) (M 62 1) p).2.1) = (ffR (M 63) (M 62 1) 12 0) from by (rw [i6_2, show (13 - c).toNat = (12 - c).toNat + 1 by omega, ffR, if_pos (by omega)]))), rfl⟩)
  rw [show ((up1 M 62 (up ((M 62)) 2 0)) : Mem) = (up1 (up1 M 62 (up (up (up (M 62) 3 (M 62 3)) 2 0) 5 (M 62 5))) 64 (M 64)) from zz_g]
  refine v_lv (ls' := [(0, rf g 62), (1, iv 1)]) ok [1, 0] rfl ?_
  rw [show ((up1 (up1 M 62 (up (up (up (M 62) 3 (M 62 3)) 2 0) 5 (M 62 5))) 64 (M 64)) : Mem) = (up1 (up1 M 62 (up (up (up (M 62) 3 (M 62 3)) 2 (0 : Int)) 5 (M 62 5))) 64 (M 64)) from (by
        funext j
        by_cases hj0 : j = 62
        · subst hj0; simp [up1, up1_self]
        by_cases hj1 : j = 64
        · subst hj1; simp [up1, up1_self]
        simp [up1, hj0, hj1])]
  exact lp6 _ 1 (M 62 3) 0 (M 62 5) (M 64) (by omega) (by omega) rfl (Nat.lt_succ_self _)

theorem mk_X5_digitsTogether_28 : Cond.fieldLink RX5 28 "StormRunoff$SetUp" "many" "I" ∈ wsX5_digitsTogether := by decide +kernel
theorem mi_X5_digitsTogether_5 : ∀ w ∈ wsX50, w ∈ wsX5_digitsTogether := by decide +kernel
theorem mk_X5_digitsTogether_25 : Cond.fieldLink RX5 25 "StormRunoff$SetUp" "numbers" "[I" ∈ wsX5_digitsTogether := by decide +kernel
set_option maxRecDepth 100000 in
set_option maxHeartbeats 400000 in
theorem ct_X5_digitsTogether (l : Launch) (g : Gl) (M : Mem)  (hm : 0 ≤ M 62 5 ∧ M 62 5 ≤ 5) : Ct l g yX5_digitsTogether wsX5_digitsTogether 0 0 [rf g 62] M (fun rv M' => rv = some (iv (dgv (M 64) (M 62 5).toNat)) ∧ M' = M) := by
  refine Ct.of (cc := cX5_digitsTogether) (nL := 3) (ret := (some .int)) (by decide) rfl (Nat.le_of_ble_eq_true rfl) (fun z hz ok rt => ?_)
  have ok : Ok z g cX5_digitsTogether 3 RX5 wsX5_digitsTogether 0 0 := ok
  show V z g 3 M [(0, rf g 62)] [] 0
  refine v_iconst (n := 0) ok dX5_digitsTogether_0 ?_
  refine v_istore_n ok [(1, iv 0), (0, rf g 62)] dX5_digitsTogether_1 rfl (by decide) rfl ?_
  refine v_iconst (n := 0) ok dX5_digitsTogether_2 ?_
  refine v_istore_n ok [(2, iv 0), (1, iv 0), (0, rf g 62)] dX5_digitsTogether_3 rfl (by decide) rfl ?_
  have lp4 : ∀ (fu : Nat) (v k : Int), (0 ≤ k ∧ k ≤ M 62 5) → (v = dgv (M 64) k.toNat) → (M 62 5 - k).toNat < fu → V z g 3 M [(0, rf g 62), (1, iv v), (2, iv k)] [] 4 := by
    intro fu
    induction fu with
    | zero => intro v k _ _ hm; exact absurd hm (Nat.not_lt_zero _)
    | succ fu ih4 =>
      intro v k i4_0 i4_1 hm4
      refine v_iload_n ok 2 dX5_digitsTogether_4 rfl rfl ?_
      refine v_aload_n ok 0 dX5_digitsTogether_5 rfl rfl ?_
      refine v_get (T := TX5) (N := 6) (f0 := (M 62)) (v := iv (M 62 5)) ok mi_X5_digitsTogether_5 (kd_lt (show kd 62 = 5 from rfl) (by decide)) rfl rfl (cellF_5 _ (by decide)) 5 (by decide) mk_X5_digitsTogether_28 rfl rfl dX5_digitsTogether_6 ?_
      refine v_icmp_ge (tgt := 35) ok ⟨by omega, by omega⟩ ⟨by omega, by omega⟩ dX5_digitsTogether_9 (by decide) (fun c1 => ?_) (fun c1 => ?_)
      · skip
        have ek : k = M 62 5 := by omega
        refine v_iload_n ok 1 dX5_digitsTogether_35 rfl rfl ?_
        exact v_iret ok rt dX5_digitsTogether_36 (⟨(congrArg (fun q : Int => some (iv q)) (show v = (dgv (M 64) (M 62 5).toNat) from by (rw [i4_1, ek]))), rfl⟩)
      · skip
        refine v_iload_n ok 2 dX5_digitsTogether_12 rfl rfl ?_
        refine v_iconst (n := 5) ok dX5_digitsTogether_13 ?_
        refine v_icmp_ge (tgt := 35) ok ⟨by omega, by omega⟩ (by decide) dX5_digitsTogether_14 (by decide) (fun c2 => absurd c2 (by omega)) (fun c2 => ?_)
        refine v_bipush (n := 10) ok rfl dX5_digitsTogether_17 ?_
        refine v_iload_n ok 1 dX5_digitsTogether_19 rfl rfl ?_
        refine v_imul ok dX5_digitsTogether_20 ?_
        refine v_aload_n ok 0 dX5_digitsTogether_21 rfl rfl ?_
        refine v_get (T := TX5) (N := 6) (f0 := (M 62)) (v := rf g 64) ok mi_X5_digitsTogether_5 (kd_lt (show kd 62 = 5 from rfl) (by decide)) rfl rfl (cellF_5 _ (by decide)) 4 (by decide) mk_X5_digitsTogether_25 rfl rfl dX5_digitsTogether_22 ?_
        refine v_iload_n ok 2 dX5_digitsTogether_25 rfl rfl ?_
        refine v_iald (n := 12) (f0 := (M 64)) ok (by decide) rfl (by omega) rfl dX5_digitsTogether_26 ?_
        refine v_iadd ok dX5_digitsTogether_27 ?_
        refine v_istore_n ok [(1, iv ((10 * v) + (M 64 k))), (0, rf g 62), (2, iv k)] dX5_digitsTogether_28 rfl (by decide) rfl ?_
        refine v_iinc ok 2 [(2, iv (k + 1)), (1, iv ((10 * v) + (M 64 k))), (0, rf g 62)] dX5_digitsTogether_29 rfl (by decide) rfl ?_
        refine v_goto (tgt := 4) ok dX5_digitsTogether_32 (by decide) ?_
        refine v_lv (ls' := [(0, rf g 62), (1, iv ((10 * v) + (M 64 k))), (2, iv (k + 1))]) ok [2, 1, 0] rfl ?_
        exact ih4 ((10 * v) + (M 64 k)) (k + 1) (by omega) (by rw [dgv_s i4_0.1, i4_1]) (by omega)
  refine v_lv (ls' := [(0, rf g 62), (1, iv 0), (2, iv 0)]) ok [2, 1, 0] rfl ?_
  exact lp4 _ 0 0 (by omega) rfl (Nat.lt_succ_self _)

theorem mk_X5_copyNumbersTo_28 : Cond.fieldLink RX5 28 "StormRunoff$SetUp" "many" "I" ∈ wsX5_copyNumbersTo := by decide +kernel
theorem mi_X5_copyNumbersTo_5 : ∀ w ∈ wsX50, w ∈ wsX5_copyNumbersTo := by decide +kernel
theorem mk_X5_copyNumbersTo_25 : Cond.fieldLink RX5 25 "StormRunoff$SetUp" "numbers" "[I" ∈ wsX5_copyNumbersTo := by decide +kernel
set_option maxRecDepth 100000 in
set_option maxHeartbeats 400000 in
theorem ct_X5_copyNumbersTo_3 (l : Launch) (g : Gl) (M : Mem)  (hm : 0 ≤ M 62 5 ∧ M 62 5 ≤ 12) (hN : bdf (M 64) (M 62 5) 0 999) : Ct l g yX5_copyNumbersTo wsX5_copyNumbersTo 0 0 [rf g 62, rf g 3, iv 20] M (fun rv M' => (rv = some (iv 0) ∧ M' = M ∧ (¬ ∀ j : Int, 0 ≤ j → j < M 62 5 → M 64 j ≤ 20)) ∨ (rv = some (iv 1) ∧ M' = (up1 M 3 (cpN (M 64) (M 62 5))) ∧ (∀ j : Int, 0 ≤ j → j < M 62 5 → M 64 j ≤ 20))) := by
  refine Ct.of (cc := cX5_copyNumbersTo) (nL := 4) (ret := (some .boolean)) (by decide) rfl (Nat.le_of_ble_eq_true rfl) (fun z hz ok rt => ?_)
  have ok : Ok z g cX5_copyNumbersTo 4 RX5 wsX5_copyNumbersTo 0 0 := ok
  show V z g 4 M [(0, rf g 62), (1, rf g 3), (2, iv 20)] [] 0
  refine v_iconst (n := 0) ok dX5_copyNumbersTo_0 ?_
  refine v_istore_n ok [(3, iv 0), (0, rf g 62), (1, rf g 3), (2, iv 20)] dX5_copyNumbersTo_1 rfl (by decide) rfl ?_
  have lp2 : ∀ (fu : Nat) (k : Int), (0 ≤ k ∧ k ≤ M 62 5) → (∀ j : Int, 0 ≤ j → j < k → M 64 j ≤ 20) → (M 62 5 - k).toNat < fu → V z g 4 M [(0, rf g 62), (1, rf g 3), (2, iv 20), (3, iv k)] [] 2 := by
    intro fu
    induction fu with
    | zero => intro k _ _ hm; exact absurd hm (Nat.not_lt_zero _)
    | succ fu ih2 =>
      intro k i2_0 i2_1 hm2
      refine v_iload_n ok 3 dX5_copyNumbersTo_2 rfl rfl ?_
      refine v_aload_n ok 0 dX5_copyNumbersTo_3 rfl rfl ?_
      refine v_get (T := TX5) (N := 6) (f0 := (M 62)) (v := iv (M 62 5)) ok mi_X5_copyNumbersTo_5 (kd_lt (show kd 62 = 5 from rfl) (by decide)) rfl rfl (cellF_5 _ (by decide)) 5 (by decide) mk_X5_copyNumbersTo_28 rfl rfl dX5_copyNumbersTo_4 ?_
      refine v_icmp_ge (tgt := 37) ok ⟨by omega, by omega⟩ ⟨by omega, by omega⟩ dX5_copyNumbersTo_7 (by decide) (fun c1 => ?_) (fun c1 => ?_)
      · skip
        have hall : ∀ j : Int, 0 ≤ j → j < M 62 5 → M 64 j ≤ 20 := fun j j0 j1 => i2_1 j j0 (by omega)
        refine v_iconst (n := 0) ok dX5_copyNumbersTo_37 ?_
        refine v_istore_n ok [(3, iv 0), (0, rf g 62), (1, rf g 3), (2, iv 20)] dX5_copyNumbersTo_38 rfl (by decide) rfl ?_
        have lp39 : ∀ (fu : Nat) (k : Int) (F : Int → Int), (0 ≤ k ∧ k ≤ 8) → (∀ j : Int, 0 ≤ j → j < k → F j = (cpN (M 64) (M 62 5)) j) → (8 - k).toNat < fu → V z g 4 (up1 M 3 F) [(0, rf g 62), (1, rf g 3), (2, iv 20), (3, iv k)] [] 39 := by
          intro fu
          induction fu with
          | zero => intro k F _ _ hm; exact absurd hm (Nat.not_lt_zero _)
          | succ fu ih39 =>
            intro k F i39_0 i39_1 hm39
            refine v_iload_n ok 3 dX5_copyNumbersTo_39 rfl rfl ?_
            refine v_aload_n ok 1 dX5_copyNumbersTo_40 rfl rfl ?_
            refine v_alen (n := 8) ok (Or.inl (by decide)) rfl dX5_copyNumbersTo_41 ?_
            refine v_icmp_ge (tgt := 81) ok ⟨by omega, by omega⟩ (by decide) dX5_copyNumbersTo_42 (by decide) (fun c2 => ?_) (fun c2 => ?_)
            · skip
              refine v_cong (n := 8) (cpN (M 64) (M 62 5)) (Or.inl (by decide)) rfl (fun j j0 j1 => i39_1 j j0 (by omega)) ?_
              refine v_iconst (n := 1) ok dX5_copyNumbersTo_81 ?_
              exact v_zret ok rt (by omega) dX5_copyNumbersTo_82 (Or.inr (⟨rfl, rfl, hall⟩))
            · skip
              refine v_aload_n ok 1 dX5_copyNumbersTo_45 rfl rfl ?_
              refine v_iload_n ok 3 dX5_copyNumbersTo_46 rfl rfl ?_
              refine v_iload_n ok 3 dX5_copyNumbersTo_47 rfl rfl ?_
              refine v_aload_n ok 0 dX5_copyNumbersTo_48 rfl rfl ?_
              refine v_get (T := TX5) (N := 6) (f0 := (M 62)) (v := iv (M 62 5)) ok mi_X5_copyNumbersTo_5 (kd_lt (show kd 62 = 5 from rfl) (by decide)) rfl rfl (cellF_5 _ (by decide)) 5 (by decide) mk_X5_copyNumbersTo_28 rfl rfl dX5_copyNumbersTo_49 ?_
              refine v_icmp_ge (tgt := 73) ok ⟨by omega, by omega⟩ ⟨by omega, by omega⟩ dX5_copyNumbersTo_52 (by decide) (fun c3 => ?_) (fun c3 => ?_)
              · skip
                refine v_iconst (n := 0) ok dX5_copyNumbersTo_73 ?_
                refine v_iast (n := 8) (f0 := F) ok (by decide) rfl (by omega) rfl dX5_copyNumbersTo_74 ?_
                rw [up1_up1]
                refine v_iinc ok 3 [(3, iv (k + 1)), (0, rf g 62), (1, rf g 3), (2, iv 20)] dX5_copyNumbersTo_75 rfl (by decide) rfl ?_
                refine v_goto (tgt := 39) ok dX5_copyNumbersTo_78 (by decide) ?_
                refine v_lv (ls' := [(0, rf g 62), (1, rf g 3), (2, iv 20), (3, iv (k + 1))]) ok [1, 2, 3, 0] rfl ?_
                exact ih39 (k + 1) (up F k 0) (by omega) (up_lt i39_1 (by unfold cpN; first | rw [if_pos (by omega)] | rw [if_neg (by omega)])) (by omega)
              · skip
                refine v_iload_n ok 3 dX5_copyNumbersTo_55 rfl rfl ?_
                refine v_aload_n ok 0 dX5_copyNumbersTo_56 rfl rfl ?_
                refine v_get (T := TX5) (N := 6) (f0 := (M 62)) (v := rf g 64) ok mi_X5_copyNumbersTo_5 (kd_lt (show kd 62 = 5 from rfl) (by decide)) rfl rfl (cellF_5 _ (by decide)) 4 (by decide) mk_X5_copyNumbersTo_25 rfl rfl dX5_copyNumbersTo_57 ?_
                refine v_alen (n := 12) ok (Or.inl (by decide)) rfl dX5_copyNumbersTo_60 ?_
                refine v_icmp_ge (tgt := 73) ok ⟨by omega, by omega⟩ (by decide) dX5_copyNumbersTo_61 (by decide) (fun c4 => absurd c4 (by omega)) (fun c4 => ?_)
                refine v_aload_n ok 0 dX5_copyNumbersTo_64 rfl rfl ?_
                refine v_get (T := TX5) (N := 6) (f0 := (M 62)) (v := rf g 64) ok mi_X5_copyNumbersTo_5 (kd_lt (show kd 62 = 5 from rfl) (by decide)) rfl rfl (cellF_5 _ (by decide)) 4 (by decide) mk_X5_copyNumbersTo_25 rfl rfl dX5_copyNumbersTo_65 ?_
                refine v_iload_n ok 3 dX5_copyNumbersTo_68 rfl rfl ?_
                refine v_iald (n := 12) (f0 := (M 64)) ok (by decide) rfl (by omega) rfl dX5_copyNumbersTo_69 ?_
                have b5 := hN k (by omega) (by omega)
                refine v_goto (tgt := 74) ok dX5_copyNumbersTo_70 (by decide) ?_
                refine v_iast (n := 8) (f0 := F) ok (by decide) rfl (by omega) rfl dX5_copyNumbersTo_74 ?_
                rw [up1_up1]
                refine v_iinc ok 3 [(3, iv (k + 1)), (0, rf g 62), (1, rf g 3), (2, iv 20)] dX5_copyNumbersTo_75 rfl (by decide) rfl ?_
                refine v_goto (tgt := 39) ok dX5_copyNumbersTo_78 (by decide) ?_
                refine v_lv (ls' := [(0, rf g 62), (1, rf g 3), (2, iv 20), (3, iv (k + 1))]) ok [1, 2, 3, 0] rfl ?_
                exact ih39 (k + 1) (up F k (M 64 k)) (by omega) (up_lt i39_1 (by unfold cpN; first | rw [if_pos (by omega)] | rw [if_neg (by omega)])) (by omega)
        refine v_lv (ls' := [(0, rf g 62), (1, rf g 3), (2, iv 20), (3, iv 0)]) ok [1, 2, 3, 0] rfl ?_
        rw [show (M : Mem) = (up1 M 3 (M 3)) from (by
              funext j
              by_cases hj0 : j = 3
              · subst hj0; simp [up1, up1_self]
              simp [up1, hj0])]
        exact lp39 _ 0 (M 3) (by omega) (fun j _ _ => by omega) (Nat.lt_succ_self _)
      · skip
        refine v_iload_n ok 3 dX5_copyNumbersTo_10 rfl rfl ?_
        refine v_aload_n ok 0 dX5_copyNumbersTo_11 rfl rfl ?_
        refine v_get (T := TX5) (N := 6) (f0 := (M 62)) (v := rf g 64) ok mi_X5_copyNumbersTo_5 (kd_lt (show kd 62 = 5 from rfl) (by decide)) rfl rfl (cellF_5 _ (by decide)) 4 (by decide) mk_X5_copyNumbersTo_25 rfl rfl dX5_copyNumbersTo_12 ?_
        refine v_alen (n := 12) ok (Or.inl (by decide)) rfl dX5_copyNumbersTo_15 ?_
        refine v_icmp_ge (tgt := 37) ok ⟨by omega, by omega⟩ (by decide) dX5_copyNumbersTo_16 (by decide) (fun c6 => absurd c6 (by omega)) (fun c6 => ?_)
        refine v_aload_n ok 0 dX5_copyNumbersTo_19 rfl rfl ?_
        refine v_get (T := TX5) (N := 6) (f0 := (M 62)) (v := rf g 64) ok mi_X5_copyNumbersTo_5 (kd_lt (show kd 62 = 5 from rfl) (by decide)) rfl rfl (cellF_5 _ (by decide)) 4 (by decide) mk_X5_copyNumbersTo_25 rfl rfl dX5_copyNumbersTo_20 ?_
        refine v_iload_n ok 3 dX5_copyNumbersTo_23 rfl rfl ?_
        refine v_iald (n := 12) (f0 := (M 64)) ok (by decide) rfl (by omega) rfl dX5_copyNumbersTo_24 ?_
        have b7 := hN k (by omega) (by omega)
        refine v_iload_n ok 2 dX5_copyNumbersTo_25 rfl rfl ?_
        refine v_icmp_le (tgt := 31) ok ⟨by omega, by omega⟩ (by decide) dX5_copyNumbersTo_26 (by decide) (fun c8 => ?_) (fun c8 => ?_)
        · skip
          refine v_iinc ok 3 [(3, iv (k + 1)), (0, rf g 62), (1, rf g 3), (2, iv 20)] dX5_copyNumbersTo_31 rfl (by decide) rfl ?_
          refine v_goto (tgt := 2) ok dX5_copyNumbersTo_34 (by decide) ?_
          refine v_lv (ls' := [(0, rf g 62), (1, rf g 3), (2, iv 20), (3, iv (k + 1))]) ok [1, 2, 3, 0] rfl ?_
          exact ih2 (k + 1) (by omega) (fun j j0 j1 => by
              rcases Int.lt_or_le j k with q | q
              · exact i2_1 j j0 q
              · rw [show j = k by omega]; omega) (by omega)
        · skip
          refine v_iconst (n := 0) ok dX5_copyNumbersTo_29 ?_
          exact v_zret ok rt (by omega) dX5_copyNumbersTo_30 (Or.inl (⟨rfl, rfl, (fun q => by have q1 := q k i2_0.1 (by omega); omega)⟩))
  refine v_lv (ls' := [(0, rf g 62), (1, rf g 3), (2, iv 20), (3, iv 0)]) ok [1, 2, 3, 0] rfl ?_
  exact lp2 _ 0 (by omega) (fun j _ _ => by omega) (Nat.lt_succ_self _)

set_option maxRecDepth 100000 in
set_option maxHeartbeats 400000 in
theorem ct_X5_copyNumbersTo_11 (l : Launch) (g : Gl) (M : Mem)  (hm : 0 ≤ M 62 5 ∧ M 62 5 ≤ 12) (hN : bdf (M 64) (M 62 5) 0 999) : Ct l g yX5_copyNumbersTo wsX5_copyNumbersTo 0 0 [rf g 62, rf g 11, iv 999] M (fun rv M' => (rv = some (iv 0) ∧ M' = M ∧ (¬ ∀ j : Int, 0 ≤ j → j < M 62 5 → M 64 j ≤ 999)) ∨ (rv = some (iv 1) ∧ M' = (up1 M 11 (cpN (M 64) (M 62 5))) ∧ (∀ j : Int, 0 ≤ j → j < M 62 5 → M 64 j ≤ 999))) := by
  refine Ct.of (cc := cX5_copyNumbersTo) (nL := 4) (ret := (some .boolean)) (by decide) rfl (Nat.le_of_ble_eq_true rfl) (fun z hz ok rt => ?_)
  have ok : Ok z g cX5_copyNumbersTo 4 RX5 wsX5_copyNumbersTo 0 0 := ok
  show V z g 4 M [(0, rf g 62), (1, rf g 11), (2, iv 999)] [] 0
  refine v_iconst (n := 0) ok dX5_copyNumbersTo_0 ?_
  refine v_istore_n ok [(3, iv 0), (0, rf g 62), (1, rf g 11), (2, iv 999)] dX5_copyNumbersTo_1 rfl (by decide) rfl ?_
  have lp2 : ∀ (fu : Nat) (k : Int), (0 ≤ k ∧ k ≤ M 62 5) → (∀ j : Int, 0 ≤ j → j < k → M 64 j ≤ 999) → (M 62 5 - k).toNat < fu → V z g 4 M [(0, rf g 62), (1, rf g 11), (2, iv 999), (3, iv k)] [] 2 := by
    intro fu
    induction fu with
    | zero => intro k _ _ hm; exact absurd hm (Nat.not_lt_zero _)
    | succ fu ih2 =>
      intro k i2_0 i2_1 hm2
      refine v_iload_n ok 3 dX5_copyNumbersTo_2 rfl rfl ?_
      refine v_aload_n ok 0 dX5_copyNumbersTo_3 rfl rfl ?_
      refine v_get (T := TX5) (N := 6) (f0 := (M 62)) (v := iv (M 62 5)) ok mi_X5_copyNumbersTo_5 (kd_lt (show kd 62 = 5 from rfl) (by decide)) rfl rfl (cellF_5 _ (by decide)) 5 (by decide) mk_X5_copyNumbersTo_28 rfl rfl dX5_copyNumbersTo_4 ?_
      refine v_icmp_ge (tgt := 37) ok ⟨by omega, by omega⟩ ⟨by omega, by omega⟩ dX5_copyNumbersTo_7 (by decide) (fun c1 => ?_) (fun c1 => ?_)
      · skip
        have hall : ∀ j : Int, 0 ≤ j → j < M 62 5 → M 64 j ≤ 999 := fun j j0 j1 => i2_1 j j0 (by omega)
        refine v_iconst (n := 0) ok dX5_copyNumbersTo_37 ?_
        refine v_istore_n ok [(3, iv 0), (0, rf g 62), (1, rf g 11), (2, iv 999)] dX5_copyNumbersTo_38 rfl (by decide) rfl ?_
        have lp39 : ∀ (fu : Nat) (k : Int) (F : Int → Int), (0 ≤ k ∧ k ≤ 12) → (∀ j : Int, 0 ≤ j → j < k → F j = (cpN (M 64) (M 62 5)) j) → (12 - k).toNat < fu → V z g 4 (up1 M 11 F) [(0, rf g 62), (1, rf g 11), (2, iv 999), (3, iv k)] [] 39 := by
          intro fu
          induction fu with
          | zero => intro k F _ _ hm; exact absurd hm (Nat.not_lt_zero _)
          | succ fu ih39 =>
            intro k F i39_0 i39_1 hm39
            refine v_iload_n ok 3 dX5_copyNumbersTo_39 rfl rfl ?_
            refine v_aload_n ok 1 dX5_copyNumbersTo_40 rfl rfl ?_
            refine v_alen (n := 12) ok (Or.inl (by decide)) rfl dX5_copyNumbersTo_41 ?_
            refine v_icmp_ge (tgt := 81) ok ⟨by omega, by omega⟩ (by decide) dX5_copyNumbersTo_42 (by decide) (fun c2 => ?_) (fun c2 => ?_)
            · skip
              refine v_cong (n := 12) (cpN (M 64) (M 62 5)) (Or.inl (by decide)) rfl (fun j j0 j1 => i39_1 j j0 (by omega)) ?_
              refine v_iconst (n := 1) ok dX5_copyNumbersTo_81 ?_
              exact v_zret ok rt (by omega) dX5_copyNumbersTo_82 (Or.inr (⟨rfl, rfl, hall⟩))
            · skip
              refine v_aload_n ok 1 dX5_copyNumbersTo_45 rfl rfl ?_
              refine v_iload_n ok 3 dX5_copyNumbersTo_46 rfl rfl ?_
              refine v_iload_n ok 3 dX5_copyNumbersTo_47 rfl rfl ?_
              refine v_aload_n ok 0 dX5_copyNumbersTo_48 rfl rfl ?_
              refine v_get (T := TX5) (N := 6) (f0 := (M 62)) (v := iv (M 62 5)) ok mi_X5_copyNumbersTo_5 (kd_lt (show kd 62 = 5 from rfl) (by decide)) rfl rfl (cellF_5 _ (by decide)) 5 (by decide) mk_X5_copyNumbersTo_28 rfl rfl dX5_copyNumbersTo_49 ?_
              refine v_icmp_ge (tgt := 73) ok ⟨by omega, by omega⟩ ⟨by omega, by omega⟩ dX5_copyNumbersTo_52 (by decide) (fun c3 => ?_) (fun c3 => ?_)
              · skip
                refine v_iconst (n := 0) ok dX5_copyNumbersTo_73 ?_
                refine v_iast (n := 12) (f0 := F) ok (by decide) rfl (by omega) rfl dX5_copyNumbersTo_74 ?_
                rw [up1_up1]
                refine v_iinc ok 3 [(3, iv (k + 1)), (0, rf g 62), (1, rf g 11), (2, iv 999)] dX5_copyNumbersTo_75 rfl (by decide) rfl ?_
                refine v_goto (tgt := 39) ok dX5_copyNumbersTo_78 (by decide) ?_
                refine v_lv (ls' := [(0, rf g 62), (1, rf g 11), (2, iv 999), (3, iv (k + 1))]) ok [1, 2, 3, 0] rfl ?_
                exact ih39 (k + 1) (up F k 0) (by omega) (up_lt i39_1 (by unfold cpN; first | rw [if_pos (by omega)] | rw [if_neg (by omega)])) (by omega)
              · skip
                refine v_iload_n ok 3 dX5_copyNumbersTo_55 rfl rfl ?_
                refine v_aload_n ok 0 dX5_copyNumbersTo_56 rfl rfl ?_
                refine v_get (T := TX5) (N := 6) (f0 := (M 62)) (v := rf g 64) ok mi_X5_copyNumbersTo_5 (kd_lt (show kd 62 = 5 from rfl) (by decide)) rfl rfl (cellF_5 _ (by decide)) 4 (by decide) mk_X5_copyNumbersTo_25 rfl rfl dX5_copyNumbersTo_57 ?_
                refine v_alen (n := 12) ok (Or.inl (by decide)) rfl dX5_copyNumbersTo_60 ?_
                refine v_icmp_ge (tgt := 73) ok ⟨by omega, by omega⟩ (by decide) dX5_copyNumbersTo_61 (by decide) (fun c4 => absurd c4 (by omega)) (fun c4 => ?_)
                refine v_aload_n ok 0 dX5_copyNumbersTo_64 rfl rfl ?_
                refine v_get (T := TX5) (N := 6) (f0 := (M 62)) (v := rf g 64) ok mi_X5_copyNumbersTo_5 (kd_lt (show kd 62 = 5 from rfl) (by decide)) rfl rfl (cellF_5 _ (by decide)) 4 (by decide) mk_X5_copyNumbersTo_25 rfl rfl dX5_copyNumbersTo_65 ?_
                refine v_iload_n ok 3 dX5_copyNumbersTo_68 rfl rfl ?_
                refine v_iald (n := 12) (f0 := (M 64)) ok (by decide) rfl (by omega) rfl dX5_copyNumbersTo_69 ?_
                have b5 := hN k (by omega) (by omega)
                refine v_goto (tgt := 74) ok dX5_copyNumbersTo_70 (by decide) ?_
                refine v_iast (n := 12) (f0 := F) ok (by decide) rfl (by omega) rfl dX5_copyNumbersTo_74 ?_
                rw [up1_up1]
                refine v_iinc ok 3 [(3, iv (k + 1)), (0, rf g 62), (1, rf g 11), (2, iv 999)] dX5_copyNumbersTo_75 rfl (by decide) rfl ?_
                refine v_goto (tgt := 39) ok dX5_copyNumbersTo_78 (by decide) ?_
                refine v_lv (ls' := [(0, rf g 62), (1, rf g 11), (2, iv 999), (3, iv (k + 1))]) ok [1, 2, 3, 0] rfl ?_
                exact ih39 (k + 1) (up F k (M 64 k)) (by omega) (up_lt i39_1 (by unfold cpN; first | rw [if_pos (by omega)] | rw [if_neg (by omega)])) (by omega)
        refine v_lv (ls' := [(0, rf g 62), (1, rf g 11), (2, iv 999), (3, iv 0)]) ok [1, 2, 3, 0] rfl ?_
        rw [show (M : Mem) = (up1 M 11 (M 11)) from (by
              funext j
              by_cases hj0 : j = 11
              · subst hj0; simp [up1, up1_self]
              simp [up1, hj0])]
        exact lp39 _ 0 (M 11) (by omega) (fun j _ _ => by omega) (Nat.lt_succ_self _)
      · skip
        refine v_iload_n ok 3 dX5_copyNumbersTo_10 rfl rfl ?_
        refine v_aload_n ok 0 dX5_copyNumbersTo_11 rfl rfl ?_
        refine v_get (T := TX5) (N := 6) (f0 := (M 62)) (v := rf g 64) ok mi_X5_copyNumbersTo_5 (kd_lt (show kd 62 = 5 from rfl) (by decide)) rfl rfl (cellF_5 _ (by decide)) 4 (by decide) mk_X5_copyNumbersTo_25 rfl rfl dX5_copyNumbersTo_12 ?_
        refine v_alen (n := 12) ok (Or.inl (by decide)) rfl dX5_copyNumbersTo_15 ?_
        refine v_icmp_ge (tgt := 37) ok ⟨by omega, by omega⟩ (by decide) dX5_copyNumbersTo_16 (by decide) (fun c6 => absurd c6 (by omega)) (fun c6 => ?_)
        refine v_aload_n ok 0 dX5_copyNumbersTo_19 rfl rfl ?_
        refine v_get (T := TX5) (N := 6) (f0 := (M 62)) (v := rf g 64) ok mi_X5_copyNumbersTo_5 (kd_lt (show kd 62 = 5 from rfl) (by decide)) rfl rfl (cellF_5 _ (by decide)) 4 (by decide) mk_X5_copyNumbersTo_25 rfl rfl dX5_copyNumbersTo_20 ?_
        refine v_iload_n ok 3 dX5_copyNumbersTo_23 rfl rfl ?_
        refine v_iald (n := 12) (f0 := (M 64)) ok (by decide) rfl (by omega) rfl dX5_copyNumbersTo_24 ?_
        have b7 := hN k (by omega) (by omega)
        refine v_iload_n ok 2 dX5_copyNumbersTo_25 rfl rfl ?_
        refine v_icmp_le (tgt := 31) ok ⟨by omega, by omega⟩ (by decide) dX5_copyNumbersTo_26 (by decide) (fun c8 => ?_) (fun c8 => ?_)
        · skip
          refine v_iinc ok 3 [(3, iv (k + 1)), (0, rf g 62), (1, rf g 11), (2, iv 999)] dX5_copyNumbersTo_31 rfl (by decide) rfl ?_
          refine v_goto (tgt := 2) ok dX5_copyNumbersTo_34 (by decide) ?_
          refine v_lv (ls' := [(0, rf g 62), (1, rf g 11), (2, iv 999), (3, iv (k + 1))]) ok [1, 2, 3, 0] rfl ?_
          exact ih2 (k + 1) (by omega) (fun j j0 j1 => by
              rcases Int.lt_or_le j k with q | q
              · exact i2_1 j j0 q
              · rw [show j = k by omega]; omega) (by omega)
        · skip
          refine v_iconst (n := 0) ok dX5_copyNumbersTo_29 ?_
          exact v_zret ok rt (by omega) dX5_copyNumbersTo_30 (Or.inl (⟨rfl, rfl, (fun q => by have q1 := q k i2_0.1 (by omega); omega)⟩))
  refine v_lv (ls' := [(0, rf g 62), (1, rf g 11), (2, iv 999), (3, iv 0)]) ok [1, 2, 3, 0] rfl ?_
  exact lp2 _ 0 (by omega) (fun j _ _ => by omega) (Nat.lt_succ_self _)

theorem mk_X9_feed_56 : Cond.fieldLink RX9 56 "StormRunoff" "text" "LStormRunoff$SetUp;" ∈ wsX9_feed := by decide +kernel
theorem mi_X9_feed_9 : ∀ w ∈ wsX90, w ∈ wsX9_feed := by decide +kernel
theorem mk_X9_feed_126 : Cond.fieldLink RX9 126 "StormRunoff$SetUp" "length" "I" ∈ wsX9_feed := by decide +kernel
theorem mi_X9_feed_5 : ∀ w ∈ wsX50, w ∈ wsX9_feed := by decide +kernel
set_option maxRecDepth 100000 in
set_option maxHeartbeats 400000 in
theorem ct_X9_feed (l : Launch) (g : Gl) (M : Mem) (c : Int) (hc : i32 c) (hL : 0 ≤ M 62 1 ∧ M 62 1 ≤ 100) : Ct l g yX9_feed wsX9_feed 2 43 [rf g 0, iv c] M (fun rv M' => (rv = some (iv (-2)) ∧ M' = M ∧ (¬ (0 ≤ c ∧ c ≤ 127))) ∨ (rv = some (iv (-4)) ∧ M' = M ∧ (0 ≤ c ∧ c ≤ 127) ∧ (M 62 1 = 100)) ∨ (rv = some (iv (M 62 1 + 1)) ∧ M' = (up1 (up1 M 63 (up (M 63) (M 62 1) c)) 62 (up (M 62) 1 (M 62 1 + 1))) ∧ (0 ≤ c ∧ c ≤ 127) ∧ (M 62 1 < 100))) := by
  refine Ct.of (cc := cX9_feed) (nL := 2) (ret := (some .int)) (by decide) rfl (Nat.le_of_ble_eq_true rfl) (fun z hz ok rt => ?_)
  have ok : Ok z g cX9_feed 2 RX9 wsX9_feed 2 43 := ok
  show V z g 2 M [(0, rf g 0), (1, iv c)] [] 0
  refine v_iload_n ok 1 dX9_feed_0 rfl rfl ?_
  refine v_iconst (n := 0) ok dX9_feed_1 ?_
  refine v_bipush (n := 127) ok rfl dX9_feed_2 ?_
  refine v_callS (na := 3) ok (ct_X9_between z.2.1 g M c 0 127 ⟨by omega, by omega⟩ (by decide) (by decide)) gX9_feed_X9_between rfl (by decide +kernel) rfl (by decide) [] rfl (Nat.le_of_ble_eq_true rfl) dX9_feed_4 (fun v2 M3 hp1 => ?_)
  rcases hp1 with ⟨rfl, eM3, h4⟩ | ⟨rfl, eM3, h5⟩
  · skip
    subst M3
    show V z g 2 M [(0, rf g 0), (1, iv c)] [iv 1] 7
    refine v_if_ne (tgt := 13) ok (by decide) dX9_feed_7 (by decide) (fun c6 => ?_) (fun c6 => absurd c6 (by decide))
    refine v_aload_n ok 0 dX9_feed_13 rfl rfl ?_
    refine v_get (T := TX9) (N := 9) (f0 := (M 0)) (v := rf g 62) ok mi_X9_feed_9 (kd_lt (show kd 0 = 9 from rfl) (by decide)) rfl rfl (cellF_9 _ (by decide)) 7 (by decide) mk_X9_feed_56 rfl rfl dX9_feed_14 ?_
    refine v_iload_n ok 1 dX9_feed_17 rfl rfl ?_
    refine v_callV (na := 1) (i := 62) (C := RX5) (T := TX5) (N := 6) (f0 := (M 62)) ok (ct_X5_addSign z.2.1 g M c (by first | omega | assumption)) gX9_feed_X5_addSign (kd_lt (show kd 62 = 5 from rfl) (by decide)) rfl rfl (cellF_5 _ (by decide)) rfl (by decide +kernel) rfl (by decide) [] rfl (Nat.le_of_ble_eq_true rfl) dX9_feed_18 (fun v8 M9 hp7 => ?_)
    rcases hp7 with ⟨rfl, eM9, h10⟩ | ⟨rfl, rfl, h11⟩
    · skip
      subst M9
      have h10 : (M 62) 1 = 100 := h10
      show V z g 2 M [(0, rf g 0), (1, iv c)] [iv 0] 21
      refine v_if_eq (tgt := 34) ok (by decide) dX9_feed_21 (by decide) (fun c12 => ?_) (fun c12 => absurd c12 (by decide))
      refine v_bipush (n := -4) ok rfl dX9_feed_34 ?_
      exact v_iret ok rt dX9_feed_36 (Or.inr (Or.inl (⟨rfl, rfl, (by omega), (by omega)⟩)))
    · skip
      have h11 : (M 62) 1 < 100 := h11
      show V z g 2 (up1 (up1 M 63 (up ((M 63)) ((M 62) 1) c)) 62 (up ((M 62)) 1 ((M 62) 1 + 1))) [(0, rf g 0), (1, iv c)] [iv 1] 21
      refine v_if_eq (tgt := 34) ok (by decide) dX9_feed_21 (by decide) (fun c13 => absurd c13 (by decide)) (fun c13 => ?_)
      refine v_aload_n ok 0 dX9_feed_24 rfl rfl ?_
      refine v_get (T := TX9) (N := 9) (f0 := (M 0)) (v := rf g 62) ok mi_X9_feed_9 (kd_lt (show kd 0 = 9 from rfl) (by decide)) rfl rfl (cellF_9 _ (by decide)) 7 (by decide) mk_X9_feed_56 rfl rfl dX9_feed_25 ?_
      refine v_get (T := TX5) (N := 6) (f0 := (up ((M 62)) 1 ((M 62) 1 + 1))) (v := iv ((M 62) 1 + 1)) ok mi_X9_feed_5 (kd_lt (show kd 62 = 5 from rfl) (by decide)) rfl rfl (cellF_5 _ (by decide)) 1 (by decide) mk_X9_feed_126 rfl rfl dX9_feed_28 ?_
      refine v_goto (tgt := 36) ok dX9_feed_31 (by decide) ?_
      exact v_iret ok rt dX9_feed_36 (Or.inr (Or.inr (⟨(congrArg (fun q : Int => some (iv q)) (show ((M 62) 1 + 1) = (M 62 1 + 1) from by omega)), (by
            funext j
            by_cases hj0 : j = 63
            · subst hj0; simp [up1, up1_self]
            by_cases hj1 : j = 62
            · subst hj1; simp [up1, up1_self]
            simp [up1, hj0, hj1]), (by omega), (by omega)⟩)))
  · skip
    subst M3
    show V z g 2 M [(0, rf g 0), (1, iv c)] [iv 0] 7
    refine v_if_ne (tgt := 13) ok (by decide) dX9_feed_7 (by decide) (fun c14 => absurd c14 (by decide)) (fun c14 => ?_)
    refine v_bipush (n := -2) ok rfl dX9_feed_10 ?_
    exact v_iret ok rt dX9_feed_12 (Or.inl (⟨rfl, rfl, (by omega)⟩))
