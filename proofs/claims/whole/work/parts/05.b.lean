theorem mk_X9_doClause_56 : Cond.fieldLink RX9 56 "StormRunoff" "text" "LStormRunoff$SetUp;" ∈ wsX9_doClause := by decide +kernel
theorem mi_X9_doClause_9 : ∀ w ∈ wsX90, w ∈ wsX9_doClause := by decide +kernel
theorem mk_X9_doClause_289 : Cond.fieldLink RX9 289 "StormRunoff$SetUp" "numbers" "[I" ∈ wsX9_doClause := by decide +kernel
theorem mi_X9_doClause_5 : ∀ w ∈ wsX50, w ∈ wsX9_doClause := by decide +kernel
theorem mk_X9_doClause_292 : Cond.fieldLink RX9 292 "StormRunoff$SetUp" "letter" "I" ∈ wsX9_doClause := by decide +kernel
theorem mk_X9_doClause_12 : Cond.fieldLink RX9 12 "StormRunoff" "now" "LStormRunoff$State;" ∈ wsX9_doClause := by decide +kernel
theorem mk_X9_doClause_67 : Cond.fieldLink RX9 67 "StormRunoff$State" "site" "LStormRunoff$Site;" ∈ wsX9_doClause := by decide +kernel
theorem mi_X9_doClause_7 : ∀ w ∈ wsX70, w ∈ wsX9_doClause := by decide +kernel
theorem mk_X9_doClause_70 : Cond.fieldLink RX9 70 "StormRunoff$Site" "rain" "[I" ∈ wsX9_doClause := by decide +kernel
theorem mi_X9_doClause_6 : ∀ w ∈ wsX60, w ∈ wsX9_doClause := by decide +kernel
theorem mk_X9_doClause_107 : Cond.fieldLink RX9 107 "StormRunoff$State" "told" "[I" ∈ wsX9_doClause := by decide +kernel
set_option maxRecDepth 100000 in
set_option maxHeartbeats 400000 in
theorem ct_X9_doClause (l : Launch) (g : Gl) (M : Mem) (Q : Int → Int) (hrf : RelF M 2 Q) (hwq : WOk Q) (hcl : ClOk (M 62 3) (M 62 5) (M 64)) : Ct l g yX9_doClause wsX9_doClause 2 47 [rf g 0] M (fun rv M' => rv = some (iv (dcW (M 62 3) (M 62 5) (M 64) Q).1) ∧ M' = (up1 (up1 (up1 (up1 (up1 (up1 (up1 (up1 (up1 M 2 (up (M 2) 2 ((dcW (M 62 3) (M 62 5) (M 64) Q).2 20))) 3 ((dcW (M 62 3) (M 62 5) (M 64) Q).2)) 5 (vB (M 5) (dcW (M 62 3) (M 62 5) (M 64) Q).2 0)) 6 (bsA (dcW (M 62 3) (M 62 5) (M 64) Q).2 0)) 7 (vB (M 7) (dcW (M 62 3) (M 62 5) (M 64) Q).2 1)) 8 (bsA (dcW (M 62 3) (M 62 5) (M 64) Q).2 1)) 9 (vB (M 9) (dcW (M 62 3) (M 62 5) (M 64) Q).2 2)) 10 (bsA (dcW (M 62 3) (M 62 5) (M 64) Q).2 2)) 11 (tdW (dcW (M 62 3) (M 62 5) (M 64) Q).2))) := by
  refine Ct.of (cc := cX9_doClause) (nL := 2) (ret := (some .boolean)) (by decide) rfl (Nat.le_of_ble_eq_true rfl) (fun z hz ok rt => ?_)
  have ok : Ok z g cX9_doClause 2 RX9 wsX9_doClause 2 47 := ok
  show V z g 2 M [(0, rf g 0)] [] 0
  have hs := hrf.site hwq
  have hk9 := hcl
  have h2q : M 2 2 = Q 20 := hrf.1
  have h3q : M 3 = Q := hrf.2.1
  have hmq := hwq.2.2.1
  unfold ClOk at hk9
  refine v_aload_n ok 0 dX9_doClause_0 rfl rfl ?_
  refine v_get (T := TX9) (N := 9) (f0 := (M 0)) (v := rf g 62) ok mi_X9_doClause_9 (kd_lt (show kd 0 = 9 from rfl) (by decide)) rfl rfl (cellF_9 _ (by decide)) 7 (by decide) mk_X9_doClause_56 rfl rfl dX9_doClause_1 ?_
  refine v_get (T := TX5) (N := 6) (f0 := (M 62)) (v := rf g 64) ok mi_X9_doClause_5 (kd_lt (show kd 62 = 5 from rfl) (by decide)) rfl rfl (cellF_5 _ (by decide)) 4 (by decide) mk_X9_doClause_289 rfl rfl dX9_doClause_4 ?_
  refine v_astore_n ok [(1, rf g 64), (0, rf g 0)] dX9_doClause_7 rfl (by decide) rfl ?_
  refine v_aload_n ok 1 dX9_doClause_8 rfl rfl ?_
  refine v_get (T := TX9) (N := 9) (f0 := (M 0)) (v := rf g 62) ok mi_X9_doClause_9 (kd_lt (show kd 0 = 9 from rfl) (by decide)) rfl rfl (cellF_9 _ (by decide)) 7 (by decide) mk_X9_doClause_56 rfl rfl dX9_doClause_9 ?_
  refine v_get (T := TX5) (N := 6) (f0 := (M 62)) (v := iv (M 62 3)) ok mi_X9_doClause_5 (kd_lt (show kd 62 = 5 from rfl) (by decide)) rfl rfl (cellF_5 _ (by decide)) 3 (by decide) mk_X9_doClause_292 rfl rfl dX9_doClause_12 ?_
  by_cases e1 : (M 62 3) = 98
  · skip
    refine v_lookup (off := 33) (tgt := 48) ok ⟨by omega, by omega⟩ (by decide) (by rw [e1]; decide) dX9_doClause_15 (by decide) ?_
    have hs9 := e1
    have hb9 : (1 ≤ M 62 5 ∧ M 62 5 ≤ 5) ∧ bdf (M 64) (M 62 5) 0 9 := by
      rcases hk9 with q9 | q9 | q9 | q9
      · exact q9.2
      · omega
      · omega
      · omega
    have hx0 := hb9.2 0 (by omega) (by omega)
    refine v_aload_n ok 0 dX9_doClause_48 rfl rfl ?_
    refine v_iconst (n := 0) ok dX9_doClause_49 ?_
    refine v_iald (n := 12) (f0 := (M 64)) ok (by decide) rfl (by omega) rfl dX9_doClause_50 ?_
    refine v_if_le (tgt := 72) ok ⟨by omega, by omega⟩ dX9_doClause_51 (by decide) (fun c2 => ?_) (fun c2 => ?_)
    · skip
      have hE9 : (dcW (M 62 3) (M 62 5) (M 64) Q) = (0, Q) := by rw [hs9, dcW_b, if_neg (by omega)]
      refine v_iconst (n := 0) ok dX9_doClause_72 ?_
      refine v_eqv (M' := (up1 (up1 (up1 (up1 (up1 (up1 (up1 (up1 (up1 M 2 (up (M 2) 2 ((dcW (M 62 3) (M 62 5) (M 64) Q).2 20))) 3 ((dcW (M 62 3) (M 62 5) (M 64) Q).2)) 5 (vB (M 5) (dcW (M 62 3) (M 62 5) (M 64) Q).2 0)) 6 (bsA (dcW (M 62 3) (M 62 5) (M 64) Q).2 0)) 7 (vB (M 7) (dcW (M 62 3) (M 62 5) (M 64) Q).2 1)) 8 (bsA (dcW (M 62 3) (M 62 5) (M 64) Q).2 1)) 9 (vB (M 9) (dcW (M 62 3) (M 62 5) (M 64) Q).2 2)) 10 (bsA (dcW (M 62 3) (M 62 5) (M 64) Q).2 2)) 11 (tdW (dcW (M 62 3) (M 62 5) (M 64) Q).2))) ((show Meq _ (cnQ M 2 (dcW (M 62 3) (M 62 5) (M 64) Q).2) from cnQ_of (by rw [hE9]; exact hrf.P) (fun i hi => rfl))) ?_
      exact v_zret ok rt (by omega) dX9_doClause_73 (⟨(congrArg (fun q : Int => some (iv q)) (show 0 = (dcW (M 62 3) (M 62 5) (M 64) Q).1 from by (rw [hE9]))), rfl⟩)
    · skip
      have h0p : 0 < M 64 0 := by omega
      have hdv := dgv_ok hb9.1 hb9.2 h0p
      have hdv1 := hdv.1
      refine v_aload_n ok 1 dX9_doClause_54 rfl rfl ?_
      refine v_aload_n ok 1 dX9_doClause_55 rfl rfl ?_
      refine v_get (T := TX9) (N := 9) (f0 := (M 0)) (v := rf g 62) ok mi_X9_doClause_9 (kd_lt (show kd 0 = 9 from rfl) (by decide)) rfl rfl (cellF_9 _ (by decide)) 7 (by decide) mk_X9_doClause_56 rfl rfl dX9_doClause_56 ?_
      refine v_callV (na := 0) (i := 62) (C := RX5) (T := TX5) (N := 6) (f0 := (M 62)) ok (ct_X5_digitsTogether z.2.1 g M  (by omega)) gX9_doClause_X5_digitsTogether (kd_lt (show kd 62 = 5 from rfl) (by decide)) rfl rfl (cellF_5 _ (by decide)) rfl (by decide +kernel) rfl (by decide) [rf g 0] rfl (Nat.le_of_ble_eq_true rfl) dX9_doClause_59 (fun v4 M5 hp3 => ?_)
      obtain ⟨rfl, eM5⟩ := hp3
      subst M5
      show V z g 2 M [(1, rf g 64), (0, rf g 0)] [iv (dgv ((M 64)) ((M 62) 5).toNat), rf g 0] 62
      refine v_callV (na := 1) (i := 0) (C := RX9) (T := TX9) (N := 9) (f0 := (M 0)) ok (ct_X9_basin z.2.1 g M (dgv ((M 64)) ((M 62) 5).toNat) (⟨by omega, by omega⟩) hs) gX9_doClause_X9_basin (kd_lt (show kd 0 = 9 from rfl) (by decide)) rfl rfl (cellF_9 _ (by decide)) rfl (by decide +kernel) rfl (by decide) [] rfl (Nat.le_of_ble_eq_true rfl) dX9_doClause_62 (fun v7 M8 hp6 => ?_)
      rcases hp6 with ⟨rfl, eM8, h9⟩ | ⟨rfl, eM8, h10, h11⟩ | ⟨rfl, rfl, h12, h13⟩
      · skip
        subst M8
        show V z g 2 M [(1, rf g 64), (0, rf g 0)] [iv (-2)] 65
        exfalso; omega
      · skip
        subst M8
        have h11 : (M 2) 2 = 3 := h11
        show V z g 2 M [(1, rf g 64), (0, rf g 0)] [iv (-4)] 65
        have hf9 := h11
        have hE9 : (dcW (M 62 3) (M 62 5) (M 64) Q) = (0, Q) := by rw [hs9, dcW_b, if_neg (by omega)]
        refine v_if_lt (tgt := 72) ok (by decide) dX9_doClause_65 (by decide) (fun c14 => ?_) (fun c14 => absurd c14 (by decide))
        refine v_iconst (n := 0) ok dX9_doClause_72 ?_
        refine v_eqv (M' := (up1 (up1 (up1 (up1 (up1 (up1 (up1 (up1 (up1 M 2 (up (M 2) 2 ((dcW (M 62 3) (M 62 5) (M 64) Q).2 20))) 3 ((dcW (M 62 3) (M 62 5) (M 64) Q).2)) 5 (vB (M 5) (dcW (M 62 3) (M 62 5) (M 64) Q).2 0)) 6 (bsA (dcW (M 62 3) (M 62 5) (M 64) Q).2 0)) 7 (vB (M 7) (dcW (M 62 3) (M 62 5) (M 64) Q).2 1)) 8 (bsA (dcW (M 62 3) (M 62 5) (M 64) Q).2 1)) 9 (vB (M 9) (dcW (M 62 3) (M 62 5) (M 64) Q).2 2)) 10 (bsA (dcW (M 62 3) (M 62 5) (M 64) Q).2 2)) 11 (tdW (dcW (M 62 3) (M 62 5) (M 64) Q).2))) ((show Meq _ (cnQ M 2 (dcW (M 62 3) (M 62 5) (M 64) Q).2) from cnQ_of (by rw [hE9]; exact hrf.P) (fun i hi => rfl))) ?_
        exact v_zret ok rt (by omega) dX9_doClause_73 (⟨(congrArg (fun q : Int => some (iv q)) (show 0 = (dcW (M 62 3) (M 62 5) (M 64) Q).1 from by (rw [hE9]))), rfl⟩)
      · skip
        have h13 : (M 2) 2 < 3 := h13
        show V z g 2 (up1 (up1 (up1 M (basQ (M 2 2)) (up (up (up (M (basQ ((M 2) 2))) 1 (dgn (dgv ((M 64)) ((M 62) 5).toNat))) 2 0) 3 0)) (basQ (M 2 2) + 1) (dgt (dgv ((M 64)) ((M 62) 5).toNat) (dgn (dgv ((M 64)) ((M 62) 5).toNat)))) 2 (up ((M 2)) 2 ((M 2) 2 + 1))) [(1, rf g 64), (0, rf g 0)] [iv ((M 2) 2)] 65
        have hf9 := h13
        have hE9 : (dcW (M 62 3) (M 62 5) (M 64) Q) = (1, comW Q (M 62 5) (M 64)) := by rw [hs9, dcW_b, if_pos (by omega)]
        have hcw : comW Q (dgn (dgv (M 64) (M 62 5).toNat)) (dgt (dgv (M 64) (M 62 5).toNat) (dgn (dgv (M 64) (M 62 5).toNat))) = comW Q (M 62 5) (M 64) := by rw [hdv.2.1]; exact comW_cg hdv.2.2
        have hrp : RelP (basM M (dgn (dgv (M 64) (M 62 5).toNat)) (dgt (dgv (M 64) (M 62 5).toNat) (dgn (dgv (M 64) (M 62 5).toNat)))) 2 (dcW (M 62 3) (M 62 5) (M 64) Q).2 := by rw [hE9, ← hcw]; exact RelP_basin hrf hmq.1 (by omega) (fun k _ _ => dgt_cp k)
        refine v_if_lt (tgt := 72) ok ⟨by omega, by omega⟩ dX9_doClause_65 (by decide) (fun c15 => absurd c15 (by omega)) (fun c15 => ?_)
        refine v_iconst (n := 1) ok dX9_doClause_68 ?_
        refine v_goto (tgt := 73) ok dX9_doClause_69 (by decide) ?_
        refine v_eqv (M' := (up1 (up1 (up1 (up1 (up1 (up1 (up1 (up1 (up1 M 2 (up (M 2) 2 ((dcW (M 62 3) (M 62 5) (M 64) Q).2 20))) 3 ((dcW (M 62 3) (M 62 5) (M 64) Q).2)) 5 (vB (M 5) (dcW (M 62 3) (M 62 5) (M 64) Q).2 0)) 6 (bsA (dcW (M 62 3) (M 62 5) (M 64) Q).2 0)) 7 (vB (M 7) (dcW (M 62 3) (M 62 5) (M 64) Q).2 1)) 8 (bsA (dcW (M 62 3) (M 62 5) (M 64) Q).2 1)) 9 (vB (M 9) (dcW (M 62 3) (M 62 5) (M 64) Q).2 2)) 10 (bsA (dcW (M 62 3) (M 62 5) (M 64) Q).2 2)) 11 (tdW (dcW (M 62 3) (M 62 5) (M 64) Q).2))) ((show Meq _ (cnQ M 2 (dcW (M 62 3) (M 62 5) (M 64) Q).2) from cnQ_of hrp (fun i hi => (by unfold basQ; rw [up1_ne (by omega), up1_ne (by omega), up1_ne (by omega)])))) ?_
        exact v_zret ok rt (by omega) dX9_doClause_73 (⟨(congrArg (fun q : Int => some (iv q)) (show 1 = (dcW (M 62 3) (M 62 5) (M 64) Q).1 from by (rw [hE9]))), rfl⟩)
  · skip
    by_cases e16 : (M 62 3) = 107
    · skip
      refine v_lookup (off := 59) (tgt := 74) ok ⟨by omega, by omega⟩ (by decide) (by rw [e16]; decide) dX9_doClause_15 (by decide) ?_
      have hs9 := e16
      have hb9 : M 62 5 = 3 ∧ bdf (M 64) (M 62 5) 0 9 := by
        rcases hk9 with q9 | q9 | q9 | q9
        · omega
        · exact q9.2
        · omega
        · omega
      have hx0 := hb9.2 0 (by omega) (by omega)
      have hx1 := hb9.2 1 (by omega) (by omega)
      have hx2 := hb9.2 2 (by omega) (by omega)
      refine v_aload_n ok 1 dX9_doClause_74 rfl rfl ?_
      refine v_aload_n ok 0 dX9_doClause_75 rfl rfl ?_
      refine v_iconst (n := 0) ok dX9_doClause_76 ?_
      refine v_iald (n := 12) (f0 := (M 64)) ok (by decide) rfl (by omega) rfl dX9_doClause_77 ?_
      refine v_aload_n ok 0 dX9_doClause_78 rfl rfl ?_
      refine v_iconst (n := 1) ok dX9_doClause_79 ?_
      refine v_iald (n := 12) (f0 := (M 64)) ok (by decide) rfl (by omega) rfl dX9_doClause_80 ?_
      refine v_aload_n ok 0 dX9_doClause_81 rfl rfl ?_
      refine v_iconst (n := 2) ok dX9_doClause_82 ?_
      refine v_iald (n := 12) (f0 := (M 64)) ok (by decide) rfl (by omega) rfl dX9_doClause_83 ?_
      refine v_callV (na := 3) (i := 0) (C := RX9) (T := TX9) (N := 9) (f0 := (M 0)) ok (ct_X9_hold z.2.1 g M (M 64 0) (M 64 1) (M 64 2) (⟨by omega, by omega⟩) (⟨by omega, by omega⟩) (⟨by omega, by omega⟩) hs) gX9_doClause_X9_hold (kd_lt (show kd 0 = 9 from rfl) (by decide)) rfl rfl (cellF_9 _ (by decide)) rfl (by decide +kernel) rfl (by decide) [] rfl (Nat.le_of_ble_eq_true rfl) dX9_doClause_84 (fun v18 M19 hp17 => ?_)
      rcases hp17 with ⟨rfl, eM19, h20⟩ | ⟨rfl, eM19, h21, h22⟩ | ⟨rfl, rfl, h23, h24⟩
      · skip
        subst M19
        have h20 : ¬ (0 ≤ (M 64 0) ∧ (M 64 0) < (M 2) 2) := h20
        show V z g 2 M [(1, rf g 64), (0, rf g 0)] [iv (-1)] 87
        have h7a := h20
        have hE9 : (dcW (M 62 3) (M 62 5) (M 64) Q) = (0, Q) := by rw [hs9, dcW_k, if_neg (by unfold kOk; omega)]
        refine v_if_lt (tgt := 94) ok (by decide) dX9_doClause_87 (by decide) (fun c25 => ?_) (fun c25 => absurd c25 (by decide))
        refine v_iconst (n := 0) ok dX9_doClause_94 ?_
        refine v_eqv (M' := (up1 (up1 (up1 (up1 (up1 (up1 (up1 (up1 (up1 M 2 (up (M 2) 2 ((dcW (M 62 3) (M 62 5) (M 64) Q).2 20))) 3 ((dcW (M 62 3) (M 62 5) (M 64) Q).2)) 5 (vB (M 5) (dcW (M 62 3) (M 62 5) (M 64) Q).2 0)) 6 (bsA (dcW (M 62 3) (M 62 5) (M 64) Q).2 0)) 7 (vB (M 7) (dcW (M 62 3) (M 62 5) (M 64) Q).2 1)) 8 (bsA (dcW (M 62 3) (M 62 5) (M 64) Q).2 1)) 9 (vB (M 9) (dcW (M 62 3) (M 62 5) (M 64) Q).2 2)) 10 (bsA (dcW (M 62 3) (M 62 5) (M 64) Q).2 2)) 11 (tdW (dcW (M 62 3) (M 62 5) (M 64) Q).2))) ((show Meq _ (cnQ M 2 (dcW (M 62 3) (M 62 5) (M 64) Q).2) from cnQ_of (by rw [hE9]; exact hrf.P) (fun i hi => rfl))) ?_
        exact v_zret ok rt (by omega) dX9_doClause_95 (⟨(congrArg (fun q : Int => some (iv q)) (show 0 = (dcW (M 62 3) (M 62 5) (M 64) Q).1 from by (rw [hE9]))), rfl⟩)
      · skip
        subst M19
        have h21 : 0 ≤ (M 64 0) ∧ (M 64 0) < (M 2) 2 := h21
        show V z g 2 M [(1, rf g 64), (0, rf g 0)] [iv (-2)] 87
        have h7a := h21
        have h7b := h22
        have hE9 : (dcW (M 62 3) (M 62 5) (M 64) Q) = (0, Q) := by rw [hs9, dcW_k, if_neg (by unfold kOk; omega)]
        refine v_if_lt (tgt := 94) ok (by decide) dX9_doClause_87 (by decide) (fun c26 => ?_) (fun c26 => absurd c26 (by decide))
        refine v_iconst (n := 0) ok dX9_doClause_94 ?_
        refine v_eqv (M' := (up1 (up1 (up1 (up1 (up1 (up1 (up1 (up1 (up1 M 2 (up (M 2) 2 ((dcW (M 62 3) (M 62 5) (M 64) Q).2 20))) 3 ((dcW (M 62 3) (M 62 5) (M 64) Q).2)) 5 (vB (M 5) (dcW (M 62 3) (M 62 5) (M 64) Q).2 0)) 6 (bsA (dcW (M 62 3) (M 62 5) (M 64) Q).2 0)) 7 (vB (M 7) (dcW (M 62 3) (M 62 5) (M 64) Q).2 1)) 8 (bsA (dcW (M 62 3) (M 62 5) (M 64) Q).2 1)) 9 (vB (M 9) (dcW (M 62 3) (M 62 5) (M 64) Q).2 2)) 10 (bsA (dcW (M 62 3) (M 62 5) (M 64) Q).2 2)) 11 (tdW (dcW (M 62 3) (M 62 5) (M 64) Q).2))) ((show Meq _ (cnQ M 2 (dcW (M 62 3) (M 62 5) (M 64) Q).2) from cnQ_of (by rw [hE9]; exact hrf.P) (fun i hi => rfl))) ?_
        exact v_zret ok rt (by omega) dX9_doClause_95 (⟨(congrArg (fun q : Int => some (iv q)) (show 0 = (dcW (M 62 3) (M 62 5) (M 64) Q).1 from by (rw [hE9]))), rfl⟩)
      · skip
        have h23 : 0 ≤ (M 64 0) ∧ (M 64 0) < (M 2) 2 := h23
        show V z g 2 (up1 M (basQ (M 64 0)) (up (up (M (basQ (M 64 0))) 2 (M 64 1)) 3 (M 64 2))) [(1, rf g 64), (0, rf g 0)] [iv (10 * M (basQ (M 64 0)) 2 + M (basQ (M 64 0)) 3)] 87
        have h7a := h23
        have h7b := h24
        have hE9 : (dcW (M 62 3) (M 62 5) (M 64) Q) = (1, up (up Q (21 + 8 * M 64 0 + 6) (M 64 1)) (21 + 8 * M 64 0 + 7) (M 64 2)) := by rw [hs9, dcW_k, if_pos (by unfold kOk; omega)]
        have hrp : RelP (up1 M (basQ (M 64 0)) (up (up (M (basQ (M 64 0))) 2 (M 64 1)) 3 (M 64 2))) 2 (dcW (M 62 3) (M 62 5) (M 64) Q).2 := by rw [hE9]; exact RelP_hold hrf (by omega) (by omega)
        have hbo := bas_ok hs (b := M 64 0) (by omega) (by omega)
        have hbo2 := hbo.2.2.1
        have hbo3 := hbo.2.2.2
        refine v_if_lt (tgt := 94) ok ⟨by omega, by omega⟩ dX9_doClause_87 (by decide) (fun c27 => absurd c27 (by omega)) (fun c27 => ?_)
        refine v_iconst (n := 1) ok dX9_doClause_90 ?_
        refine v_goto (tgt := 95) ok dX9_doClause_91 (by decide) ?_
        refine v_eqv (M' := (up1 (up1 (up1 (up1 (up1 (up1 (up1 (up1 (up1 M 2 (up (M 2) 2 ((dcW (M 62 3) (M 62 5) (M 64) Q).2 20))) 3 ((dcW (M 62 3) (M 62 5) (M 64) Q).2)) 5 (vB (M 5) (dcW (M 62 3) (M 62 5) (M 64) Q).2 0)) 6 (bsA (dcW (M 62 3) (M 62 5) (M 64) Q).2 0)) 7 (vB (M 7) (dcW (M 62 3) (M 62 5) (M 64) Q).2 1)) 8 (bsA (dcW (M 62 3) (M 62 5) (M 64) Q).2 1)) 9 (vB (M 9) (dcW (M 62 3) (M 62 5) (M 64) Q).2 2)) 10 (bsA (dcW (M 62 3) (M 62 5) (M 64) Q).2 2)) 11 (tdW (dcW (M 62 3) (M 62 5) (M 64) Q).2))) ((show Meq _ (cnQ M 2 (dcW (M 62 3) (M 62 5) (M 64) Q).2) from cnQ_of hrp (fun i hi => (by unfold basQ; rw [up1_ne (by omega)])))) ?_
        exact v_zret ok rt (by omega) dX9_doClause_95 (⟨(congrArg (fun q : Int => some (iv q)) (show 1 = (dcW (M 62 3) (M 62 5) (M 64) Q).1 from by (rw [hE9]))), rfl⟩)
    · skip
      by_cases e28 : (M 62 3) = 119
      · skip
        refine v_lookup (off := 81) (tgt := 96) ok ⟨by omega, by omega⟩ (by decide) (by rw [e28]; decide) dX9_doClause_15 (by decide) ?_
        have hs9 := e28
        have hb9 : (1 ≤ M 62 5 ∧ M 62 5 ≤ 8) ∧ bdf (M 64) (M 62 5) 0 999 := by
          rcases hk9 with q9 | q9 | q9 | q9
          · omega
          · omega
          · exact q9.2
          · omega
        refine v_aload_n ok 1 dX9_doClause_96 rfl rfl ?_
        refine v_get (T := TX9) (N := 9) (f0 := (M 0)) (v := rf g 62) ok mi_X9_doClause_9 (kd_lt (show kd 0 = 9 from rfl) (by decide)) rfl rfl (cellF_9 _ (by decide)) 7 (by decide) mk_X9_doClause_56 rfl rfl dX9_doClause_97 ?_
        refine v_aload_n ok 1 dX9_doClause_100 rfl rfl ?_
        refine v_get (T := TX9) (N := 9) (f0 := (M 0)) (v := rf g 1) ok mi_X9_doClause_9 (kd_lt (show kd 0 = 9 from rfl) (by decide)) rfl rfl (cellF_9 _ (by decide)) 0 (by decide) mk_X9_doClause_12 rfl rfl dX9_doClause_101 ?_
        refine v_get (T := TX7) (N := 5) (f0 := (M 1)) (v := rf g 2) ok mi_X9_doClause_7 (kd_lt (show kd 1 = 7 from rfl) (by decide)) rfl rfl (cellF_7 _ (by decide)) 0 (by decide) mk_X9_doClause_67 rfl rfl dX9_doClause_104 ?_
        refine v_get (T := TX6) (N := 3) (f0 := (M 2)) (v := rf g 3) ok mi_X9_doClause_6 (kd_lt (show kd 2 = 6 from rfl) (by decide)) rfl rfl (cellF_6 _ (by decide)) 0 (by decide) mk_X9_doClause_70 rfl rfl dX9_doClause_107 ?_
        refine v_bipush (n := 20) ok rfl dX9_doClause_110 ?_
        refine v_callV (na := 2) (i := 62) (C := RX5) (T := TX5) (N := 6) (f0 := (M 62)) ok (ct_X5_copyNumbersTo_3 z.2.1 g M  (by omega) hb9.2) gX9_doClause_X5_copyNumbersTo (kd_lt (show kd 62 = 5 from rfl) (by decide)) rfl rfl (cellF_5 _ (by decide)) rfl (by decide +kernel) rfl (by decide) [] rfl (Nat.le_of_ble_eq_true rfl) dX9_doClause_112 (fun v30 M31 hp29 => ?_)
        rcases hp29 with ⟨rfl, eM31, h32⟩ | ⟨rfl, rfl, h33⟩
        · skip
          subst M31
          have h32 : ¬ ∀ j : Int, 0 ≤ j → j < (M 62) 5 → (M 64) j ≤ 20 := h32
          show V z g 2 M [(1, rf g 64), (0, rf g 0)] [iv 0] 115
          have hE9 : (dcW (M 62 3) (M 62 5) (M 64) Q) = (0, Q) := by rw [hs9, dcW_w, if_neg (fun q9 => h32 (fun j j0 j1 => cab_0.mp q9 j j0 (by omega)))]
          refine v_eqv (M' := (up1 (up1 (up1 (up1 (up1 (up1 (up1 (up1 (up1 M 2 (up (M 2) 2 ((dcW (M 62 3) (M 62 5) (M 64) Q).2 20))) 3 ((dcW (M 62 3) (M 62 5) (M 64) Q).2)) 5 (vB (M 5) (dcW (M 62 3) (M 62 5) (M 64) Q).2 0)) 6 (bsA (dcW (M 62 3) (M 62 5) (M 64) Q).2 0)) 7 (vB (M 7) (dcW (M 62 3) (M 62 5) (M 64) Q).2 1)) 8 (bsA (dcW (M 62 3) (M 62 5) (M 64) Q).2 1)) 9 (vB (M 9) (dcW (M 62 3) (M 62 5) (M 64) Q).2 2)) 10 (bsA (dcW (M 62 3) (M 62 5) (M 64) Q).2 2)) 11 (tdW (dcW (M 62 3) (M 62 5) (M 64) Q).2))) ((show Meq _ (cnQ M 2 (dcW (M 62 3) (M 62 5) (M 64) Q).2) from cnQ_of (by rw [hE9]; exact hrf.P) (fun i hi => rfl))) ?_
          exact v_zret ok rt (by omega) dX9_doClause_115 (⟨(congrArg (fun q : Int => some (iv q)) (show 0 = (dcW (M 62 3) (M 62 5) (M 64) Q).1 from by (rw [hE9]))), rfl⟩)
        · skip
          have h33 : ∀ j : Int, 0 ≤ j → j < (M 62) 5 → (M 64) j ≤ 20 := h33
          show V z g 2 (up1 M 3 (cpN ((M 64)) ((M 62) 5))) [(1, rf g 64), (0, rf g 0)] [iv 1] 115
          have hE9 : (dcW (M 62 3) (M 62 5) (M 64) Q) = (1, lay (cpN (M 64) (M 62 5)) Q) := by rw [hs9, dcW_w, if_pos (cab_0.mpr (fun j j0 j1 => h33 j j0 (by omega)))]
          have hrp : RelP (up1 M 3 (cpN (M 64) (M 62 5))) 2 (dcW (M 62 3) (M 62 5) (M 64) Q).2 := by rw [hE9]; exact RelP_low hrf rfl rfl rfl rfl rfl rfl rfl (fun j hj => by show lay _ Q j = Q j; unfold lay; rw [if_neg (by omega)]) (fun k k0 k1 => by show cpN _ _ k = lay _ Q k; unfold lay; rw [if_pos ⟨k0, k1⟩]) (fun k k0 k1 => by show M 11 k = _; rw [hrf.2.2.1]; show tdW Q k = tdW (lay _ Q) k; unfold tdW lay; rw [if_neg (by omega)])
          refine v_eqv (M' := (up1 (up1 (up1 (up1 (up1 (up1 (up1 (up1 (up1 M 2 (up (M 2) 2 ((dcW (M 62 3) (M 62 5) (M 64) Q).2 20))) 3 ((dcW (M 62 3) (M 62 5) (M 64) Q).2)) 5 (vB (M 5) (dcW (M 62 3) (M 62 5) (M 64) Q).2 0)) 6 (bsA (dcW (M 62 3) (M 62 5) (M 64) Q).2 0)) 7 (vB (M 7) (dcW (M 62 3) (M 62 5) (M 64) Q).2 1)) 8 (bsA (dcW (M 62 3) (M 62 5) (M 64) Q).2 1)) 9 (vB (M 9) (dcW (M 62 3) (M 62 5) (M 64) Q).2 2)) 10 (bsA (dcW (M 62 3) (M 62 5) (M 64) Q).2 2)) 11 (tdW (dcW (M 62 3) (M 62 5) (M 64) Q).2))) ((show Meq _ (cnQ M 2 (dcW (M 62 3) (M 62 5) (M 64) Q).2) from cnQ_of hrp (fun i hi => (up1_ne (by omega))))) ?_
          exact v_zret ok rt (by omega) dX9_doClause_115 (⟨(congrArg (fun q : Int => some (iv q)) (show 1 = (dcW (M 62 3) (M 62 5) (M 64) Q).1 from by (rw [hE9]))), rfl⟩)
      · skip
        refine v_lookup (off := 101) (tgt := 116) ok ⟨by omega, by omega⟩ (by decide) (by simp [Op.lookupswitch.offset, Ne.symm e1, e1, Ne.symm e16, e16, Ne.symm e28, e28]) dX9_doClause_15 (by decide) ?_
        have hb9 : (1 ≤ M 62 5 ∧ M 62 5 ≤ 12) ∧ bdf (M 64) (M 62 5) 0 999 := by
          rcases hk9 with q9 | q9 | q9 | q9
          · omega
          · omega
          · omega
          · exact q9.2
        refine v_aload_n ok 1 dX9_doClause_116 rfl rfl ?_
        refine v_get (T := TX9) (N := 9) (f0 := (M 0)) (v := rf g 62) ok mi_X9_doClause_9 (kd_lt (show kd 0 = 9 from rfl) (by decide)) rfl rfl (cellF_9 _ (by decide)) 7 (by decide) mk_X9_doClause_56 rfl rfl dX9_doClause_117 ?_
        refine v_aload_n ok 1 dX9_doClause_120 rfl rfl ?_
        refine v_get (T := TX9) (N := 9) (f0 := (M 0)) (v := rf g 1) ok mi_X9_doClause_9 (kd_lt (show kd 0 = 9 from rfl) (by decide)) rfl rfl (cellF_9 _ (by decide)) 0 (by decide) mk_X9_doClause_12 rfl rfl dX9_doClause_121 ?_
        refine v_get (T := TX7) (N := 5) (f0 := (M 1)) (v := rf g 11) ok mi_X9_doClause_7 (kd_lt (show kd 1 = 7 from rfl) (by decide)) rfl rfl (cellF_7 _ (by decide)) 1 (by decide) mk_X9_doClause_107 rfl rfl dX9_doClause_124 ?_
        refine v_sipush (n := 999) ok rfl dX9_doClause_127 ?_
        refine v_callV (na := 2) (i := 62) (C := RX5) (T := TX5) (N := 6) (f0 := (M 62)) ok (ct_X5_copyNumbersTo_11 z.2.1 g M  (by omega) hb9.2) gX9_doClause_X5_copyNumbersTo (kd_lt (show kd 62 = 5 from rfl) (by decide)) rfl rfl (cellF_5 _ (by decide)) rfl (by decide +kernel) rfl (by decide) [] rfl (Nat.le_of_ble_eq_true rfl) dX9_doClause_130 (fun v35 M36 hp34 => ?_)
        rcases hp34 with ⟨rfl, eM36, h37⟩ | ⟨rfl, rfl, h38⟩
        · skip
          subst M36
          have h37 : ¬ ∀ j : Int, 0 ≤ j → j < (M 62) 5 → (M 64) j ≤ 999 := h37
          show V z g 2 M [(1, rf g 64), (0, rf g 0)] [iv 0] 133
          exfalso; exact h37 (fun j j0 j1 => (hb9.2 j j0 j1).2)
        · skip
          have h38 : ∀ j : Int, 0 ≤ j → j < (M 62) 5 → (M 64) j ≤ 999 := h38
          show V z g 2 (up1 M 11 (cpN ((M 64)) ((M 62) 5))) [(1, rf g 64), (0, rf g 0)] [iv 1] 133
          have hE9 : (dcW (M 62 3) (M 62 5) (M 64) Q) = (1, ldT (cpN (M 64) (M 62 5)) Q) := dcW_t (by omega) (by omega) (by omega)
          have hrp : RelP (up1 M 11 (cpN (M 64) (M 62 5))) 2 (dcW (M 62 3) (M 62 5) (M 64) Q).2 := by rw [hE9]; exact RelP_low hrf rfl rfl rfl rfl rfl rfl rfl (fun j hj => by show ldT _ Q j = Q j; unfold ldT; rw [if_neg (by omega)]) (fun k k0 k1 => by show M 3 k = ldT _ Q k; rw [h3q]; unfold ldT; rw [if_neg (by omega)]) (fun k k0 k1 => by show cpN _ _ k = tdW (ldT _ Q) k; unfold tdW ldT; rw [if_pos (by omega), show 8 + k - 8 = k by omega])
          refine v_eqv (M' := (up1 (up1 (up1 (up1 (up1 (up1 (up1 (up1 (up1 M 2 (up (M 2) 2 ((dcW (M 62 3) (M 62 5) (M 64) Q).2 20))) 3 ((dcW (M 62 3) (M 62 5) (M 64) Q).2)) 5 (vB (M 5) (dcW (M 62 3) (M 62 5) (M 64) Q).2 0)) 6 (bsA (dcW (M 62 3) (M 62 5) (M 64) Q).2 0)) 7 (vB (M 7) (dcW (M 62 3) (M 62 5) (M 64) Q).2 1)) 8 (bsA (dcW (M 62 3) (M 62 5) (M 64) Q).2 1)) 9 (vB (M 9) (dcW (M 62 3) (M 62 5) (M 64) Q).2 2)) 10 (bsA (dcW (M 62 3) (M 62 5) (M 64) Q).2 2)) 11 (tdW (dcW (M 62 3) (M 62 5) (M 64) Q).2))) ((show Meq _ (cnQ M 2 (dcW (M 62 3) (M 62 5) (M 64) Q).2) from cnQ_of hrp (fun i hi => (up1_ne (by omega))))) ?_
          exact v_zret ok rt (by omega) dX9_doClause_133 (⟨(congrArg (fun q : Int => some (iv q)) (show 1 = (dcW (M 62 3) (M 62 5) (M 64) Q).1 from by (rw [hE9]))), rfl⟩)
