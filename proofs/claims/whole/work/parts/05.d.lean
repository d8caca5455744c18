theorem mk_X9_read_56 : Cond.fieldLink RX9 56 "StormRunoff" "text" "LStormRunoff$SetUp;" ∈ wsX9_read := by decide +kernel
theorem mi_X9_read_9 : ∀ w ∈ wsX90, w ∈ wsX9_read := by decide +kernel
theorem mk_X9_read_126 : Cond.fieldLink RX9 126 "StormRunoff$SetUp" "length" "I" ∈ wsX9_read := by decide +kernel
theorem mi_X9_read_5 : ∀ w ∈ wsX50, w ∈ wsX9_read := by decide +kernel
set_option maxRecDepth 100000 in
set_option maxHeartbeats 400000 in
theorem ct_X9_read (l : Launch) (g : Gl) (M : Mem) (Q : Int → Int) (hrf : RelF M 2 Q) (hwq : WOk Q) (hL : 0 ≤ M 62 1 ∧ M 62 1 ≤ 100) (hG : bdf (M 63) 100 0 127) : Ct l g yX9_read wsX9_read 5 111 [rf g 0] M (fun rv M' => (∃ (Z N : Int → Int), rv = some (iv (-10 - (ffR (M 63) (M 62 1) 12 0))) ∧ M' = (up1 (up1 M 62 Z) 64 N) ∧ (0 ≤ (ffR (M 63) (M 62 1) 12 0)) ∧ (Z 1 = 0)) ∨ (∃ (Z N : Int → Int), rv = some (iv (doN (M 63) (M 62 1) (ncl (M 63) (M 62 1) 12 0) 0 Q).1) ∧ M' = (up1 (up1 (up1 (up1 (up1 (up1 (up1 (up1 (up1 (up1 (up1 M 2 (up (M 2) 2 ((doN (M 63) (M 62 1) (ncl (M 63) (M 62 1) 12 0) 0 Q).2 20))) 3 ((doN (M 63) (M 62 1) (ncl (M 63) (M 62 1) 12 0) 0 Q).2)) 5 (vB (M 5) (doN (M 63) (M 62 1) (ncl (M 63) (M 62 1) 12 0) 0 Q).2 0)) 6 (bsA (doN (M 63) (M 62 1) (ncl (M 63) (M 62 1) 12 0) 0 Q).2 0)) 7 (vB (M 7) (doN (M 63) (M 62 1) (ncl (M 63) (M 62 1) 12 0) 0 Q).2 1)) 8 (bsA (doN (M 63) (M 62 1) (ncl (M 63) (M 62 1) 12 0) 0 Q).2 1)) 9 (vB (M 9) (doN (M 63) (M 62 1) (ncl (M 63) (M 62 1) 12 0) 0 Q).2 2)) 10 (bsA (doN (M 63) (M 62 1) (ncl (M 63) (M 62 1) 12 0) 0 Q).2 2)) 11 (tdW (doN (M 63) (M 62 1) (ncl (M 63) (M 62 1) 12 0) 0 Q).2)) 62 Z) 64 N) ∧ ((ffR (M 63) (M 62 1) 12 0) = -1) ∧ (Z 1 = 0))) := by
  refine Ct.of (cc := cX9_read) (nL := 3) (ret := (some .int)) (by decide) rfl (Nat.le_of_ble_eq_true rfl) (fun z hz ok rt => ?_)
  have ok : Ok z g cX9_read 3 RX9 wsX9_read 5 111 := ok
  show V z g 3 M [(0, rf g 0)] [] 0
  have hfr9 := ffR_rng (T := M 63) (L := M 62 1) 12 0 ⟨by omega, hL.1⟩
  refine v_aload_n ok 0 dX9_read_0 rfl rfl ?_
  refine v_get (T := TX9) (N := 9) (f0 := (M 0)) (v := rf g 62) ok mi_X9_read_9 (kd_lt (show kd 0 = 9 from rfl) (by decide)) rfl rfl (cellF_9 _ (by decide)) 7 (by decide) mk_X9_read_56 rfl rfl dX9_read_1 ?_
  refine v_callV (na := 0) (i := 62) (C := RX5) (T := TX5) (N := 6) (f0 := (M 62)) ok (ct_X5_findFault z.2.1 g M  (by first | omega | assumption) (by first | omega | assumption)) gX9_read_X5_findFault (kd_lt (show kd 62 = 5 from rfl) (by decide)) rfl rfl (cellF_5 _ (by decide)) rfl (by decide +kernel) rfl (by decide) [] rfl (Nat.le_of_ble_eq_true rfl) dX9_read_4 (fun v2 M3 hp1 => ?_)
  obtain ⟨s4, p5, m6, N7, rfl, rfl⟩ := hp1
  show V z g 3 (up1 (up1 M 62 (up (up (up ((M 62)) 3 s4) 2 p5) 5 m6)) 64 N7) [(0, rf g 0)] [iv (ffR ((M 63)) ((M 62) 1) 12 0)] 7
  refine v_istore_n ok [(1, iv (ffR ((M 63)) ((M 62) 1) 12 0)), (0, rf g 0)] dX9_read_7 rfl (by decide) rfl ?_
  refine v_iload_n ok 0 dX9_read_8 rfl rfl ?_
  refine v_iconst (n := -1) ok dX9_read_9 ?_
  refine v_icmp_ne (tgt := 20) ok ⟨by omega, by omega⟩ (by decide) dX9_read_10 (by decide) (fun c8 => ?_) (fun c8 => ?_)
  · skip
    have hfe : 0 ≤ (ffR (M 63) (M 62 1) 12 0) := by omega
    refine v_bipush (n := -10) ok rfl dX9_read_20 ?_
    refine v_iload_n ok 0 dX9_read_22 rfl rfl ?_
    refine v_isub ok dX9_read_23 ?_
    refine v_istore_n ok [(2, iv ((-10) - (ffR ((M 63)) ((M 62) 1) 12 0))), (1, iv (ffR ((M 63)) ((M 62) 1) 12 0)), (0, rf g 0)] dX9_read_24 rfl (by decide) rfl ?_
    refine v_aload_n ok 2 dX9_read_25 rfl rfl ?_
    refine v_get (T := TX9) (N := 9) (f0 := (M 0)) (v := rf g 62) ok mi_X9_read_9 (kd_lt (show kd 0 = 9 from rfl) (by decide)) rfl rfl (cellF_9 _ (by decide)) 7 (by decide) mk_X9_read_56 rfl rfl dX9_read_26 ?_
    refine v_iconst (n := 0) ok dX9_read_29 ?_
    refine v_put (T := TX5) (N := 6) (f0 := (up (up (up ((M 62)) 3 s4) 2 p5) 5 m6)) (f' := up (up (up (up ((M 62)) 3 s4) 2 p5) 5 m6) 1 0) (ty := .int) ok mi_X9_read_5 (kd_lt (show kd 62 = 5 from rfl) (by decide)) rfl rfl (cellF_5 _ (by decide)) tyX5 tyX5_ok nmX5 1 (by decide) mk_X9_read_126 rfl rfl (by decide +kernel) rfl rfl (Nat.le_of_ble_eq_true rfl) ((cellF_5 _ (by decide)).trans rfl) dX9_read_30 ?_
    rw [show (up1 (up1 (up1 M 62 (up (up (up ((M 62)) 3 s4) 2 p5) 5 m6)) 64 N7) 62 (up (up (up (up ((M 62)) 3 s4) 2 p5) 5 m6) 1 0) : Mem) = (up1 (up1 M 62 (up (up (up (up ((M 62)) 3 s4) 2 p5) 5 m6) 1 0)) 64 N7) from (by
          funext j
          by_cases hj0 : j = 62
          · subst hj0; simp [up1, up1_self]
          by_cases hj1 : j = 64
          · subst hj1; simp [up1, up1_self]
          simp [up1, hj0, hj1])]
    refine v_iload_n ok 0 dX9_read_33 rfl rfl ?_
    exact v_iret ok rt dX9_read_34 (Or.inl (⟨(up (up (up (up ((M 62)) 3 s4) 2 p5) 5 m6) 1 0), N7, (congrArg (fun q : Int => some (iv q)) (show ((-10) - (ffR ((M 63)) ((M 62) 1) 12 0)) = (-10 - (ffR (M 63) (M 62 1) 12 0)) from by rfl)), rfl, hfe, rfl⟩))
  · skip
    have hfe : (ffR (M 63) (M 62 1) 12 0) = -1 := by omega
    refine v_aload_n ok 1 dX9_read_13 rfl rfl ?_
    refine v_callV (na := 0) (i := 0) (C := RX9) (T := TX9) (N := 9) (f0 := (M 0)) ok (ct_X9_doClauses z.2.1 g (up1 (up1 M 62 (up (up (up ((M 62)) 3 s4) 2 p5) 5 m6)) 64 N7) Q hrf hwq (by show 0 ≤ ((M 62) 1) ∧ ((M 62) 1) ≤ 100; first | omega | assumption) (by show bdf ((M 63)) 100 0 127; first | omega | assumption) hfe) gX9_read_X9_doClauses (kd_lt (show kd 0 = 9 from rfl) (by decide)) rfl rfl (cellF_9 _ (by decide)) rfl (by decide +kernel) rfl (by decide) [] rfl (Nat.le_of_ble_eq_true rfl) dX9_read_14 (fun v10 M11 hp9 => ?_)
    obtain ⟨s12, p13, m14, N15, rfl, rfl⟩ := hp9
    show V z g 3 (up1 (up1 (up1 (up1 (up1 (up1 (up1 (up1 (up1 (up1 (up1 (up1 (up1 M 62 (up (up (up ((M 62)) 3 s4) 2 p5) 5 m6)) 64 N7) 2 (up ((M 2)) 2 ((doN ((M 63)) (((M 62) 1)) (ncl ((M 63)) (((M 62) 1)) 12 0) 0 Q).2 20))) 3 ((doN ((M 63)) (((M 62) 1)) (ncl ((M 63)) (((M 62) 1)) 12 0) 0 Q).2)) 5 (vB ((M 5)) (doN ((M 63)) (((M 62) 1)) (ncl ((M 63)) (((M 62) 1)) 12 0) 0 Q).2 0)) 6 (bsA (doN ((M 63)) (((M 62) 1)) (ncl ((M 63)) (((M 62) 1)) 12 0) 0 Q).2 0)) 7 (vB ((M 7)) (doN ((M 63)) (((M 62) 1)) (ncl ((M 63)) (((M 62) 1)) 12 0) 0 Q).2 1)) 8 (bsA (doN ((M 63)) (((M 62) 1)) (ncl ((M 63)) (((M 62) 1)) 12 0) 0 Q).2 1)) 9 (vB ((M 9)) (doN ((M 63)) (((M 62) 1)) (ncl ((M 63)) (((M 62) 1)) 12 0) 0 Q).2 2)) 10 (bsA (doN ((M 63)) (((M 62) 1)) (ncl ((M 63)) (((M 62) 1)) 12 0) 0 Q).2 2)) 11 (tdW (doN ((M 63)) (((M 62) 1)) (ncl ((M 63)) (((M 62) 1)) 12 0) 0 Q).2)) 62 (up (up (up ((up (up (up ((M 62)) 3 s4) 2 p5) 5 m6)) 3 s12) 2 p13) 5 m14)) 64 N15) [(1, iv (ffR ((M 63)) ((M 62) 1) 12 0)), (0, rf g 0)] [iv ((doN ((M 63)) (((M 62) 1)) (ncl ((M 63)) (((M 62) 1)) 12 0) 0 Q).1)] 17
    rw [show ((up1 (up1 (up1 (up1 (up1 (up1 (up1 (up1 (up1 (up1 (up1 (up1 (up1 M 62 (up (up (up ((M 62)) 3 s4) 2 p5) 5 m6)) 64 N7) 2 (up ((M 2)) 2 ((doN ((M 63)) (((M 62) 1)) (ncl ((M 63)) (((M 62) 1)) 12 0) 0 Q).2 20))) 3 ((doN ((M 63)) (((M 62) 1)) (ncl ((M 63)) (((M 62) 1)) 12 0) 0 Q).2)) 5 (vB ((M 5)) (doN ((M 63)) (((M 62) 1)) (ncl ((M 63)) (((M 62) 1)) 12 0) 0 Q).2 0)) 6 (bsA (doN ((M 63)) (((M 62) 1)) (ncl ((M 63)) (((M 62) 1)) 12 0) 0 Q).2 0)) 7 (vB ((M 7)) (doN ((M 63)) (((M 62) 1)) (ncl ((M 63)) (((M 62) 1)) 12 0) 0 Q).2 1)) 8 (bsA (doN ((M 63)) (((M 62) 1)) (ncl ((M 63)) (((M 62) 1)) 12 0) 0 Q).2 1)) 9 (vB ((M 9)) (doN ((M 63)) (((M 62) 1)) (ncl ((M 63)) (((M 62) 1)) 12 0) 0 Q).2 2)) 10 (bsA (doN ((M 63)) (((M 62) 1)) (ncl ((M 63)) (((M 62) 1)) 12 0) 0 Q).2 2)) 11 (tdW (doN ((M 63)) (((M 62) 1)) (ncl ((M 63)) (((M 62) 1)) 12 0) 0 Q).2)) 62 (up (up (up ((up (up (up ((M 62)) 3 s4) 2 p5) 5 m6)) 3 s12) 2 p13) 5 m14)) 64 N15) : Mem) = (up1 (up1 (up1 (up1 (up1 (up1 (up1 (up1 (up1 (up1 (up1 M 62 (up (up (up ((up (up (up ((M 62)) 3 s4) 2 p5) 5 m6)) 3 s12) 2 p13) 5 m14)) 64 N15) 2 (up ((M 2)) 2 ((doN ((M 63)) (((M 62) 1)) (ncl ((M 63)) (((M 62) 1)) 12 0) 0 Q).2 20))) 3 ((doN ((M 63)) (((M 62) 1)) (ncl ((M 63)) (((M 62) 1)) 12 0) 0 Q).2)) 5 (vB ((M 5)) (doN ((M 63)) (((M 62) 1)) (ncl ((M 63)) (((M 62) 1)) 12 0) 0 Q).2 0)) 6 (bsA (doN ((M 63)) (((M 62) 1)) (ncl ((M 63)) (((M 62) 1)) 12 0) 0 Q).2 0)) 7 (vB ((M 7)) (doN ((M 63)) (((M 62) 1)) (ncl ((M 63)) (((M 62) 1)) 12 0) 0 Q).2 1)) 8 (bsA (doN ((M 63)) (((M 62) 1)) (ncl ((M 63)) (((M 62) 1)) 12 0) 0 Q).2 1)) 9 (vB ((M 9)) (doN ((M 63)) (((M 62) 1)) (ncl ((M 63)) (((M 62) 1)) 12 0) 0 Q).2 2)) 10 (bsA (doN ((M 63)) (((M 62) 1)) (ncl ((M 63)) (((M 62) 1)) 12 0) 0 Q).2 2)) 11 (tdW (doN ((M 63)) (((M 62) 1)) (ncl ((M 63)) (((M 62) 1)) 12 0) 0 Q).2)) from (by
          funext j
          by_cases hj0 : j = 62
          · subst hj0; simp [up1, up1_self]
          by_cases hj1 : j = 64
          · subst hj1; simp [up1, up1_self]
          by_cases hj2 : j = 2
          · subst hj2; simp [up1, up1_self]
          by_cases hj3 : j = 3
          · subst hj3; simp [up1, up1_self]
          by_cases hj4 : j = 5
          · subst hj4; simp [up1, up1_self]
          by_cases hj5 : j = 6
          · subst hj5; simp [up1, up1_self]
          by_cases hj6 : j = 7
          · subst hj6; simp [up1, up1_self]
          by_cases hj7 : j = 8
          · subst hj7; simp [up1, up1_self]
          by_cases hj8 : j = 9
          · subst hj8; simp [up1, up1_self]
          by_cases hj9 : j = 10
          · subst hj9; simp [up1, up1_self]
          by_cases hj10 : j = 11
          · subst hj10; simp [up1, up1_self]
          simp [up1, hj0, hj1, hj2, hj3, hj4, hj5, hj6, hj7, hj8, hj9, hj10])]
    refine v_goto (tgt := 24) ok dX9_read_17 (by decide) ?_
    refine v_istore_n ok [(2, iv ((doN ((M 63)) (((M 62) 1)) (ncl ((M 63)) (((M 62) 1)) 12 0) 0 Q).1)), (1, iv (ffR ((M 63)) ((M 62) 1) 12 0)), (0, rf g 0)] dX9_read_24 rfl (by decide) rfl ?_
    refine v_aload_n ok 2 dX9_read_25 rfl rfl ?_
    refine v_get (T := TX9) (N := 9) (f0 := (M 0)) (v := rf g 62) ok mi_X9_read_9 (kd_lt (show kd 0 = 9 from rfl) (by decide)) rfl rfl (cellF_9 _ (by decide)) 7 (by decide) mk_X9_read_56 rfl rfl dX9_read_26 ?_
    refine v_iconst (n := 0) ok dX9_read_29 ?_
    refine v_put (T := TX5) (N := 6) (f0 := (up (up (up ((up (up (up ((M 62)) 3 s4) 2 p5) 5 m6)) 3 s12) 2 p13) 5 m14)) (f' := up (up (up (up ((up (up (up ((M 62)) 3 s4) 2 p5) 5 m6)) 3 s12) 2 p13) 5 m14) 1 0) (ty := .int) ok mi_X9_read_5 (kd_lt (show kd 62 = 5 from rfl) (by decide)) rfl rfl (cellF_5 _ (by decide)) tyX5 tyX5_ok nmX5 1 (by decide) mk_X9_read_126 rfl rfl (by decide +kernel) rfl rfl (Nat.le_of_ble_eq_true rfl) ((cellF_5 _ (by decide)).trans rfl) dX9_read_30 ?_
    rw [show (up1 (up1 (up1 (up1 (up1 (up1 (up1 (up1 (up1 (up1 (up1 (up1 M 62 (up (up (up ((up (up (up ((M 62)) 3 s4) 2 p5) 5 m6)) 3 s12) 2 p13) 5 m14)) 64 N15) 2 (up ((M 2)) 2 ((doN ((M 63)) (((M 62) 1)) (ncl ((M 63)) (((M 62) 1)) 12 0) 0 Q).2 20))) 3 ((doN ((M 63)) (((M 62) 1)) (ncl ((M 63)) (((M 62) 1)) 12 0) 0 Q).2)) 5 (vB ((M 5)) (doN ((M 63)) (((M 62) 1)) (ncl ((M 63)) (((M 62) 1)) 12 0) 0 Q).2 0)) 6 (bsA (doN ((M 63)) (((M 62) 1)) (ncl ((M 63)) (((M 62) 1)) 12 0) 0 Q).2 0)) 7 (vB ((M 7)) (doN ((M 63)) (((M 62) 1)) (ncl ((M 63)) (((M 62) 1)) 12 0) 0 Q).2 1)) 8 (bsA (doN ((M 63)) (((M 62) 1)) (ncl ((M 63)) (((M 62) 1)) 12 0) 0 Q).2 1)) 9 (vB ((M 9)) (doN ((M 63)) (((M 62) 1)) (ncl ((M 63)) (((M 62) 1)) 12 0) 0 Q).2 2)) 10 (bsA (doN ((M 63)) (((M 62) 1)) (ncl ((M 63)) (((M 62) 1)) 12 0) 0 Q).2 2)) 11 (tdW (doN ((M 63)) (((M 62) 1)) (ncl ((M 63)) (((M 62) 1)) 12 0) 0 Q).2)) 62 (up (up (up (up ((up (up (up ((M 62)) 3 s4) 2 p5) 5 m6)) 3 s12) 2 p13) 5 m14) 1 0) : Mem) = (up1 (up1 (up1 (up1 (up1 (up1 (up1 (up1 (up1 (up1 (up1 M 62 (up (up (up (up ((up (up (up ((M 62)) 3 s4) 2 p5) 5 m6)) 3 s12) 2 p13) 5 m14) 1 0)) 64 N15) 2 (up ((M 2)) 2 ((doN ((M 63)) (((M 62) 1)) (ncl ((M 63)) (((M 62) 1)) 12 0) 0 Q).2 20))) 3 ((doN ((M 63)) (((M 62) 1)) (ncl ((M 63)) (((M 62) 1)) 12 0) 0 Q).2)) 5 (vB ((M 5)) (doN ((M 63)) (((M 62) 1)) (ncl ((M 63)) (((M 62) 1)) 12 0) 0 Q).2 0)) 6 (bsA (doN ((M 63)) (((M 62) 1)) (ncl ((M 63)) (((M 62) 1)) 12 0) 0 Q).2 0)) 7 (vB ((M 7)) (doN ((M 63)) (((M 62) 1)) (ncl ((M 63)) (((M 62) 1)) 12 0) 0 Q).2 1)) 8 (bsA (doN ((M 63)) (((M 62) 1)) (ncl ((M 63)) (((M 62) 1)) 12 0) 0 Q).2 1)) 9 (vB ((M 9)) (doN ((M 63)) (((M 62) 1)) (ncl ((M 63)) (((M 62) 1)) 12 0) 0 Q).2 2)) 10 (bsA (doN ((M 63)) (((M 62) 1)) (ncl ((M 63)) (((M 62) 1)) 12 0) 0 Q).2 2)) 11 (tdW (doN ((M 63)) (((M 62) 1)) (ncl ((M 63)) (((M 62) 1)) 12 0) 0 Q).2)) from (by
          funext j
          by_cases hj0 : j = 62
          · subst hj0; simp [up1, up1_self]
          by_cases hj1 : j = 64
          · subst hj1; simp [up1, up1_self]
          by_cases hj2 : j = 2
          · subst hj2; simp [up1, up1_self]
          by_cases hj3 : j = 3
          · subst hj3; simp [up1, up1_self]
          by_cases hj4 : j = 5
          · subst hj4; simp [up1, up1_self]
          by_cases hj5 : j = 6
          · subst hj5; simp [up1, up1_self]
          by_cases hj6 : j = 7
          · subst hj6; simp [up1, up1_self]
          by_cases hj7 : j = 8
          · subst hj7; simp [up1, up1_self]
          by_cases hj8 : j = 9
          · subst hj8; simp [up1, up1_self]
          by_cases hj9 : j = 10
          · subst hj9; simp [up1, up1_self]
          by_cases hj10 : j = 11
          · subst hj10; simp [up1, up1_self]
          simp [up1, hj0, hj1, hj2, hj3, hj4, hj5, hj6, hj7, hj8, hj9, hj10])]
    refine v_iload_n ok 0 dX9_read_33 rfl rfl ?_
    exact v_iret ok rt dX9_read_34 (Or.inr (⟨(up (up (up (up ((up (up (up ((M 62)) 3 s4) 2 p5) 5 m6)) 3 s12) 2 p13) 5 m14) 1 0), N15, (congrArg (fun q : Int => some (iv q)) (show ((doN ((M 63)) (((M 62) 1)) (ncl ((M 63)) (((M 62) 1)) 12 0) 0 Q).1) = (doN (M 63) (M 62 1) (ncl (M 63) (M 62 1) 12 0) 0 Q).1 from by rfl)), (by
          funext j
          by_cases hj0 : j = 2
          · subst hj0; simp [up1, up1_self]
          by_cases hj1 : j = 3
          · subst hj1; simp [up1, up1_self]
          by_cases hj2 : j = 5
          · subst hj2; simp [up1, up1_self]
          by_cases hj3 : j = 6
          · subst hj3; simp [up1, up1_self]
          by_cases hj4 : j = 7
          · subst hj4; simp [up1, up1_self]
          by_cases hj5 : j = 8
          · subst hj5; simp [up1, up1_self]
          by_cases hj6 : j = 9
          · subst hj6; simp [up1, up1_self]
          by_cases hj7 : j = 10
          · subst hj7; simp [up1, up1_self]
          by_cases hj8 : j = 11
          · subst hj8; simp [up1, up1_self]
          by_cases hj9 : j = 62
          · subst hj9; simp [up1, up1_self]
          by_cases hj10 : j = 64
          · subst hj10; simp [up1, up1_self]
          simp [up1, hj0, hj1, hj2, hj3, hj4, hj5, hj6, hj7, hj8, hj9, hj10]), hfe, rfl⟩))
