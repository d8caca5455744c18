theorem mk_X9_doClauses_56 : Cond.fieldLink RX9 56 "StormRunoff" "text" "LStormRunoff$SetUp;" ∈ wsX9_doClauses := by decide +kernel
theorem mi_X9_doClauses_9 : ∀ w ∈ wsX90, w ∈ wsX9_doClauses := by decide +kernel
set_option maxRecDepth 100000 in
set_option maxHeartbeats 2000000 in
theorem ct_X9_doClauses (l : Launch) (g : Gl) (M : Mem) (Q : Int → Int) (hrf : RelF M 2 Q) (hwq : WOk Q) (hL : 0 ≤ M 62 1 ∧ M 62 1 ≤ 100) (hG : bdf (M 63) 100 0 127) (hff : (ffR (M 63) (M 62 1) 12 0) = -1) : Ct l g yX9_doClauses wsX9_doClauses 4 89 [rf g 0] M (fun rv M' => ∃ (s p m : Int) (N : Int → Int), rv = some (iv (doN (M 63) (M 62 1) (ncl (M 63) (M 62 1) 12 0) 0 Q).1) ∧ M' = (up1 (up1 (up1 (up1 (up1 (up1 (up1 (up1 (up1 (up1 (up1 M 2 (up (M 2) 2 ((doN (M 63) (M 62 1) (ncl (M 63) (M 62 1) 12 0) 0 Q).2 20))) 3 ((doN (M 63) (M 62 1) (ncl (M 63) (M 62 1) 12 0) 0 Q).2)) 5 (vB (M 5) (doN (M 63) (M 62 1) (ncl (M 63) (M 62 1) 12 0) 0 Q).2 0)) 6 (bsA (doN (M 63) (M 62 1) (ncl (M 63) (M 62 1) 12 0) 0 Q).2 0)) 7 (vB (M 7) (doN (M 63) (M 62 1) (ncl (M 63) (M 62 1) 12 0) 0 Q).2 1)) 8 (bsA (doN (M 63) (M 62 1) (ncl (M 63) (M 62 1) 12 0) 0 Q).2 1)) 9 (vB (M 9) (doN (M 63) (M 62 1) (ncl (M 63) (M 62 1) 12 0) 0 Q).2 2)) 10 (bsA (doN (M 63) (M 62 1) (ncl (M 63) (M 62 1) 12 0) 0 Q).2 2)) 11 (tdW (doN (M 63) (M 62 1) (ncl (M 63) (M 62 1) 12 0) 0 Q).2)) 62 (up (up (up (M 62) 3 s) 2 p) 5 m)) 64 N)) := by
  refine Ct.of (cc := cX9_doClauses) (nL := 3) (ret := (some .int)) (by decide) rfl (Nat.le_of_ble_eq_true rfl) (fun z hz ok rt => ?_)
  have ok : Ok z g cX9_doClauses 3 RX9 wsX9_doClauses 4 89 := ok
  show V z g 3 M [(0, rf g 0)] [] 0
  refine v_iconst (n := 0) ok dX9_doClauses_0 ?_
  refine v_istore_n ok [(1, iv 0), (0, rf g 0)] dX9_doClauses_1 rfl (by decide) rfl ?_
  refine v_aload_n ok 1 dX9_doClauses_2 rfl rfl ?_
  refine v_get (T := TX9) (N := 9) (f0 := (M 0)) (v := rf g 62) ok mi_X9_doClauses_9 (kd_lt (show kd 0 = 9 from rfl) (by decide)) rfl rfl (cellF_9 _ (by decide)) 7 (by decide) mk_X9_doClauses_56 rfl rfl dX9_doClauses_3 ?_
  refine v_callV (na := 0) (i := 62) (C := RX5) (T := TX5) (N := 6) (f0 := (M 62)) ok (ct_X5_begin z.2.1 g M  ) gX9_doClauses_X5_begin (kd_lt (show kd 62 = 5 from rfl) (by decide)) rfl rfl (cellF_5 _ (by decide)) rfl (by decide +kernel) rfl (by decide) [] rfl (Nat.le_of_ble_eq_true rfl) dX9_doClauses_6 (fun v2 M3 hp1 => ?_)
  obtain ⟨rfl, rfl⟩ := hp1
  show V z g 3 (up1 M 62 (up ((M 62)) 2 0)) [(1, iv 0), (0, rf g 0)] [] 9
  refine v_iconst (n := 0) ok dX9_doClauses_9 ?_
  refine v_istore_n ok [(2, iv 0), (1, iv 0), (0, rf g 0)] dX9_doClauses_10 rfl (by decide) rfl ?_
  have lp11 : ∀ (fu : Nat) (c d s p m : Int) (N Y : Int → Int), (0 ≤ c ∧ c ≤ 12) → (0 ≤ p ∧ p ≤ M 62 1) → (WOk Y) → ((c < 12 ∧ ffR (M 63) (M 62 1) (12 - c).toNat p = -1 ∧ (doN (M 63) (M 62 1) (ncl (M 63) (M 62 1) 12 0) 0 Q) = (d + (doN (M 63) (M 62 1) (ncl (M 63) (M 62 1) (12 - c).toNat p) p Y).1, (doN (M 63) (M 62 1) (ncl (M 63) (M 62 1) (12 - c).toNat p) p Y).2)) ∨ (M 62 1 ≤ p ∧ (doN (M 63) (M 62 1) (ncl (M 63) (M 62 1) 12 0) 0 Q) = (d, Y))) → (12 - c).toNat < fu → V z g 3 (up1 (up1 (up1 (up1 (up1 (up1 (up1 (up1 (up1 (up1 (up1 M 2 (up (M 2) 2 (Y 20))) 3 Y) 5 (vB (M 5) Y 0)) 6 (bsA Y 0)) 7 (vB (M 7) Y 1)) 8 (bsA Y 1)) 9 (vB (M 9) Y 2)) 10 (bsA Y 2)) 11 (tdW Y)) 62 (up (up (up (M 62) 3 s) 2 p) 5 m)) 64 N) [(0, rf g 0), (1, iv d), (2, iv c)] [] 11 := by
    intro fu
    induction fu with
    | zero => intro c d s p m N Y _ _ _ _ hm; exact absurd hm (Nat.not_lt_zero _)
    | succ fu ih11 =>
      intro c d s p m N Y i11_0 i11_1 i11_2 i11_3 hm11
      have hcr := clR_rng (T := M 63) i11_1
      refine v_iload_n ok 2 dX9_doClauses_11 rfl rfl ?_
      refine v_bipush (n := 12) ok rfl dX9_doClauses_12 ?_
      refine v_icmp_ge (tgt := 53) ok ⟨by omega, by omega⟩ (by decide) dX9_doClauses_14 (by decide) (fun c4 => ?_) (fun c4 => ?_)
      · skip
        have hfin : (doN (M 63) (M 62 1) (ncl (M 63) (M 62 1) 12 0) 0 Q) = (d, Y) := by
          rcases i11_3 with q9 | q9
          · omega
          · exact q9.2
        rw [show ((up1 (up1 (up1 (up1 (up1 (up1 (up1 (up1 (up1 (up1 (up1 M 2 (up (M 2) 2 (Y 20))) 3 Y) 5 (vB (M 5) Y 0)) 6 (bsA Y 0)) 7 (vB (M 7) Y 1)) 8 (bsA Y 1)) 9 (vB (M 9) Y 2)) 10 (bsA Y 2)) 11 (tdW Y)) 62 (up (up (up (M 62) 3 s) 2 p) 5 m)) 64 N) : Mem) = (up1 (up1 (up1 (up1 (up1 (up1 (up1 (up1 (up1 (up1 (up1 M 2 (up (M 2) 2 ((doN (M 63) (M 62 1) (ncl (M 63) (M 62 1) 12 0) 0 Q).2 20))) 3 ((doN (M 63) (M 62 1) (ncl (M 63) (M 62 1) 12 0) 0 Q).2)) 5 (vB (M 5) (doN (M 63) (M 62 1) (ncl (M 63) (M 62 1) 12 0) 0 Q).2 0)) 6 (bsA (doN (M 63) (M 62 1) (ncl (M 63) (M 62 1) 12 0) 0 Q).2 0)) 7 (vB (M 7) (doN (M 63) (M 62 1) (ncl (M 63) (M 62 1) 12 0) 0 Q).2 1)) 8 (bsA (doN (M 63) (M 62 1) (ncl (M 63) (M 62 1) 12 0) 0 Q).2 1)) 9 (vB (M 9) (doN (M 63) (M 62 1) (ncl (M 63) (M 62 1) 12 0) 0 Q).2 2)) 10 (bsA (doN (M 63) (M 62 1) (ncl (M 63) (M 62 1) 12 0) 0 Q).2 2)) 11 (tdW (doN (M 63) (M 62 1) (ncl (M 63) (M 62 1) 12 0) 0 Q).2)) 62 (up (up (up (M 62) 3 s) 2 p) 5 m)) 64 N) from (by rw [hfin])]
        refine v_iload_n ok 1 dX9_doClauses_53 rfl rfl ?_
        exact v_iret ok rt dX9_doClauses_54 (⟨_, _, _, N, (congrArg (fun q : Int => some (iv q)) (show d = (doN (M 63) (M 62 1) (ncl (M 63) (M 62 1) 12 0) 0 Q).1 from by (rw [hfin]))), rfl⟩)
      · skip
        refine v_aload_n ok 0 dX9_doClauses_17 rfl rfl ?_
        refine v_get (T := TX9) (N := 9) (f0 := (M 0)) (v := rf g 62) ok mi_X9_doClauses_9 (kd_lt (show kd 0 = 9 from rfl) (by decide)) rfl rfl (cellF_9 _ (by decide)) 7 (by decide) mk_X9_doClauses_56 rfl rfl dX9_doClauses_18 ?_
        refine v_callV (na := 0) (i := 62) (C := RX5) (T := TX5) (N := 6) (f0 := (up (up (up (M 62) 3 s) 2 p) 5 m)) ok (ct_X5_readClause z.2.1 g (up1 (up1 (up1 (up1 (up1 (up1 (up1 (up1 (up1 (up1 (up1 M 2 (up (M 2) 2 (Y 20))) 3 Y) 5 (vB (M 5) Y 0)) 6 (bsA Y 0)) 7 (vB (M 7) Y 1)) 8 (bsA Y 1)) 9 (vB (M 9) Y 2)) 10 (bsA Y 2)) 11 (tdW Y)) 62 (up (up (up (M 62) 3 s) 2 p) 5 m)) 64 N)  (by show 0 ≤ (M 62 1) ∧ (M 62 1) ≤ 100; first | omega | assumption) (by show 0 ≤ p ∧ p ≤ 700; first | omega | assumption) (by show bdf ((M 63)) 100 0 127; first | omega | assumption)) gX9_doClauses_X5_readClause (kd_lt (show kd 62 = 5 from rfl) (by decide)) rfl rfl (cellF_5 _ (by decide)) rfl (by decide +kernel) rfl (by decide) [] rfl (Nat.le_of_ble_eq_true rfl) dX9_doClauses_21 (fun v6 M7 hp5 => ?_)
        obtain ⟨N8, rfl, rfl, h9⟩ := hp5
        have h9 : (clR ((M 63)) ((M 62 1)) (p)).1 = 1 → ∀ j : Int, 0 ≤ j → j < (clR ((M 63)) ((M 62 1)) (p)).2.2 → N8 j = clV ((M 63)) ((M 62 1)) (p) j := h9
        show V z g 3 (up1 (up1 (up1 (up1 (up1 (up1 (up1 (up1 (up1 (up1 (up1 (up1 (up1 M 2 (up (M 2) 2 (Y 20))) 3 Y) 5 (vB (M 5) Y 0)) 6 (bsA Y 0)) 7 (vB (M 7) Y 1)) 8 (bsA Y 1)) 9 (vB (M 9) Y 2)) 10 (bsA Y 2)) 11 (tdW Y)) 62 (up (up (up (M 62) 3 s) 2 p) 5 m)) 64 N) 62 (up (up (up ((up (up (up (M 62) 3 s) 2 p) 5 m)) 3 (sgn ((M 63)) ((M 62 1)) (p))) 2 (clR ((M 63)) ((M 62 1)) (p)).2.1) 5 (clR ((M 63)) ((M 62 1)) (p)).2.2)) 64 N8) [(0, rf g 0), (1, iv d), (2, iv c)] [iv ((clR ((M 63)) ((M 62 1)) (p)).1)] 24
        rw [show ((up1 (up1 (up1 (up1 (up1 (up1 (up1 (up1 (up1 (up1 (up1 (up1 (up1 M 2 (up (M 2) 2 (Y 20))) 3 Y) 5 (vB (M 5) Y 0)) 6 (bsA Y 0)) 7 (vB (M 7) Y 1)) 8 (bsA Y 1)) 9 (vB (M 9) Y 2)) 10 (bsA Y 2)) 11 (tdW Y)) 62 (up (up (up (M 62) 3 s) 2 p) 5 m)) 64 N) 62 (up (up (up ((up (up (up (M 62) 3 s) 2 p) 5 m)) 3 (sgn ((M 63)) ((M 62 1)) (p))) 2 (clR ((M 63)) ((M 62 1)) (p)).2.1) 5 (clR ((M 63)) ((M 62 1)) (p)).2.2)) 64 N8) : Mem) = (up1 (up1 (up1 (up1 (up1 (up1 (up1 (up1 (up1 (up1 (up1 M 2 (up (M 2) 2 (Y 20))) 3 Y) 5 (vB (M 5) Y 0)) 6 (bsA Y 0)) 7 (vB (M 7) Y 1)) 8 (bsA Y 1)) 9 (vB (M 9) Y 2)) 10 (bsA Y 2)) 11 (tdW Y)) 62 (up (up (up ((up (up (up (M 62) 3 s) 2 p) 5 m)) 3 (sgn ((M 63)) ((M 62 1)) (p))) 2 (clR ((M 63)) ((M 62 1)) (p)).2.1) 5 (clR ((M 63)) ((M 62 1)) (p)).2.2)) 64 N8) from (by
              funext j
              by_cases hj0 : j = 2
              · subst hj0; simp [up1, up1_self]
              by_cases hj1 : j = 3
              · subst hj1; simp [up1, up1_self]
              by_cases hj2 : j = 5
              · subst hj2; simp [up1, up1_self]
              by_cases hj3 : j = 6
              · subst hj3; simp [up1, up1_self]
              by_cases hj4 : j = 7
              · subst hj4; simp [up1, up1_self]
              by_cases hj5 : j = 8
              · subst hj5; simp [up1, up1_self]
              by_cases hj6 : j = 9
              · subst hj6; simp [up1, up1_self]
              by_cases hj7 : j = 10
              · subst hj7; simp [up1, up1_self]
              by_cases hj8 : j = 11
              · subst hj8; simp [up1, up1_self]
              by_cases hj9 : j = 62
              · subst hj9; simp [up1, up1_self]
              by_cases hj10 : j = 64
              · subst hj10; simp [up1, up1_self]
              simp [up1, hj0, hj1, hj2, hj3, hj4, hj5, hj6, hj7, hj8, hj9, hj10])]
        have hN9 := h9
        rw [show ((up1 (up1 (up1 (up1 (up1 (up1 (up1 (up1 (up1 (up1 (up1 M 2 (up (M 2) 2 (Y 20))) 3 Y) 5 (vB (M 5) Y 0)) 6 (bsA Y 0)) 7 (vB (M 7) Y 1)) 8 (bsA Y 1)) 9 (vB (M 9) Y 2)) 10 (bsA Y 2)) 11 (tdW Y)) 62 (up (up (up ((up (up (up (M 62) 3 s) 2 p) 5 m)) 3 (sgn ((M 63)) ((M 62 1)) (p))) 2 (clR ((M 63)) ((M 62 1)) (p)).2.1) 5 (clR ((M 63)) ((M 62 1)) (p)).2.2)) 64 N8) : Mem) = (up1 (up1 (up1 (up1 (up1 (up1 (up1 (up1 (up1 (up1 (up1 M 2 (up (M 2) 2 (Y 20))) 3 Y) 5 (vB (M 5) Y 0)) 6 (bsA Y 0)) 7 (vB (M 7) Y 1)) 8 (bsA Y 1)) 9 (vB (M 9) Y 2)) 10 (bsA Y 2)) 11 (tdW Y)) 62 (up (up (up (M 62) 3 (sgn (M 63) (M 62 1) p)) 2 (clR (M 63) (M 62 1) p).2.1) 5 (clR (M 63) (M 62 1) p).2.2)) 64 N8) from (by rw [zz_e])]
        refine v_if_eq (tgt := 53) ok ⟨by omega, by omega⟩ dX9_doClauses_24 (by decide) (fun c10 => ?_) (fun c10 => ?_)
        · skip
          have hfin : (doN (M 63) (M 62 1) (ncl (M 63) (M 62 1) 12 0) 0 Q) = (d, Y) := by
            rcases i11_3 with q9 | q9
            · exfalso
              have q8 := q9.2.1
              rw [show (12 - c).toNat = (11 - c).toNat + 1 by omega, ffR, if_pos (by omega)] at q8; omega
            · exact q9.2
          rw [show ((up1 (up1 (up1 (up1 (up1 (up1 (up1 (up1 (up1 (up1 (up1 M 2 (up (M 2) 2 (Y 20))) 3 Y) 5 (vB (M 5) Y 0)) 6 (bsA Y 0)) 7 (vB (M 7) Y 1)) 8 (bsA Y 1)) 9 (vB (M 9) Y 2)) 10 (bsA Y 2)) 11 (tdW Y)) 62 (up (up (up (M 62) 3 (sgn (M 63) (M 62 1) p)) 2 (clR (M 63) (M 62 1) p).2.1) 5 (clR (M 63) (M 62 1) p).2.2)) 64 N8) : Mem) = (up1 (up1 (up1 (up1 (up1 (up1 (up1 (up1 (up1 (up1 (up1 M 2 (up (M 2) 2 ((doN (M 63) (M 62 1) (ncl (M 63) (M 62 1) 12 0) 0 Q).2 20))) 3 ((doN (M 63) (M 62 1) (ncl (M 63) (M 62 1) 12 0) 0 Q).2)) 5 (vB (M 5) (doN (M 63) (M 62 1) (ncl (M 63) (M 62 1) 12 0) 0 Q).2 0)) 6 (bsA (doN (M 63) (M 62 1) (ncl (M 63) (M 62 1) 12 0) 0 Q).2 0)) 7 (vB (M 7) (doN (M 63) (M 62 1) (ncl (M 63) (M 62 1) 12 0) 0 Q).2 1)) 8 (bsA (doN (M 63) (M 62 1) (ncl (M 63) (M 62 1) 12 0) 0 Q).2 1)) 9 (vB (M 9) (doN (M 63) (M 62 1) (ncl (M 63) (M 62 1) 12 0) 0 Q).2 2)) 10 (bsA (doN (M 63) (M 62 1) (ncl (M 63) (M 62 1) 12 0) 0 Q).2 2)) 11 (tdW (doN (M 63) (M 62 1) (ncl (M 63) (M 62 1) 12 0) 0 Q).2)) 62 (up (up (up (M 62) 3 (sgn (M 63) (M 62 1) p)) 2 (clR (M 63) (M 62 1) p).2.1) 5 (clR (M 63) (M 62 1) p).2.2)) 64 N8) from (by rw [hfin])]
          refine v_iload_n ok 1 dX9_doClauses_53 rfl rfl ?_
          exact v_iret ok rt dX9_doClauses_54 (⟨_, _, _, N8, (congrArg (fun q : Int => some (iv q)) (show d = (doN (M 63) (M 62 1) (ncl (M 63) (M 62 1) 12 0) 0 Q).1 from by (rw [hfin]))), rfl⟩)
        · skip
          have h1c : (clR (M 63) (M 62 1) p).1 = 1 := by omega
          have hrn : c < 12 ∧ ffR (M 63) (M 62 1) (12 - c).toNat p = -1 ∧ (doN (M 63) (M 62 1) (ncl (M 63) (M 62 1) 12 0) 0 Q) = (d + (doN (M 63) (M 62 1) (ncl (M 63) (M 62 1) (12 - c).toNat p) p Y).1, (doN (M 63) (M 62 1) (ncl (M 63) (M 62 1) (12 - c).toNat p) p Y).2) := by
            rcases i11_3 with q9 | q9
            · exact q9
            · exfalso
              have q8 : sgn (M 63) (M 62 1) p = -1 := by unfold sgn; rw [if_neg (by omega)]
              have q7 : (clR (M 63) (M 62 1) p).1 = 0 := by unfold clR; rw [q8, if_neg (by decide), if_neg (by decide), if_neg (by decide), if_neg (by decide)]
              omega
          have hck := clR_ok h1c
          have hff2 := hrn.2.1
          rw [show (12 - c).toNat = (11 - c).toNat + 1 by omega, ffR, if_neg (by omega)] at hff2
          have htot := hrn.2.2
          have hcl9 : ClOk (sgn (M 63) (M 62 1) p) (clR (M 63) (M 62 1) p).2.2 N8 := ClOk_cg hck (fun j j0 j1 => (hN9 h1c j j0 j1).symm)
          have hdy : dcW (sgn (M 63) (M 62 1) p) (clR (M 63) (M 62 1) p).2.2 N8 Y = (dcW (sgn (M 63) (M 62 1) p) (clR (M 63) (M 62 1) p).2.2 (clV (M 63) (M 62 1) p) Y) := (dcW_cg hck (fun j j0 j1 => (hN9 h1c j j0 j1).symm)).symm
          have hwy := dcW_WOk i11_2 hck
          have h01 := dcW_01 (sgn (M 63) (M 62 1) p) (clR (M 63) (M 62 1) p).2.2 (clV (M 63) (M 62 1) p) Y
          refine v_aload_n ok 0 dX9_doClauses_27 rfl rfl ?_
          refine v_callV (na := 0) (i := 0) (C := RX9) (T := TX9) (N := 9) (f0 := (M 0)) ok (ct_X9_doClause z.2.1 g (up1 (up1 (up1 (up1 (up1 (up1 (up1 (up1 (up1 (up1 (up1 M 2 (up (M 2) 2 (Y 20))) 3 Y) 5 (vB (M 5) Y 0)) 6 (bsA Y 0)) 7 (vB (M 7) Y 1)) 8 (bsA Y 1)) 9 (vB (M 9) Y 2)) 10 (bsA Y 2)) 11 (tdW Y)) 62 (up (up (up (M 62) 3 (sgn (M 63) (M 62 1) p)) 2 (clR (M 63) (M 62 1) p).2.1) 5 (clR (M 63) (M 62 1) p).2.2)) 64 N8) Y (⟨rfl, rfl, rfl, ⟨rfl, rfl, rfl, rfl⟩, ⟨rfl, rfl, rfl, rfl⟩, ⟨rfl, rfl, rfl, rfl⟩⟩) i11_2 hcl9) gX9_doClauses_X9_doClause (kd_lt (show kd 0 = 9 from rfl) (by decide)) rfl rfl (cellF_9 _ (by decide)) rfl (by decide +kernel) rfl (by decide) [] rfl (Nat.le_of_ble_eq_true rfl) dX9_doClauses_28 (fun v12 M13 hp11 => ?_)
          obtain ⟨rfl, rfl⟩ := hp11
          show V z g 3 (up1 (up1 (up1 (up1 (up1 (up1 (up1 (up1 (up1 (up1 (up1 (up1 (up1 (up1 (up1 (up1 (up1 (up1 (up1 (up1 M 2 (up (M 2) 2 (Y 20))) 3 Y) 5 (vB (M 5) Y 0)) 6 (bsA Y 0)) 7 (vB (M 7) Y 1)) 8 (bsA Y 1)) 9 (vB (M 9) Y 2)) 10 (bsA Y 2)) 11 (tdW Y)) 62 (up (up (up (M 62) 3 (sgn (M 63) (M 62 1) p)) 2 (clR (M 63) (M 62 1) p).2.1) 5 (clR (M 63) (M 62 1) p).2.2)) 64 N8) 2 (up ((up (M 2) 2 (Y 20))) 2 ((dcW ((sgn (M 63) (M 62 1) p)) (((clR (M 63) (M 62 1) p).2.2)) (N8) Y).2 20))) 3 ((dcW ((sgn (M 63) (M 62 1) p)) (((clR (M 63) (M 62 1) p).2.2)) (N8) Y).2)) 5 (vB ((vB (M 5) Y 0)) (dcW ((sgn (M 63) (M 62 1) p)) (((clR (M 63) (M 62 1) p).2.2)) (N8) Y).2 0)) 6 (bsA (dcW ((sgn (M 63) (M 62 1) p)) (((clR (M 63) (M 62 1) p).2.2)) (N8) Y).2 0)) 7 (vB ((vB (M 7) Y 1)) (dcW ((sgn (M 63) (M 62 1) p)) (((clR (M 63) (M 62 1) p).2.2)) (N8) Y).2 1)) 8 (bsA (dcW ((sgn (M 63) (M 62 1) p)) (((clR (M 63) (M 62 1) p).2.2)) (N8) Y).2 1)) 9 (vB ((vB (M 9) Y 2)) (dcW ((sgn (M 63) (M 62 1) p)) (((clR (M 63) (M 62 1) p).2.2)) (N8) Y).2 2)) 10 (bsA (dcW ((sgn (M 63) (M 62 1) p)) (((clR (M 63) (M 62 1) p).2.2)) (N8) Y).2 2)) 11 (tdW (dcW ((sgn (M 63) (M 62 1) p)) (((clR (M 63) (M 62 1) p).2.2)) (N8) Y).2)) [(0, rf g 0), (1, iv d), (2, iv c)] [iv ((dcW ((sgn (M 63) (M 62 1) p)) (((clR (M 63) (M 62 1) p).2.2)) (N8) Y).1)] 31
          rw [show ((up1 (up1 (up1 (up1 (up1 (up1 (up1 (up1 (up1 (up1 (up1 (up1 (up1 (up1 (up1 (up1 (up1 (up1 (up1 (up1 M 2 (up (M 2) 2 (Y 20))) 3 Y) 5 (vB (M 5) Y 0)) 6 (bsA Y 0)) 7 (vB (M 7) Y 1)) 8 (bsA Y 1)) 9 (vB (M 9) Y 2)) 10 (bsA Y 2)) 11 (tdW Y)) 62 (up (up (up (M 62) 3 (sgn (M 63) (M 62 1) p)) 2 (clR (M 63) (M 62 1) p).2.1) 5 (clR (M 63) (M 62 1) p).2.2)) 64 N8) 2 (up ((up (M 2) 2 (Y 20))) 2 ((dcW ((sgn (M 63) (M 62 1) p)) (((clR (M 63) (M 62 1) p).2.2)) (N8) Y).2 20))) 3 ((dcW ((sgn (M 63) (M 62 1) p)) (((clR (M 63) (M 62 1) p).2.2)) (N8) Y).2)) 5 (vB ((vB (M 5) Y 0)) (dcW ((sgn (M 63) (M 62 1) p)) (((clR (M 63) (M 62 1) p).2.2)) (N8) Y).2 0)) 6 (bsA (dcW ((sgn (M 63) (M 62 1) p)) (((clR (M 63) (M 62 1) p).2.2)) (N8) Y).2 0)) 7 (vB ((vB (M 7) Y 1)) (dcW ((sgn (M 63) (M 62 1) p)) (((clR (M 63) (M 62 1) p).2.2)) (N8) Y).2 1)) 8 (bsA (dcW ((sgn (M 63) (M 62 1) p)) (((clR (M 63) (M 62 1) p).2.2)) (N8) Y).2 1)) 9 (vB ((vB (M 9) Y 2)) (dcW ((sgn (M 63) (M 62 1) p)) (((clR (M 63) (M 62 1) p).2.2)) (N8) Y).2 2)) 10 (bsA (dcW ((sgn (M 63) (M 62 1) p)) (((clR (M 63) (M 62 1) p).2.2)) (N8) Y).2 2)) 11 (tdW (dcW ((sgn (M 63) (M 62 1) p)) (((clR (M 63) (M 62 1) p).2.2)) (N8) Y).2)) : Mem) = (up1 (up1 (up1 (up1 (up1 (up1 (up1 (up1 (up1 (up1 (up1 M 2 (up ((up (M 2) 2 (Y 20))) 2 ((dcW ((sgn (M 63) (M 62 1) p)) (((clR (M 63) (M 62 1) p).2.2)) (N8) Y).2 20))) 3 ((dcW ((sgn (M 63) (M 62 1) p)) (((clR (M 63) (M 62 1) p).2.2)) (N8) Y).2)) 5 (vB ((vB (M 5) Y 0)) (dcW ((sgn (M 63) (M 62 1) p)) (((clR (M 63) (M 62 1) p).2.2)) (N8) Y).2 0)) 6 (bsA (dcW ((sgn (M 63) (M 62 1) p)) (((clR (M 63) (M 62 1) p).2.2)) (N8) Y).2 0)) 7 (vB ((vB (M 7) Y 1)) (dcW ((sgn (M 63) (M 62 1) p)) (((clR (M 63) (M 62 1) p).2.2)) (N8) Y).2 1)) 8 (bsA (dcW ((sgn (M 63) (M 62 1) p)) (((clR (M 63) (M 62 1) p).2.2)) (N8) Y).2 1)) 9 (vB ((vB (M 9) Y 2)) (dcW ((sgn (M 63) (M 62 1) p)) (((clR (M 63) (M 62 1) p).2.2)) (N8) Y).2 2)) 10 (bsA (dcW ((sgn (M 63) (M 62 1) p)) (((clR (M 63) (M 62 1) p).2.2)) (N8) Y).2 2)) 11 (tdW (dcW ((sgn (M 63) (M 62 1) p)) (((clR (M 63) (M 62 1) p).2.2)) (N8) Y).2)) 62 (up (up (up (M 62) 3 (sgn (M 63) (M 62 1) p)) 2 (clR (M 63) (M 62 1) p).2.1) 5 (clR (M 63) (M 62 1) p).2.2)) 64 N8) from (by
                funext j
                by_cases hj0 : j = 2
                · subst hj0; simp [up1, up1_self]
                by_cases hj1 : j = 3
                · subst hj1; simp [up1, up1_self]
                by_cases hj2 : j = 5
                · subst hj2; simp [up1, up1_self]
                by_cases hj3 : j = 6
                · subst hj3; simp [up1, up1_self]
                by_cases hj4 : j = 7
                · subst hj4; simp [up1, up1_self]
                by_cases hj5 : j = 8
                · subst hj5; simp [up1, up1_self]
                by_cases hj6 : j = 9
                · subst hj6; simp [up1, up1_self]
                by_cases hj7 : j = 10
                · subst hj7; simp [up1, up1_self]
                by_cases hj8 : j = 11
                · subst hj8; simp [up1, up1_self]
                by_cases hj9 : j = 62
                · subst hj9; simp [up1, up1_self]
                by_cases hj10 : j = 64
                · subst hj10; simp [up1, up1_self]
                simp [up1, hj0, hj1, hj2, hj3, hj4, hj5, hj6, hj7, hj8, hj9, hj10])]
          rw [show (((dcW ((sgn (M 63) (M 62 1) p)) (((clR (M 63) (M 62 1) p).2.2)) (N8) Y).1) : Int) = (dcW (sgn (M 63) (M 62 1) p) (clR (M 63) (M 62 1) p).2.2 (clV (M 63) (M 62 1) p) Y).1 from (by rw [hdy])]
          rw [show ((up1 (up1 (up1 (up1 (up1 (up1 (up1 (up1 (up1 (up1 (up1 M 2 (up ((up (M 2) 2 (Y 20))) 2 ((dcW ((sgn (M 63) (M 62 1) p)) (((clR (M 63) (M 62 1) p).2.2)) (N8) Y).2 20))) 3 ((dcW ((sgn (M 63) (M 62 1) p)) (((clR (M 63) (M 62 1) p).2.2)) (N8) Y).2)) 5 (vB ((vB (M 5) Y 0)) (dcW ((sgn (M 63) (M 62 1) p)) (((clR (M 63) (M 62 1) p).2.2)) (N8) Y).2 0)) 6 (bsA (dcW ((sgn (M 63) (M 62 1) p)) (((clR (M 63) (M 62 1) p).2.2)) (N8) Y).2 0)) 7 (vB ((vB (M 7) Y 1)) (dcW ((sgn (M 63) (M 62 1) p)) (((clR (M 63) (M 62 1) p).2.2)) (N8) Y).2 1)) 8 (bsA (dcW ((sgn (M 63) (M 62 1) p)) (((clR (M 63) (M 62 1) p).2.2)) (N8) Y).2 1)) 9 (vB ((vB (M 9) Y 2)) (dcW ((sgn (M 63) (M 62 1) p)) (((clR (M 63) (M 62 1) p).2.2)) (N8) Y).2 2)) 10 (bsA (dcW ((sgn (M 63) (M 62 1) p)) (((clR (M 63) (M 62 1) p).2.2)) (N8) Y).2 2)) 11 (tdW (dcW ((sgn (M 63) (M 62 1) p)) (((clR (M 63) (M 62 1) p).2.2)) (N8) Y).2)) 62 (up (up (up (M 62) 3 (sgn (M 63) (M 62 1) p)) 2 (clR (M 63) (M 62 1) p).2.1) 5 (clR (M 63) (M 62 1) p).2.2)) 64 N8) : Mem) = (up1 (up1 (up1 (up1 (up1 (up1 (up1 (up1 (up1 (up1 (up1 M 2 (up (M 2) 2 ((dcW (sgn (M 63) (M 62 1) p) (clR (M 63) (M 62 1) p).2.2 (clV (M 63) (M 62 1) p) Y).2 20))) 3 ((dcW (sgn (M 63) (M 62 1) p) (clR (M 63) (M 62 1) p).2.2 (clV (M 63) (M 62 1) p) Y).2)) 5 (vB (M 5) (dcW (sgn (M 63) (M 62 1) p) (clR (M 63) (M 62 1) p).2.2 (clV (M 63) (M 62 1) p) Y).2 0)) 6 (bsA (dcW (sgn (M 63) (M 62 1) p) (clR (M 63) (M 62 1) p).2.2 (clV (M 63) (M 62 1) p) Y).2 0)) 7 (vB (M 7) (dcW (sgn (M 63) (M 62 1) p) (clR (M 63) (M 62 1) p).2.2 (clV (M 63) (M 62 1) p) Y).2 1)) 8 (bsA (dcW (sgn (M 63) (M 62 1) p) (clR (M 63) (M 62 1) p).2.2 (clV (M 63) (M 62 1) p) Y).2 1)) 9 (vB (M 9) (dcW (sgn (M 63) (M 62 1) p) (clR (M 63) (M 62 1) p).2.2 (clV (M 63) (M 62 1) p) Y).2 2)) 10 (bsA (dcW (sgn (M 63) (M 62 1) p) (clR (M 63) (M 62 1) p).2.2 (clV (M 63) (M 62 1) p) Y).2 2)) 11 (tdW (dcW (sgn (M 63) (M 62 1) p) (clR (M 63) (M 62 1) p).2.2 (clV (M 63) (M 62 1) p) Y).2)) 62 (up (up (up (M 62) 3 (sgn (M 63) (M 62 1) p)) 2 (clR (M 63) (M 62 1) p).2.1) 5 (clR (M 63) (M 62 1) p).2.2)) 64 N8) from (by simp only [up_up, vB_vB, hdy])]
          refine v_if_eq (tgt := 37) ok ⟨by omega, by omega⟩ dX9_doClauses_31 (by decide) (fun c14 => ?_) (fun c14 => ?_)
          · skip
            refine v_aload_n ok 0 dX9_doClauses_37 rfl rfl ?_
            refine v_get (T := TX9) (N := 9) (f0 := (M 0)) (v := rf g 62) ok mi_X9_doClauses_9 (kd_lt (show kd 0 = 9 from rfl) (by decide)) rfl rfl (cellF_9 _ (by decide)) 7 (by decide) mk_X9_doClauses_56 rfl rfl dX9_doClauses_38 ?_
            refine v_bipush (n := 59) ok rfl dX9_doClauses_41 ?_
            refine v_callV (na := 1) (i := 62) (C := RX5) (T := TX5) (N := 6) (f0 := (up (up (up (M 62) 3 (sgn (M 63) (M 62 1) p)) 2 (clR (M 63) (M 62 1) p).2.1) 5 (clR (M 63) (M 62 1) p).2.2)) ok (ct_X5_stepOver z.2.1 g (up1 (up1 (up1 (up1 (up1 (up1 (up1 (up1 (up1 (up1 (up1 M 2 (up (M 2) 2 ((dcW (sgn (M 63) (M 62 1) p) (clR (M 63) (M 62 1) p).2.2 (clV (M 63) (M 62 1) p) Y).2 20))) 3 ((dcW (sgn (M 63) (M 62 1) p) (clR (M 63) (M 62 1) p).2.2 (clV (M 63) (M 62 1) p) Y).2)) 5 (vB (M 5) (dcW (sgn (M 63) (M 62 1) p) (clR (M 63) (M 62 1) p).2.2 (clV (M 63) (M 62 1) p) Y).2 0)) 6 (bsA (dcW (sgn (M 63) (M 62 1) p) (clR (M 63) (M 62 1) p).2.2 (clV (M 63) (M 62 1) p) Y).2 0)) 7 (vB (M 7) (dcW (sgn (M 63) (M 62 1) p) (clR (M 63) (M 62 1) p).2.2 (clV (M 63) (M 62 1) p) Y).2 1)) 8 (bsA (dcW (sgn (M 63) (M 62 1) p) (clR (M 63) (M 62 1) p).2.2 (clV (M 63) (M 62 1) p) Y).2 1)) 9 (vB (M 9) (dcW (sgn (M 63) (M 62 1) p) (clR (M 63) (M 62 1) p).2.2 (clV (M 63) (M 62 1) p) Y).2 2)) 10 (bsA (dcW (sgn (M 63) (M 62 1) p) (clR (M 63) (M 62 1) p).2.2 (clV (M 63) (M 62 1) p) Y).2 2)) 11 (tdW (dcW (sgn (M 63) (M 62 1) p) (clR (M 63) (M 62 1) p).2.2 (clV (M 63) (M 62 1) p) Y).2)) 62 (up (up (up (M 62) 3 (sgn (M 63) (M 62 1) p)) 2 (clR (M 63) (M 62 1) p).2.1) 5 (clR (M 63) (M 62 1) p).2.2)) 64 N8) 59 (by show 0 ≤ (M 62 1) ∧ (M 62 1) ≤ 100; first | omega | assumption) (by show 0 ≤ ((clR (M 63) (M 62 1) p).2.1) ∧ ((clR (M 63) (M 62 1) p).2.1) ≤ 1000; first | omega | assumption) (by show bdf ((M 63)) 100 0 127; first | omega | assumption) (by decide)) gX9_doClauses_X5_stepOver (kd_lt (show kd 62 = 5 from rfl) (by decide)) rfl rfl (cellF_5 _ (by decide)) rfl (by decide +kernel) rfl (by decide) [] rfl (Nat.le_of_ble_eq_true rfl) dX9_doClauses_43 (fun v16 M17 hp15 => ?_)
            rcases hp15 with ⟨rfl, rfl, h18⟩ | ⟨rfl, rfl, h19⟩
            · skip
              have h18 : (sgn ((M 63)) ((M 62 1)) (((clR (M 63) (M 62 1) p).2.1))) ≠ 59 := h18
              show V z g 3 (up1 (up1 (up1 (up1 (up1 (up1 (up1 (up1 (up1 (up1 (up1 M 2 (up (M 2) 2 ((dcW (sgn (M 63) (M 62 1) p) (clR (M 63) (M 62 1) p).2.2 (clV (M 63) (M 62 1) p) Y).2 20))) 3 ((dcW (sgn (M 63) (M 62 1) p) (clR (M 63) (M 62 1) p).2.2 (clV (M 63) (M 62 1) p) Y).2)) 5 (vB (M 5) (dcW (sgn (M 63) (M 62 1) p) (clR (M 63) (M 62 1) p).2.2 (clV (M 63) (M 62 1) p) Y).2 0)) 6 (bsA (dcW (sgn (M 63) (M 62 1) p) (clR (M 63) (M 62 1) p).2.2 (clV (M 63) (M 62 1) p) Y).2 0)) 7 (vB (M 7) (dcW (sgn (M 63) (M 62 1) p) (clR (M 63) (M 62 1) p).2.2 (clV (M 63) (M 62 1) p) Y).2 1)) 8 (bsA (dcW (sgn (M 63) (M 62 1) p) (clR (M 63) (M 62 1) p).2.2 (clV (M 63) (M 62 1) p) Y).2 1)) 9 (vB (M 9) (dcW (sgn (M 63) (M 62 1) p) (clR (M 63) (M 62 1) p).2.2 (clV (M 63) (M 62 1) p) Y).2 2)) 10 (bsA (dcW (sgn (M 63) (M 62 1) p) (clR (M 63) (M 62 1) p).2.2 (clV (M 63) (M 62 1) p) Y).2 2)) 11 (tdW (dcW (sgn (M 63) (M 62 1) p) (clR (M 63) (M 62 1) p).2.2 (clV (M 63) (M 62 1) p) Y).2)) 62 (up (up (up (M 62) 3 (sgn (M 63) (M 62 1) p)) 2 (clR (M 63) (M 62 1) p).2.1) 5 (clR (M 63) (M 62 1) p).2.2)) 64 N8) [(0, rf g 0), (1, iv d), (2, iv c)] [iv 0] 46
              have hns := h18
              have hle : M 62 1 ≤ (clR (M 63) (M 62 1) p).2.1 := by
                rcases Int.lt_or_le (clR (M 63) (M 62 1) p).2.1 (M 62 1) with q9 | q9
                · exfalso
                  rw [if_neg (by omega), if_pos (Or.inr hns)] at hff2; omega
                · exact q9
              have hb9 : (c + 1 < 12 ∧ ffR (M 63) (M 62 1) (12 - (c + 1)).toNat (clR (M 63) (M 62 1) p).2.1 = -1 ∧ (doN (M 63) (M 62 1) (ncl (M 63) (M 62 1) 12 0) 0 Q) = (d + (doN (M 63) (M 62 1) (ncl (M 63) (M 62 1) (12 - (c + 1)).toNat (clR (M 63) (M 62 1) p).2.1) (clR (M 63) (M 62 1) p).2.1 (dcW (sgn (M 63) (M 62 1) p) (clR (M 63) (M 62 1) p).2.2 (clV (M 63) (M 62 1) p) Y).2).1, (doN (M 63) (M 62 1) (ncl (M 63) (M 62 1) (12 - (c + 1)).toNat (clR (M 63) (M 62 1) p).2.1) (clR (M 63) (M 62 1) p).2.1 (dcW (sgn (M 63) (M 62 1) p) (clR (M 63) (M 62 1) p).2.2 (clV (M 63) (M 62 1) p) Y).2).2)) ∨ (M 62 1 ≤ (clR (M 63) (M 62 1) p).2.1 ∧ (doN (M 63) (M 62 1) (ncl (M 63) (M 62 1) 12 0) 0 Q) = (d, (dcW (sgn (M 63) (M 62 1) p) (clR (M 63) (M 62 1) p).2.2 (clV (M 63) (M 62 1) p) Y).2)) := by
                right
                refine ⟨hle, ?_⟩
                rw [htot, show (12 - c).toNat = (11 - c).toNat + 1 by omega, ncl, if_pos hle]
                show (d + ((dcW (sgn (M 63) (M 62 1) p) (clR (M 63) (M 62 1) p).2.2 (clV (M 63) (M 62 1) p) Y).1 + 0), (dcW (sgn (M 63) (M 62 1) p) (clR (M 63) (M 62 1) p).2.2 (clV (M 63) (M 62 1) p) Y).2) = _
                congr 1; omega
              refine v_pop ok rfl dX9_doClauses_46 ?_
              refine v_iinc ok 2 [(2, iv (c + 1)), (0, rf g 0), (1, iv d)] dX9_doClauses_47 rfl (by decide) rfl ?_
              refine v_goto (tgt := 11) ok dX9_doClauses_50 (by decide) ?_
              refine v_lv (ls' := [(0, rf g 0), (1, iv d), (2, iv (c + 1))]) ok [1, 2, 0] rfl ?_
              rw [show ((up1 (up1 (up1 (up1 (up1 (up1 (up1 (up1 (up1 (up1 (up1 M 2 (up (M 2) 2 ((dcW (sgn (M 63) (M 62 1) p) (clR (M 63) (M 62 1) p).2.2 (clV (M 63) (M 62 1) p) Y).2 20))) 3 ((dcW (sgn (M 63) (M 62 1) p) (clR (M 63) (M 62 1) p).2.2 (clV (M 63) (M 62 1) p) Y).2)) 5 (vB (M 5) (dcW (sgn (M 63) (M 62 1) p) (clR (M 63) (M 62 1) p).2.2 (clV (M 63) (M 62 1) p) Y).2 0)) 6 (bsA (dcW (sgn (M 63) (M 62 1) p) (clR (M 63) (M 62 1) p).2.2 (clV (M 63) (M 62 1) p) Y).2 0)) 7 (vB (M 7) (dcW (sgn (M 63) (M 62 1) p) (clR (M 63) (M 62 1) p).2.2 (clV (M 63) (M 62 1) p) Y).2 1)) 8 (bsA (dcW (sgn (M 63) (M 62 1) p) (clR (M 63) (M 62 1) p).2.2 (clV (M 63) (M 62 1) p) Y).2 1)) 9 (vB (M 9) (dcW (sgn (M 63) (M 62 1) p) (clR (M 63) (M 62 1) p).2.2 (clV (M 63) (M 62 1) p) Y).2 2)) 10 (bsA (dcW (sgn (M 63) (M 62 1) p) (clR (M 63) (M 62 1) p).2.2 (clV (M 63) (M 62 1) p) Y).2 2)) 11 (tdW (dcW (sgn (M 63) (M 62 1) p) (clR (M 63) (M 62 1) p).2.2 (clV (M 63) (M 62 1) p) Y).2)) 62 (up (up (up (M 62) 3 (sgn (M 63) (M 62 1) p)) 2 (clR (M 63) (M 62 1) p).2.1) 5 (clR (M 63) (M 62 1) p).2.2)) 64 N8) : Mem) = (up1 (up1 (up1 (up1 (up1 (up1 (up1 (up1 (up1 (up1 (up1 M 2 (up (M 2) 2 (((dcW (sgn (M 63) (M 62 1) p) (clR (M 63) (M 62 1) p).2.2 (clV (M 63) (M 62 1) p) Y).2) 20))) 3 ((dcW (sgn (M 63) (M 62 1) p) (clR (M 63) (M 62 1) p).2.2 (clV (M 63) (M 62 1) p) Y).2)) 5 (vB (M 5) ((dcW (sgn (M 63) (M 62 1) p) (clR (M 63) (M 62 1) p).2.2 (clV (M 63) (M 62 1) p) Y).2) 0)) 6 (bsA ((dcW (sgn (M 63) (M 62 1) p) (clR (M 63) (M 62 1) p).2.2 (clV (M 63) (M 62 1) p) Y).2) 0)) 7 (vB (M 7) ((dcW (sgn (M 63) (M 62 1) p) (clR (M 63) (M 62 1) p).2.2 (clV (M 63) (M 62 1) p) Y).2) 1)) 8 (bsA ((dcW (sgn (M 63) (M 62 1) p) (clR (M 63) (M 62 1) p).2.2 (clV (M 63) (M 62 1) p) Y).2) 1)) 9 (vB (M 9) ((dcW (sgn (M 63) (M 62 1) p) (clR (M 63) (M 62 1) p).2.2 (clV (M 63) (M 62 1) p) Y).2) 2)) 10 (bsA ((dcW (sgn (M 63) (M 62 1) p) (clR (M 63) (M 62 1) p).2.2 (clV (M 63) (M 62 1) p) Y).2) 2)) 11 (tdW ((dcW (sgn (M 63) (M 62 1) p) (clR (M 63) (M 62 1) p).2.2 (clV (M 63) (M 62 1) p) Y).2))) 62 (up (up (up (M 62) 3 (sgn (M 63) (M 62 1) p)) 2 ((clR (M 63) (M 62 1) p).2.1)) 5 ((clR (M 63) (M 62 1) p).2.2))) 64 N8) from (by
                    funext j
                    by_cases hj0 : j = 2
                    · subst hj0; simp [up1, up1_self]
                    by_cases hj1 : j = 3
                    · subst hj1; simp [up1, up1_self]
                    by_cases hj2 : j = 5
                    · subst hj2; simp [up1, up1_self]
                    by_cases hj3 : j = 6
                    · subst hj3; simp [up1, up1_self]
                    by_cases hj4 : j = 7
                    · subst hj4; simp [up1, up1_self]
                    by_cases hj5 : j = 8
                    · subst hj5; simp [up1, up1_self]
                    by_cases hj6 : j = 9
                    · subst hj6; simp [up1, up1_self]
                    by_cases hj7 : j = 10
                    · subst hj7; simp [up1, up1_self]
                    by_cases hj8 : j = 11
                    · subst hj8; simp [up1, up1_self]
                    by_cases hj9 : j = 62
                    · subst hj9; simp [up1, up1_self]
                    by_cases hj10 : j = 64
                    · subst hj10; simp [up1, up1_self]
                    simp [up1, hj0, hj1, hj2, hj3, hj4, hj5, hj6, hj7, hj8, hj9, hj10])]
              exact ih11 (c + 1) d (sgn (M 63) (M 62 1) p) ((clR (M 63) (M 62 1) p).2.1) ((clR (M 63) (M 62 1) p).2.2) N8 ((dcW (sgn (M 63) (M 62 1) p) (clR (M 63) (M 62 1) p).2.2 (clV (M 63) (M 62 1) p) Y).2) (by omega) (by omega) hwy hb9 (by omega)
            · skip
              have h19 : (sgn ((M 63)) ((M 62 1)) (((clR (M 63) (M 62 1) p).2.1))) = 59 := h19
              show V z g 3 (up1 (up1 (up1 (up1 (up1 (up1 (up1 (up1 (up1 (up1 (up1 (up1 M 2 (up (M 2) 2 ((dcW (sgn (M 63) (M 62 1) p) (clR (M 63) (M 62 1) p).2.2 (clV (M 63) (M 62 1) p) Y).2 20))) 3 ((dcW (sgn (M 63) (M 62 1) p) (clR (M 63) (M 62 1) p).2.2 (clV (M 63) (M 62 1) p) Y).2)) 5 (vB (M 5) (dcW (sgn (M 63) (M 62 1) p) (clR (M 63) (M 62 1) p).2.2 (clV (M 63) (M 62 1) p) Y).2 0)) 6 (bsA (dcW (sgn (M 63) (M 62 1) p) (clR (M 63) (M 62 1) p).2.2 (clV (M 63) (M 62 1) p) Y).2 0)) 7 (vB (M 7) (dcW (sgn (M 63) (M 62 1) p) (clR (M 63) (M 62 1) p).2.2 (clV (M 63) (M 62 1) p) Y).2 1)) 8 (bsA (dcW (sgn (M 63) (M 62 1) p) (clR (M 63) (M 62 1) p).2.2 (clV (M 63) (M 62 1) p) Y).2 1)) 9 (vB (M 9) (dcW (sgn (M 63) (M 62 1) p) (clR (M 63) (M 62 1) p).2.2 (clV (M 63) (M 62 1) p) Y).2 2)) 10 (bsA (dcW (sgn (M 63) (M 62 1) p) (clR (M 63) (M 62 1) p).2.2 (clV (M 63) (M 62 1) p) Y).2 2)) 11 (tdW (dcW (sgn (M 63) (M 62 1) p) (clR (M 63) (M 62 1) p).2.2 (clV (M 63) (M 62 1) p) Y).2)) 62 (up (up (up (M 62) 3 (sgn (M 63) (M 62 1) p)) 2 (clR (M 63) (M 62 1) p).2.1) 5 (clR (M 63) (M 62 1) p).2.2)) 64 N8) 62 (up ((up (up (up (M 62) 3 (sgn (M 63) (M 62 1) p)) 2 (clR (M 63) (M 62 1) p).2.1) 5 (clR (M 63) (M 62 1) p).2.2)) 2 (((clR (M 63) (M 62 1) p).2.1) + 1))) [(0, rf g 0), (1, iv d), (2, iv c)] [iv 1] 46
              rw [show ((up1 (up1 (up1 (up1 (up1 (up1 (up1 (up1 (up1 (up1 (up1 (up1 M 2 (up (M 2) 2 ((dcW (sgn (M 63) (M 62 1) p) (clR (M 63) (M 62 1) p).2.2 (clV (M 63) (M 62 1) p) Y).2 20))) 3 ((dcW (sgn (M 63) (M 62 1) p) (clR (M 63) (M 62 1) p).2.2 (clV (M 63) (M 62 1) p) Y).2)) 5 (vB (M 5) (dcW (sgn (M 63) (M 62 1) p) (clR (M 63) (M 62 1) p).2.2 (clV (M 63) (M 62 1) p) Y).2 0)) 6 (bsA (dcW (sgn (M 63) (M 62 1) p) (clR (M 63) (M 62 1) p).2.2 (clV (M 63) (M 62 1) p) Y).2 0)) 7 (vB (M 7) (dcW (sgn (M 63) (M 62 1) p) (clR (M 63) (M 62 1) p).2.2 (clV (M 63) (M 62 1) p) Y).2 1)) 8 (bsA (dcW (sgn (M 63) (M 62 1) p) (clR (M 63) (M 62 1) p).2.2 (clV (M 63) (M 62 1) p) Y).2 1)) 9 (vB (M 9) (dcW (sgn (M 63) (M 62 1) p) (clR (M 63) (M 62 1) p).2.2 (clV (M 63) (M 62 1) p) Y).2 2)) 10 (bsA (dcW (sgn (M 63) (M 62 1) p) (clR (M 63) (M 62 1) p).2.2 (clV (M 63) (M 62 1) p) Y).2 2)) 11 (tdW (dcW (sgn (M 63) (M 62 1) p) (clR (M 63) (M 62 1) p).2.2 (clV (M 63) (M 62 1) p) Y).2)) 62 (up (up (up (M 62) 3 (sgn (M 63) (M 62 1) p)) 2 (clR (M 63) (M 62 1) p).2.1) 5 (clR (M 63) (M 62 1) p).2.2)) 64 N8) 62 (up ((up (up (up (M 62) 3 (sgn (M 63) (M 62 1) p)) 2 (clR (M 63) (M 62 1) p).2.1) 5 (clR (M 63) (M 62 1) p).2.2)) 2 (((clR (M 63) (M 62 1) p).2.1) + 1))) : Mem) = (up1 (up1 (up1 (up1 (up1 (up1 (up1 (up1 (up1 (up1 (up1 M 2 (up (M 2) 2 ((dcW (sgn (M 63) (M 62 1) p) (clR (M 63) (M 62 1) p).2.2 (clV (M 63) (M 62 1) p) Y).2 20))) 3 ((dcW (sgn (M 63) (M 62 1) p) (clR (M 63) (M 62 1) p).2.2 (clV (M 63) (M 62 1) p) Y).2)) 5 (vB (M 5) (dcW (sgn (M 63) (M 62 1) p) (clR (M 63) (M 62 1) p).2.2 (clV (M 63) (M 62 1) p) Y).2 0)) 6 (bsA (dcW (sgn (M 63) (M 62 1) p) (clR (M 63) (M 62 1) p).2.2 (clV (M 63) (M 62 1) p) Y).2 0)) 7 (vB (M 7) (dcW (sgn (M 63) (M 62 1) p) (clR (M 63) (M 62 1) p).2.2 (clV (M 63) (M 62 1) p) Y).2 1)) 8 (bsA (dcW (sgn (M 63) (M 62 1) p) (clR (M 63) (M 62 1) p).2.2 (clV (M 63) (M 62 1) p) Y).2 1)) 9 (vB (M 9) (dcW (sgn (M 63) (M 62 1) p) (clR (M 63) (M 62 1) p).2.2 (clV (M 63) (M 62 1) p) Y).2 2)) 10 (bsA (dcW (sgn (M 63) (M 62 1) p) (clR (M 63) (M 62 1) p).2.2 (clV (M 63) (M 62 1) p) Y).2 2)) 11 (tdW (dcW (sgn (M 63) (M 62 1) p) (clR (M 63) (M 62 1) p).2.2 (clV (M 63) (M 62 1) p) Y).2)) 62 (up ((up (up (up (M 62) 3 (sgn (M 63) (M 62 1) p)) 2 (clR (M 63) (M 62 1) p).2.1) 5 (clR (M 63) (M 62 1) p).2.2)) 2 (((clR (M 63) (M 62 1) p).2.1) + 1))) 64 N8) from (by
                    funext j
                    by_cases hj0 : j = 2
                    · subst hj0; simp [up1, up1_self]
                    by_cases hj1 : j = 3
                    · subst hj1; simp [up1, up1_self]
                    by_cases hj2 : j = 5
                    · subst hj2; simp [up1, up1_self]
                    by_cases hj3 : j = 6
                    · subst hj3; simp [up1, up1_self]
                    by_cases hj4 : j = 7
                    · subst hj4; simp [up1, up1_self]
                    by_cases hj5 : j = 8
                    · subst hj5; simp [up1, up1_self]
                    by_cases hj6 : j = 9
                    · subst hj6; simp [up1, up1_self]
                    by_cases hj7 : j = 10
                    · subst hj7; simp [up1, up1_self]
                    by_cases hj8 : j = 11
                    · subst hj8; simp [up1, up1_self]
                    by_cases hj9 : j = 62
                    · subst hj9; simp [up1, up1_self]
                    by_cases hj10 : j = 64
                    · subst hj10; simp [up1, up1_self]
                    simp [up1, hj0, hj1, hj2, hj3, hj4, hj5, hj6, hj7, hj8, hj9, hj10])]
              have hns := h19
              have hl9 := sgn_lt (T := M 63) (L := M 62 1) (p := (clR (M 63) (M 62 1) p).2.1) (by omega)
              have hk0 : c ≠ 11 := fun q9 => by
                rw [if_neg (by omega), if_pos (Or.inl (by omega))] at hff2; omega
              rw [if_neg (by omega), if_neg (by omega)] at hff2
              rw [show ((up1 (up1 (up1 (up1 (up1 (up1 (up1 (up1 (up1 (up1 (up1 M 2 (up (M 2) 2 ((dcW (sgn (M 63) (M 62 1) p) (clR (M 63) (M 62 1) p).2.2 (clV (M 63) (M 62 1) p) Y).2 20))) 3 ((dcW (sgn (M 63) (M 62 1) p) (clR (M 63) (M 62 1) p).2.2 (clV (M 63) (M 62 1) p) Y).2)) 5 (vB (M 5) (dcW (sgn (M 63) (M 62 1) p) (clR (M 63) (M 62 1) p).2.2 (clV (M 63) (M 62 1) p) Y).2 0)) 6 (bsA (dcW (sgn (M 63) (M 62 1) p) (clR (M 63) (M 62 1) p).2.2 (clV (M 63) (M 62 1) p) Y).2 0)) 7 (vB (M 7) (dcW (sgn (M 63) (M 62 1) p) (clR (M 63) (M 62 1) p).2.2 (clV (M 63) (M 62 1) p) Y).2 1)) 8 (bsA (dcW (sgn (M 63) (M 62 1) p) (clR (M 63) (M 62 1) p).2.2 (clV (M 63) (M 62 1) p) Y).2 1)) 9 (vB (M 9) (dcW (sgn (M 63) (M 62 1) p) (clR (M 63) (M 62 1) p).2.2 (clV (M 63) (M 62 1) p) Y).2 2)) 10 (bsA (dcW (sgn (M 63) (M 62 1) p) (clR (M 63) (M 62 1) p).2.2 (clV (M 63) (M 62 1) p) Y).2 2)) 11 (tdW (dcW (sgn (M 63) (M 62 1) p) (clR (M 63) (M 62 1) p).2.2 (clV (M 63) (M 62 1) p) Y).2)) 62 (up ((up (up (up (M 62) 3 (sgn (M 63) (M 62 1) p)) 2 (clR (M 63) (M 62 1) p).2.1) 5 (clR (M 63) (M 62 1) p).2.2)) 2 (((clR (M 63) (M 62 1) p).2.1) + 1))) 64 N8) : Mem) = (up1 (up1 (up1 (up1 (up1 (up1 (up1 (up1 (up1 (up1 (up1 M 2 (up (M 2) 2 ((dcW (sgn (M 63) (M 62 1) p) (clR (M 63) (M 62 1) p).2.2 (clV (M 63) (M 62 1) p) Y).2 20))) 3 ((dcW (sgn (M 63) (M 62 1) p) (clR (M 63) (M 62 1) p).2.2 (clV (M 63) (M 62 1) p) Y).2)) 5 (vB (M 5) (dcW (sgn (M 63) (M 62 1) p) (clR (M 63) (M 62 1) p).2.2 (clV (M 63) (M 62 1) p) Y).2 0)) 6 (bsA (dcW (sgn (M 63) (M 62 1) p) (clR (M 63) (M 62 1) p).2.2 (clV (M 63) (M 62 1) p) Y).2 0)) 7 (vB (M 7) (dcW (sgn (M 63) (M 62 1) p) (clR (M 63) (M 62 1) p).2.2 (clV (M 63) (M 62 1) p) Y).2 1)) 8 (bsA (dcW (sgn (M 63) (M 62 1) p) (clR (M 63) (M 62 1) p).2.2 (clV (M 63) (M 62 1) p) Y).2 1)) 9 (vB (M 9) (dcW (sgn (M 63) (M 62 1) p) (clR (M 63) (M 62 1) p).2.2 (clV (M 63) (M 62 1) p) Y).2 2)) 10 (bsA (dcW (sgn (M 63) (M 62 1) p) (clR (M 63) (M 62 1) p).2.2 (clV (M 63) (M 62 1) p) Y).2 2)) 11 (tdW (dcW (sgn (M 63) (M 62 1) p) (clR (M 63) (M 62 1) p).2.2 (clV (M 63) (M 62 1) p) Y).2)) 62 (up (up (up (M 62) 3 (sgn (M 63) (M 62 1) p)) 2 ((clR (M 63) (M 62 1) p).2.1 + 1)) 5 (clR (M 63) (M 62 1) p).2.2)) 64 N8) from (by rw [up3])]
              have hb9 : (c + 1 < 12 ∧ ffR (M 63) (M 62 1) (12 - (c + 1)).toNat ((clR (M 63) (M 62 1) p).2.1 + 1) = -1 ∧ (doN (M 63) (M 62 1) (ncl (M 63) (M 62 1) 12 0) 0 Q) = (d + (doN (M 63) (M 62 1) (ncl (M 63) (M 62 1) (12 - (c + 1)).toNat ((clR (M 63) (M 62 1) p).2.1 + 1)) ((clR (M 63) (M 62 1) p).2.1 + 1) (dcW (sgn (M 63) (M 62 1) p) (clR (M 63) (M 62 1) p).2.2 (clV (M 63) (M 62 1) p) Y).2).1, (doN (M 63) (M 62 1) (ncl (M 63) (M 62 1) (12 - (c + 1)).toNat ((clR (M 63) (M 62 1) p).2.1 + 1)) ((clR (M 63) (M 62 1) p).2.1 + 1) (dcW (sgn (M 63) (M 62 1) p) (clR (M 63) (M 62 1) p).2.2 (clV (M 63) (M 62 1) p) Y).2).2)) ∨ (M 62 1 ≤ (clR (M 63) (M 62 1) p).2.1 + 1 ∧ (doN (M 63) (M 62 1) (ncl (M 63) (M 62 1) 12 0) 0 Q) = (d, (dcW (sgn (M 63) (M 62 1) p) (clR (M 63) (M 62 1) p).2.2 (clV (M 63) (M 62 1) p) Y).2)) := by
                left
                refine ⟨by omega, by rw [show (12 - (c + 1)).toNat = (11 - c).toNat by omega]; exact hff2, ?_⟩
                rw [htot, show (12 - c).toNat = (11 - c).toNat + 1 by omega, ncl, if_neg (by omega), show (12 - (c + 1)).toNat = (11 - c).toNat by omega, Nat.add_comm 1]
                show (d + ((dcW (sgn (M 63) (M 62 1) p) (clR (M 63) (M 62 1) p).2.2 (clV (M 63) (M 62 1) p) Y).1 + _), _) = _
                congr 1; omega
              refine v_pop ok rfl dX9_doClauses_46 ?_
              refine v_iinc ok 2 [(2, iv (c + 1)), (0, rf g 0), (1, iv d)] dX9_doClauses_47 rfl (by decide) rfl ?_
              refine v_goto (tgt := 11) ok dX9_doClauses_50 (by decide) ?_
              refine v_lv (ls' := [(0, rf g 0), (1, iv d), (2, iv (c + 1))]) ok [1, 2, 0] rfl ?_
              rw [show ((up1 (up1 (up1 (up1 (up1 (up1 (up1 (up1 (up1 (up1 (up1 M 2 (up (M 2) 2 ((dcW (sgn (M 63) (M 62 1) p) (clR (M 63) (M 62 1) p).2.2 (clV (M 63) (M 62 1) p) Y).2 20))) 3 ((dcW (sgn (M 63) (M 62 1) p) (clR (M 63) (M 62 1) p).2.2 (clV (M 63) (M 62 1) p) Y).2)) 5 (vB (M 5) (dcW (sgn (M 63) (M 62 1) p) (clR (M 63) (M 62 1) p).2.2 (clV (M 63) (M 62 1) p) Y).2 0)) 6 (bsA (dcW (sgn (M 63) (M 62 1) p) (clR (M 63) (M 62 1) p).2.2 (clV (M 63) (M 62 1) p) Y).2 0)) 7 (vB (M 7) (dcW (sgn (M 63) (M 62 1) p) (clR (M 63) (M 62 1) p).2.2 (clV (M 63) (M 62 1) p) Y).2 1)) 8 (bsA (dcW (sgn (M 63) (M 62 1) p) (clR (M 63) (M 62 1) p).2.2 (clV (M 63) (M 62 1) p) Y).2 1)) 9 (vB (M 9) (dcW (sgn (M 63) (M 62 1) p) (clR (M 63) (M 62 1) p).2.2 (clV (M 63) (M 62 1) p) Y).2 2)) 10 (bsA (dcW (sgn (M 63) (M 62 1) p) (clR (M 63) (M 62 1) p).2.2 (clV (M 63) (M 62 1) p) Y).2 2)) 11 (tdW (dcW (sgn (M 63) (M 62 1) p) (clR (M 63) (M 62 1) p).2.2 (clV (M 63) (M 62 1) p) Y).2)) 62 (up (up (up (M 62) 3 (sgn (M 63) (M 62 1) p)) 2 ((clR (M 63) (M 62 1) p).2.1 + 1)) 5 (clR (M 63) (M 62 1) p).2.2)) 64 N8) : Mem) = (up1 (up1 (up1 (up1 (up1 (up1 (up1 (up1 (up1 (up1 (up1 M 2 (up (M 2) 2 (((dcW (sgn (M 63) (M 62 1) p) (clR (M 63) (M 62 1) p).2.2 (clV (M 63) (M 62 1) p) Y).2) 20))) 3 ((dcW (sgn (M 63) (M 62 1) p) (clR (M 63) (M 62 1) p).2.2 (clV (M 63) (M 62 1) p) Y).2)) 5 (vB (M 5) ((dcW (sgn (M 63) (M 62 1) p) (clR (M 63) (M 62 1) p).2.2 (clV (M 63) (M 62 1) p) Y).2) 0)) 6 (bsA ((dcW (sgn (M 63) (M 62 1) p) (clR (M 63) (M 62 1) p).2.2 (clV (M 63) (M 62 1) p) Y).2) 0)) 7 (vB (M 7) ((dcW (sgn (M 63) (M 62 1) p) (clR (M 63) (M 62 1) p).2.2 (clV (M 63) (M 62 1) p) Y).2) 1)) 8 (bsA ((dcW (sgn (M 63) (M 62 1) p) (clR (M 63) (M 62 1) p).2.2 (clV (M 63) (M 62 1) p) Y).2) 1)) 9 (vB (M 9) ((dcW (sgn (M 63) (M 62 1) p) (clR (M 63) (M 62 1) p).2.2 (clV (M 63) (M 62 1) p) Y).2) 2)) 10 (bsA ((dcW (sgn (M 63) (M 62 1) p) (clR (M 63) (M 62 1) p).2.2 (clV (M 63) (M 62 1) p) Y).2) 2)) 11 (tdW ((dcW (sgn (M 63) (M 62 1) p) (clR (M 63) (M 62 1) p).2.2 (clV (M 63) (M 62 1) p) Y).2))) 62 (up (up (up (M 62) 3 (sgn (M 63) (M 62 1) p)) 2 ((clR (M 63) (M 62 1) p).2.1 + 1)) 5 ((clR (M 63) (M 62 1) p).2.2))) 64 N8) from (by
                    funext j
                    by_cases hj0 : j = 2
                    · subst hj0; simp [up1, up1_self]
                    by_cases hj1 : j = 3
                    · subst hj1; simp [up1, up1_self]
                    by_cases hj2 : j = 5
                    · subst hj2; simp [up1, up1_self]
                    by_cases hj3 : j = 6
                    · subst hj3; simp [up1, up1_self]
                    by_cases hj4 : j = 7
                    · subst hj4; simp [up1, up1_self]
                    by_cases hj5 : j = 8
                    · subst hj5; simp [up1, up1_self]
                    by_cases hj6 : j = 9
                    · subst hj6; simp [up1, up1_self]
                    by_cases hj7 : j = 10
                    · subst hj7; simp [up1, up1_self]
                    by_cases hj8 : j = 11
                    · subst hj8; simp [up1, up1_self]
                    by_cases hj9 : j = 62
                    · subst hj9; simp [up1, up1_self]
                    by_cases hj10 : j = 64
                    · subst hj10; simp [up1, up1_self]
                    simp [up1, hj0, hj1, hj2, hj3, hj4, hj5, hj6, hj7, hj8, hj9, hj10])]
              exact ih11 (c + 1) d (sgn (M 63) (M 62 1) p) ((clR (M 63) (M 62 1) p).2.1 + 1) ((clR (M 63) (M 62 1) p).2.2) N8 ((dcW (sgn (M 63) (M 62 1) p) (clR (M 63) (M 62 1) p).2.2 (clV (M 63) (M 62 1) p) Y).2) (by omega) (by omega) hwy hb9 (by omega)
          · skip
            refine v_iinc ok 1 [(1, iv (d + 1)), (0, rf g 0), (2, iv c)] dX9_doClauses_34 rfl (by decide) rfl ?_
            refine v_aload_n ok 1 dX9_doClauses_37 rfl rfl ?_
            refine v_get (T := TX9) (N := 9) (f0 := (M 0)) (v := rf g 62) ok mi_X9_doClauses_9 (kd_lt (show kd 0 = 9 from rfl) (by decide)) rfl rfl (cellF_9 _ (by decide)) 7 (by decide) mk_X9_doClauses_56 rfl rfl dX9_doClauses_38 ?_
            refine v_bipush (n := 59) ok rfl dX9_doClauses_41 ?_
            refine v_callV (na := 1) (i := 62) (C := RX5) (T := TX5) (N := 6) (f0 := (up (up (up (M 62) 3 (sgn (M 63) (M 62 1) p)) 2 (clR (M 63) (M 62 1) p).2.1) 5 (clR (M 63) (M 62 1) p).2.2)) ok (ct_X5_stepOver z.2.1 g (up1 (up1 (up1 (up1 (up1 (up1 (up1 (up1 (up1 (up1 (up1 M 2 (up (M 2) 2 ((dcW (sgn (M 63) (M 62 1) p) (clR (M 63) (M 62 1) p).2.2 (clV (M 63) (M 62 1) p) Y).2 20))) 3 ((dcW (sgn (M 63) (M 62 1) p) (clR (M 63) (M 62 1) p).2.2 (clV (M 63) (M 62 1) p) Y).2)) 5 (vB (M 5) (dcW (sgn (M 63) (M 62 1) p) (clR (M 63) (M 62 1) p).2.2 (clV (M 63) (M 62 1) p) Y).2 0)) 6 (bsA (dcW (sgn (M 63) (M 62 1) p) (clR (M 63) (M 62 1) p).2.2 (clV (M 63) (M 62 1) p) Y).2 0)) 7 (vB (M 7) (dcW (sgn (M 63) (M 62 1) p) (clR (M 63) (M 62 1) p).2.2 (clV (M 63) (M 62 1) p) Y).2 1)) 8 (bsA (dcW (sgn (M 63) (M 62 1) p) (clR (M 63) (M 62 1) p).2.2 (clV (M 63) (M 62 1) p) Y).2 1)) 9 (vB (M 9) (dcW (sgn (M 63) (M 62 1) p) (clR (M 63) (M 62 1) p).2.2 (clV (M 63) (M 62 1) p) Y).2 2)) 10 (bsA (dcW (sgn (M 63) (M 62 1) p) (clR (M 63) (M 62 1) p).2.2 (clV (M 63) (M 62 1) p) Y).2 2)) 11 (tdW (dcW (sgn (M 63) (M 62 1) p) (clR (M 63) (M 62 1) p).2.2 (clV (M 63) (M 62 1) p) Y).2)) 62 (up (up (up (M 62) 3 (sgn (M 63) (M 62 1) p)) 2 (clR (M 63) (M 62 1) p).2.1) 5 (clR (M 63) (M 62 1) p).2.2)) 64 N8) 59 (by show 0 ≤ (M 62 1) ∧ (M 62 1) ≤ 100; first | omega | assumption) (by show 0 ≤ ((clR (M 63) (M 62 1) p).2.1) ∧ ((clR (M 63) (M 62 1) p).2.1) ≤ 1000; first | omega | assumption) (by show bdf ((M 63)) 100 0 127; first | omega | assumption) (by decide)) gX9_doClauses_X5_stepOver (kd_lt (show kd 62 = 5 from rfl) (by decide)) rfl rfl (cellF_5 _ (by decide)) rfl (by decide +kernel) rfl (by decide) [] rfl (Nat.le_of_ble_eq_true rfl) dX9_doClauses_43 (fun v21 M22 hp20 => ?_)
            rcases hp20 with ⟨rfl, rfl, h23⟩ | ⟨rfl, rfl, h24⟩
            · skip
              have h23 : (sgn ((M 63)) ((M 62 1)) (((clR (M 63) (M 62 1) p).2.1))) ≠ 59 := h23
              show V z g 3 (up1 (up1 (up1 (up1 (up1 (up1 (up1 (up1 (up1 (up1 (up1 M 2 (up (M 2) 2 ((dcW (sgn (M 63) (M 62 1) p) (clR (M 63) (M 62 1) p).2.2 (clV (M 63) (M 62 1) p) Y).2 20))) 3 ((dcW (sgn (M 63) (M 62 1) p) (clR (M 63) (M 62 1) p).2.2 (clV (M 63) (M 62 1) p) Y).2)) 5 (vB (M 5) (dcW (sgn (M 63) (M 62 1) p) (clR (M 63) (M 62 1) p).2.2 (clV (M 63) (M 62 1) p) Y).2 0)) 6 (bsA (dcW (sgn (M 63) (M 62 1) p) (clR (M 63) (M 62 1) p).2.2 (clV (M 63) (M 62 1) p) Y).2 0)) 7 (vB (M 7) (dcW (sgn (M 63) (M 62 1) p) (clR (M 63) (M 62 1) p).2.2 (clV (M 63) (M 62 1) p) Y).2 1)) 8 (bsA (dcW (sgn (M 63) (M 62 1) p) (clR (M 63) (M 62 1) p).2.2 (clV (M 63) (M 62 1) p) Y).2 1)) 9 (vB (M 9) (dcW (sgn (M 63) (M 62 1) p) (clR (M 63) (M 62 1) p).2.2 (clV (M 63) (M 62 1) p) Y).2 2)) 10 (bsA (dcW (sgn (M 63) (M 62 1) p) (clR (M 63) (M 62 1) p).2.2 (clV (M 63) (M 62 1) p) Y).2 2)) 11 (tdW (dcW (sgn (M 63) (M 62 1) p) (clR (M 63) (M 62 1) p).2.2 (clV (M 63) (M 62 1) p) Y).2)) 62 (up (up (up (M 62) 3 (sgn (M 63) (M 62 1) p)) 2 (clR (M 63) (M 62 1) p).2.1) 5 (clR (M 63) (M 62 1) p).2.2)) 64 N8) [(1, iv (d + 1)), (0, rf g 0), (2, iv c)] [iv 0] 46
              have hns := h23
              have hle : M 62 1 ≤ (clR (M 63) (M 62 1) p).2.1 := by
                rcases Int.lt_or_le (clR (M 63) (M 62 1) p).2.1 (M 62 1) with q9 | q9
                · exfalso
                  rw [if_neg (by omega), if_pos (Or.inr hns)] at hff2; omega
                · exact q9
              have hb9 : (c + 1 < 12 ∧ ffR (M 63) (M 62 1) (12 - (c + 1)).toNat (clR (M 63) (M 62 1) p).2.1 = -1 ∧ (doN (M 63) (M 62 1) (ncl (M 63) (M 62 1) 12 0) 0 Q) = ((d + 1) + (doN (M 63) (M 62 1) (ncl (M 63) (M 62 1) (12 - (c + 1)).toNat (clR (M 63) (M 62 1) p).2.1) (clR (M 63) (M 62 1) p).2.1 (dcW (sgn (M 63) (M 62 1) p) (clR (M 63) (M 62 1) p).2.2 (clV (M 63) (M 62 1) p) Y).2).1, (doN (M 63) (M 62 1) (ncl (M 63) (M 62 1) (12 - (c + 1)).toNat (clR (M 63) (M 62 1) p).2.1) (clR (M 63) (M 62 1) p).2.1 (dcW (sgn (M 63) (M 62 1) p) (clR (M 63) (M 62 1) p).2.2 (clV (M 63) (M 62 1) p) Y).2).2)) ∨ (M 62 1 ≤ (clR (M 63) (M 62 1) p).2.1 ∧ (doN (M 63) (M 62 1) (ncl (M 63) (M 62 1) 12 0) 0 Q) = ((d + 1), (dcW (sgn (M 63) (M 62 1) p) (clR (M 63) (M 62 1) p).2.2 (clV (M 63) (M 62 1) p) Y).2)) := by
                right
                refine ⟨hle, ?_⟩
                rw [htot, show (12 - c).toNat = (11 - c).toNat + 1 by omega, ncl, if_pos hle]
                show (d + ((dcW (sgn (M 63) (M 62 1) p) (clR (M 63) (M 62 1) p).2.2 (clV (M 63) (M 62 1) p) Y).1 + 0), (dcW (sgn (M 63) (M 62 1) p) (clR (M 63) (M 62 1) p).2.2 (clV (M 63) (M 62 1) p) Y).2) = _
                congr 1; omega
              refine v_pop ok rfl dX9_doClauses_46 ?_
              refine v_iinc ok 2 [(2, iv (c + 1)), (1, iv (d + 1)), (0, rf g 0)] dX9_doClauses_47 rfl (by decide) rfl ?_
              refine v_goto (tgt := 11) ok dX9_doClauses_50 (by decide) ?_
              refine v_lv (ls' := [(0, rf g 0), (1, iv (d + 1)), (2, iv (c + 1))]) ok [2, 1, 0] rfl ?_
              rw [show ((up1 (up1 (up1 (up1 (up1 (up1 (up1 (up1 (up1 (up1 (up1 M 2 (up (M 2) 2 ((dcW (sgn (M 63) (M 62 1) p) (clR (M 63) (M 62 1) p).2.2 (clV (M 63) (M 62 1) p) Y).2 20))) 3 ((dcW (sgn (M 63) (M 62 1) p) (clR (M 63) (M 62 1) p).2.2 (clV (M 63) (M 62 1) p) Y).2)) 5 (vB (M 5) (dcW (sgn (M 63) (M 62 1) p) (clR (M 63) (M 62 1) p).2.2 (clV (M 63) (M 62 1) p) Y).2 0)) 6 (bsA (dcW (sgn (M 63) (M 62 1) p) (clR (M 63) (M 62 1) p).2.2 (clV (M 63) (M 62 1) p) Y).2 0)) 7 (vB (M 7) (dcW (sgn (M 63) (M 62 1) p) (clR (M 63) (M 62 1) p).2.2 (clV (M 63) (M 62 1) p) Y).2 1)) 8 (bsA (dcW (sgn (M 63) (M 62 1) p) (clR (M 63) (M 62 1) p).2.2 (clV (M 63) (M 62 1) p) Y).2 1)) 9 (vB (M 9) (dcW (sgn (M 63) (M 62 1) p) (clR (M 63) (M 62 1) p).2.2 (clV (M 63) (M 62 1) p) Y).2 2)) 10 (bsA (dcW (sgn (M 63) (M 62 1) p) (clR (M 63) (M 62 1) p).2.2 (clV (M 63) (M 62 1) p) Y).2 2)) 11 (tdW (dcW (sgn (M 63) (M 62 1) p) (clR (M 63) (M 62 1) p).2.2 (clV (M 63) (M 62 1) p) Y).2)) 62 (up (up (up (M 62) 3 (sgn (M 63) (M 62 1) p)) 2 (clR (M 63) (M 62 1) p).2.1) 5 (clR (M 63) (M 62 1) p).2.2)) 64 N8) : Mem) = (up1 (up1 (up1 (up1 (up1 (up1 (up1 (up1 (up1 (up1 (up1 M 2 (up (M 2) 2 (((dcW (sgn (M 63) (M 62 1) p) (clR (M 63) (M 62 1) p).2.2 (clV (M 63) (M 62 1) p) Y).2) 20))) 3 ((dcW (sgn (M 63) (M 62 1) p) (clR (M 63) (M 62 1) p).2.2 (clV (M 63) (M 62 1) p) Y).2)) 5 (vB (M 5) ((dcW (sgn (M 63) (M 62 1) p) (clR (M 63) (M 62 1) p).2.2 (clV (M 63) (M 62 1) p) Y).2) 0)) 6 (bsA ((dcW (sgn (M 63) (M 62 1) p) (clR (M 63) (M 62 1) p).2.2 (clV (M 63) (M 62 1) p) Y).2) 0)) 7 (vB (M 7) ((dcW (sgn (M 63) (M 62 1) p) (clR (M 63) (M 62 1) p).2.2 (clV (M 63) (M 62 1) p) Y).2) 1)) 8 (bsA ((dcW (sgn (M 63) (M 62 1) p) (clR (M 63) (M 62 1) p).2.2 (clV (M 63) (M 62 1) p) Y).2) 1)) 9 (vB (M 9) ((dcW (sgn (M 63) (M 62 1) p) (clR (M 63) (M 62 1) p).2.2 (clV (M 63) (M 62 1) p) Y).2) 2)) 10 (bsA ((dcW (sgn (M 63) (M 62 1) p) (clR (M 63) (M 62 1) p).2.2 (clV (M 63) (M 62 1) p) Y).2) 2)) 11 (tdW ((dcW (sgn (M 63) (M 62 1) p) (clR (M 63) (M 62 1) p).2.2 (clV (M 63) (M 62 1) p) Y).2))) 62 (up (up (up (M 62) 3 (sgn (M 63) (M 62 1) p)) 2 ((clR (M 63) (M 62 1) p).2.1)) 5 ((clR (M 63) (M 62 1) p).2.2))) 64 N8) from (by
                    funext j
                    by_cases hj0 : j = 2
                    · subst hj0; simp [up1, up1_self]
                    by_cases hj1 : j = 3
                    · subst hj1; simp [up1, up1_self]
                    by_cases hj2 : j = 5
                    · subst hj2; simp [up1, up1_self]
                    by_cases hj3 : j = 6
                    · subst hj3; simp [up1, up1_self]
                    by_cases hj4 : j = 7
                    · subst hj4; simp [up1, up1_self]
                    by_cases hj5 : j = 8
                    · subst hj5; simp [up1, up1_self]
                    by_cases hj6 : j = 9
                    · subst hj6; simp [up1, up1_self]
                    by_cases hj7 : j = 10
                    · subst hj7; simp [up1, up1_self]
                    by_cases hj8 : j = 11
                    · subst hj8; simp [up1, up1_self]
                    by_cases hj9 : j = 62
                    · subst hj9; simp [up1, up1_self]
                    by_cases hj10 : j = 64
                    · subst hj10; simp [up1, up1_self]
                    simp [up1, hj0, hj1, hj2, hj3, hj4, hj5, hj6, hj7, hj8, hj9, hj10])]
              exact ih11 (c + 1) (d + 1) (sgn (M 63) (M 62 1) p) ((clR (M 63) (M 62 1) p).2.1) ((clR (M 63) (M 62 1) p).2.2) N8 ((dcW (sgn (M 63) (M 62 1) p) (clR (M 63) (M 62 1) p).2.2 (clV (M 63) (M 62 1) p) Y).2) (by omega) (by omega) hwy hb9 (by omega)
            · skip
              have h24 : (sgn ((M 63)) ((M 62 1)) (((clR (M 63) (M 62 1) p).2.1))) = 59 := h24
              show V z g 3 (up1 (up1 (up1 (up1 (up1 (up1 (up1 (up1 (up1 (up1 (up1 (up1 M 2 (up (M 2) 2 ((dcW (sgn (M 63) (M 62 1) p) (clR (M 63) (M 62 1) p).2.2 (clV (M 63) (M 62 1) p) Y).2 20))) 3 ((dcW (sgn (M 63) (M 62 1) p) (clR (M 63) (M 62 1) p).2.2 (clV (M 63) (M 62 1) p) Y).2)) 5 (vB (M 5) (dcW (sgn (M 63) (M 62 1) p) (clR (M 63) (M 62 1) p).2.2 (clV (M 63) (M 62 1) p) Y).2 0)) 6 (bsA (dcW (sgn (M 63) (M 62 1) p) (clR (M 63) (M 62 1) p).2.2 (clV (M 63) (M 62 1) p) Y).2 0)) 7 (vB (M 7) (dcW (sgn (M 63) (M 62 1) p) (clR (M 63) (M 62 1) p).2.2 (clV (M 63) (M 62 1) p) Y).2 1)) 8 (bsA (dcW (sgn (M 63) (M 62 1) p) (clR (M 63) (M 62 1) p).2.2 (clV (M 63) (M 62 1) p) Y).2 1)) 9 (vB (M 9) (dcW (sgn (M 63) (M 62 1) p) (clR (M 63) (M 62 1) p).2.2 (clV (M 63) (M 62 1) p) Y).2 2)) 10 (bsA (dcW (sgn (M 63) (M 62 1) p) (clR (M 63) (M 62 1) p).2.2 (clV (M 63) (M 62 1) p) Y).2 2)) 11 (tdW (dcW (sgn (M 63) (M 62 1) p) (clR (M 63) (M 62 1) p).2.2 (clV (M 63) (M 62 1) p) Y).2)) 62 (up (up (up (M 62) 3 (sgn (M 63) (M 62 1) p)) 2 (clR (M 63) (M 62 1) p).2.1) 5 (clR (M 63) (M 62 1) p).2.2)) 64 N8) 62 (up ((up (up (up (M 62) 3 (sgn (M 63) (M 62 1) p)) 2 (clR (M 63) (M 62 1) p).2.1) 5 (clR (M 63) (M 62 1) p).2.2)) 2 (((clR (M 63) (M 62 1) p).2.1) + 1))) [(1, iv (d + 1)), (0, rf g 0), (2, iv c)] [iv 1] 46
              rw [show ((up1 (up1 (up1 (up1 (up1 (up1 (up1 (up1 (up1 (up1 (up1 (up1 M 2 (up (M 2) 2 ((dcW (sgn (M 63) (M 62 1) p) (clR (M 63) (M 62 1) p).2.2 (clV (M 63) (M 62 1) p) Y).2 20))) 3 ((dcW (sgn (M 63) (M 62 1) p) (clR (M 63) (M 62 1) p).2.2 (clV (M 63) (M 62 1) p) Y).2)) 5 (vB (M 5) (dcW (sgn (M 63) (M 62 1) p) (clR (M 63) (M 62 1) p).2.2 (clV (M 63) (M 62 1) p) Y).2 0)) 6 (bsA (dcW (sgn (M 63) (M 62 1) p) (clR (M 63) (M 62 1) p).2.2 (clV (M 63) (M 62 1) p) Y).2 0)) 7 (vB (M 7) (dcW (sgn (M 63) (M 62 1) p) (clR (M 63) (M 62 1) p).2.2 (clV (M 63) (M 62 1) p) Y).2 1)) 8 (bsA (dcW (sgn (M 63) (M 62 1) p) (clR (M 63) (M 62 1) p).2.2 (clV (M 63) (M 62 1) p) Y).2 1)) 9 (vB (M 9) (dcW (sgn (M 63) (M 62 1) p) (clR (M 63) (M 62 1) p).2.2 (clV (M 63) (M 62 1) p) Y).2 2)) 10 (bsA (dcW (sgn (M 63) (M 62 1) p) (clR (M 63) (M 62 1) p).2.2 (clV (M 63) (M 62 1) p) Y).2 2)) 11 (tdW (dcW (sgn (M 63) (M 62 1) p) (clR (M 63) (M 62 1) p).2.2 (clV (M 63) (M 62 1) p) Y).2)) 62 (up (up (up (M 62) 3 (sgn (M 63) (M 62 1) p)) 2 (clR (M 63) (M 62 1) p).2.1) 5 (clR (M 63) (M 62 1) p).2.2)) 64 N8) 62 (up ((up (up (up (M 62) 3 (sgn (M 63) (M 62 1) p)) 2 (clR (M 63) (M 62 1) p).2.1) 5 (clR (M 63) (M 62 1) p).2.2)) 2 (((clR (M 63) (M 62 1) p).2.1) + 1))) : Mem) = (up1 (up1 (up1 (up1 (up1 (up1 (up1 (up1 (up1 (up1 (up1 M 2 (up (M 2) 2 ((dcW (sgn (M 63) (M 62 1) p) (clR (M 63) (M 62 1) p).2.2 (clV (M 63) (M 62 1) p) Y).2 20))) 3 ((dcW (sgn (M 63) (M 62 1) p) (clR (M 63) (M 62 1) p).2.2 (clV (M 63) (M 62 1) p) Y).2)) 5 (vB (M 5) (dcW (sgn (M 63) (M 62 1) p) (clR (M 63) (M 62 1) p).2.2 (clV (M 63) (M 62 1) p) Y).2 0)) 6 (bsA (dcW (sgn (M 63) (M 62 1) p) (clR (M 63) (M 62 1) p).2.2 (clV (M 63) (M 62 1) p) Y).2 0)) 7 (vB (M 7) (dcW (sgn (M 63) (M 62 1) p) (clR (M 63) (M 62 1) p).2.2 (clV (M 63) (M 62 1) p) Y).2 1)) 8 (bsA (dcW (sgn (M 63) (M 62 1) p) (clR (M 63) (M 62 1) p).2.2 (clV (M 63) (M 62 1) p) Y).2 1)) 9 (vB (M 9) (dcW (sgn (M 63) (M 62 1) p) (clR (M 63) (M 62 1) p).2.2 (clV (M 63) (M 62 1) p) Y).2 2)) 10 (bsA (dcW (sgn (M 63) (M 62 1) p) (clR (M 63) (M 62 1) p).2.2 (clV (M 63) (M 62 1) p) Y).2 2)) 11 (tdW (dcW (sgn (M 63) (M 62 1) p) (clR (M 63) (M 62 1) p).2.2 (clV (M 63) (M 62 1) p) Y).2)) 62 (up ((up (up (up (M 62) 3 (sgn (M 63) (M 62 1) p)) 2 (clR (M 63) (M 62 1) p).2.1) 5 (clR (M 63) (M 62 1) p).2.2)) 2 (((clR (M 63) (M 62 1) p).2.1) + 1))) 64 N8) from (by
                    funext j
                    by_cases hj0 : j = 2
                    · subst hj0; simp [up1, up1_self]
                    by_cases hj1 : j = 3
                    · subst hj1; simp [up1, up1_self]
                    by_cases hj2 : j = 5
                    · subst hj2; simp [up1, up1_self]
                    by_cases hj3 : j = 6
                    · subst hj3; simp [up1, up1_self]
                    by_cases hj4 : j = 7
                    · subst hj4; simp [up1, up1_self]
                    by_cases hj5 : j = 8
                    · subst hj5; simp [up1, up1_self]
                    by_cases hj6 : j = 9
                    · subst hj6; simp [up1, up1_self]
                    by_cases hj7 : j = 10
                    · subst hj7; simp [up1, up1_self]
                    by_cases hj8 : j = 11
                    · subst hj8; simp [up1, up1_self]
                    by_cases hj9 : j = 62
                    · subst hj9; simp [up1, up1_self]
                    by_cases hj10 : j = 64
                    · subst hj10; simp [up1, up1_self]
                    simp [up1, hj0, hj1, hj2, hj3, hj4, hj5, hj6, hj7, hj8, hj9, hj10])]
              have hns := h24
              have hl9 := sgn_lt (T := M 63) (L := M 62 1) (p := (clR (M 63) (M 62 1) p).2.1) (by omega)
              have hk0 : c ≠ 11 := fun q9 => by
                rw [if_neg (by omega), if_pos (Or.inl (by omega))] at hff2; omega
              rw [if_neg (by omega), if_neg (by omega)] at hff2
              rw [show ((up1 (up1 (up1 (up1 (up1 (up1 (up1 (up1 (up1 (up1 (up1 M 2 (up (M 2) 2 ((dcW (sgn (M 63) (M 62 1) p) (clR (M 63) (M 62 1) p).2.2 (clV (M 63) (M 62 1) p) Y).2 20))) 3 ((dcW (sgn (M 63) (M 62 1) p) (clR (M 63) (M 62 1) p).2.2 (clV (M 63) (M 62 1) p) Y).2)) 5 (vB (M 5) (dcW (sgn (M 63) (M 62 1) p) (clR (M 63) (M 62 1) p).2.2 (clV (M 63) (M 62 1) p) Y).2 0)) 6 (bsA (dcW (sgn (M 63) (M 62 1) p) (clR (M 63) (M 62 1) p).2.2 (clV (M 63) (M 62 1) p) Y).2 0)) 7 (vB (M 7) (dcW (sgn (M 63) (M 62 1) p) (clR (M 63) (M 62 1) p).2.2 (clV (M 63) (M 62 1) p) Y).2 1)) 8 (bsA (dcW (sgn (M 63) (M 62 1) p) (clR (M 63) (M 62 1) p).2.2 (clV (M 63) (M 62 1) p) Y).2 1)) 9 (vB (M 9) (dcW (sgn (M 63) (M 62 1) p) (clR (M 63) (M 62 1) p).2.2 (clV (M 63) (M 62 1) p) Y).2 2)) 10 (bsA (dcW (sgn (M 63) (M 62 1) p) (clR (M 63) (M 62 1) p).2.2 (clV (M 63) (M 62 1) p) Y).2 2)) 11 (tdW (dcW (sgn (M 63) (M 62 1) p) (clR (M 63) (M 62 1) p).2.2 (clV (M 63) (M 62 1) p) Y).2)) 62 (up ((up (up (up (M 62) 3 (sgn (M 63) (M 62 1) p)) 2 (clR (M 63) (M 62 1) p).2.1) 5 (clR (M 63) (M 62 1) p).2.2)) 2 (((clR (M 63) (M 62 1) p).2.1) + 1))) 64 N8) : Mem) = (up1 (up1 (up1 (up1 (up1 (up1 (up1 (up1 (up1 (up1 (up1 M 2 (up (M 2) 2 ((dcW (sgn (M 63) (M 62 1) p) (clR (M 63) (M 62 1) p).2.2 (clV (M 63) (M 62 1) p) Y).2 20))) 3 ((dcW (sgn (M 63) (M 62 1) p) (clR (M 63) (M 62 1) p).2.2 (clV (M 63) (M 62 1) p) Y).2)) 5 (vB (M 5) (dcW (sgn (M 63) (M 62 1) p) (clR (M 63) (M 62 1) p).2.2 (clV (M 63) (M 62 1) p) Y).2 0)) 6 (bsA (dcW (sgn (M 63) (M 62 1) p) (clR (M 63) (M 62 1) p).2.2 (clV (M 63) (M 62 1) p) Y).2 0)) 7 (vB (M 7) (dcW (sgn (M 63) (M 62 1) p) (clR (M 63) (M 62 1) p).2.2 (clV (M 63) (M 62 1) p) Y).2 1)) 8 (bsA (dcW (sgn (M 63) (M 62 1) p) (clR (M 63) (M 62 1) p).2.2 (clV (M 63) (M 62 1) p) Y).2 1)) 9 (vB (M 9) (dcW (sgn (M 63) (M 62 1) p) (clR (M 63) (M 62 1) p).2.2 (clV (M 63) (M 62 1) p) Y).2 2)) 10 (bsA (dcW (sgn (M 63) (M 62 1) p) (clR (M 63) (M 62 1) p).2.2 (clV (M 63) (M 62 1) p) Y).2 2)) 11 (tdW (dcW (sgn (M 63) (M 62 1) p) (clR (M 63) (M 62 1) p).2.2 (clV (M 63) (M 62 1) p) Y).2)) 62 (up (up (up (M 62) 3 (sgn (M 63) (M 62 1) p)) 2 ((clR (M 63) (M 62 1) p).2.1 + 1)) 5 (clR (M 63) (M 62 1) p).2.2)) 64 N8) from (by rw [up3])]
              have hb9 : (c + 1 < 12 ∧ ffR (M 63) (M 62 1) (12 - (c + 1)).toNat ((clR (M 63) (M 62 1) p).2.1 + 1) = -1 ∧ (doN (M 63) (M 62 1) (ncl (M 63) (M 62 1) 12 0) 0 Q) = ((d + 1) + (doN (M 63) (M 62 1) (ncl (M 63) (M 62 1) (12 - (c + 1)).toNat ((clR (M 63) (M 62 1) p).2.1 + 1)) ((clR (M 63) (M 62 1) p).2.1 + 1) (dcW (sgn (M 63) (M 62 1) p) (clR (M 63) (M 62 1) p).2.2 (clV (M 63) (M 62 1) p) Y).2).1, (doN (M 63) (M 62 1) (ncl (M 63) (M 62 1) (12 - (c + 1)).toNat ((clR (M 63) (M 62 1) p).2.1 + 1)) ((clR (M 63) (M 62 1) p).2.1 + 1) (dcW (sgn (M 63) (M 62 1) p) (clR (M 63) (M 62 1) p).2.2 (clV (M 63) (M 62 1) p) Y).2).2)) ∨ (M 62 1 ≤ (clR (M 63) (M 62 1) p).2.1 + 1 ∧ (doN (M 63) (M 62 1) (ncl (M 63) (M 62 1) 12 0) 0 Q) = ((d + 1), (dcW (sgn (M 63) (M 62 1) p) (clR (M 63) (M 62 1) p).2.2 (clV (M 63) (M 62 1) p) Y).2)) := by
                left
                refine ⟨by omega, by rw [show (12 - (c + 1)).toNat = (11 - c).toNat by omega]; exact hff2, ?_⟩
                rw [htot, show (12 - c).toNat = (11 - c).toNat + 1 by omega, ncl, if_neg (by omega), show (12 - (c + 1)).toNat = (11 - c).toNat by omega, Nat.add_comm 1]
                show (d + ((dcW (sgn (M 63) (M 62 1) p) (clR (M 63) (M 62 1) p).2.2 (clV (M 63) (M 62 1) p) Y).1 + _), _) = _
                congr 1; omega
              refine v_pop ok rfl dX9_doClauses_46 ?_
              refine v_iinc ok 2 [(2, iv (c + 1)), (1, iv (d + 1)), (0, rf g 0)] dX9_doClauses_47 rfl (by decide) rfl ?_
              refine v_goto (tgt := 11) ok dX9_doClauses_50 (by decide) ?_
              refine v_lv (ls' := [(0, rf g 0), (1, iv (d + 1)), (2, iv (c + 1))]) ok [2, 1, 0] rfl ?_
              rw [show ((up1 (up1 (up1 (up1 (up1 (up1 (up1 (up1 (up1 (up1 (up1 M 2 (up (M 2) 2 ((dcW (sgn (M 63) (M 62 1) p) (clR (M 63) (M 62 1) p).2.2 (clV (M 63) (M 62 1) p) Y).2 20))) 3 ((dcW (sgn (M 63) (M 62 1) p) (clR (M 63) (M 62 1) p).2.2 (clV (M 63) (M 62 1) p) Y).2)) 5 (vB (M 5) (dcW (sgn (M 63) (M 62 1) p) (clR (M 63) (M 62 1) p).2.2 (clV (M 63) (M 62 1) p) Y).2 0)) 6 (bsA (dcW (sgn (M 63) (M 62 1) p) (clR (M 63) (M 62 1) p).2.2 (clV (M 63) (M 62 1) p) Y).2 0)) 7 (vB (M 7) (dcW (sgn (M 63) (M 62 1) p) (clR (M 63) (M 62 1) p).2.2 (clV (M 63) (M 62 1) p) Y).2 1)) 8 (bsA (dcW (sgn (M 63) (M 62 1) p) (clR (M 63) (M 62 1) p).2.2 (clV (M 63) (M 62 1) p) Y).2 1)) 9 (vB (M 9) (dcW (sgn (M 63) (M 62 1) p) (clR (M 63) (M 62 1) p).2.2 (clV (M 63) (M 62 1) p) Y).2 2)) 10 (bsA (dcW (sgn (M 63) (M 62 1) p) (clR (M 63) (M 62 1) p).2.2 (clV (M 63) (M 62 1) p) Y).2 2)) 11 (tdW (dcW (sgn (M 63) (M 62 1) p) (clR (M 63) (M 62 1) p).2.2 (clV (M 63) (M 62 1) p) Y).2)) 62 (up (up (up (M 62) 3 (sgn (M 63) (M 62 1) p)) 2 ((clR (M 63) (M 62 1) p).2.1 + 1)) 5 (clR (M 63) (M 62 1) p).2.2)) 64 N8) : Mem) = (up1 (up1 (up1 (up1 (up1 (up1 (up1 (up1 (up1 (up1 (up1 M 2 (up (M 2) 2 (((dcW (sgn (M 63) (M 62 1) p) (clR (M 63) (M 62 1) p).2.2 (clV (M 63) (M 62 1) p) Y).2) 20))) 3 ((dcW (sgn (M 63) (M 62 1) p) (clR (M 63) (M 62 1) p).2.2 (clV (M 63) (M 62 1) p) Y).2)) 5 (vB (M 5) ((dcW (sgn (M 63) (M 62 1) p) (clR (M 63) (M 62 1) p).2.2 (clV (M 63) (M 62 1) p) Y).2) 0)) 6 (bsA ((dcW (sgn (M 63) (M 62 1) p) (clR (M 63) (M 62 1) p).2.2 (clV (M 63) (M 62 1) p) Y).2) 0)) 7 (vB (M 7) ((dcW (sgn (M 63) (M 62 1) p) (clR (M 63) (M 62 1) p).2.2 (clV (M 63) (M 62 1) p) Y).2) 1)) 8 (bsA ((dcW (sgn (M 63) (M 62 1) p) (clR (M 63) (M 62 1) p).2.2 (clV (M 63) (M 62 1) p) Y).2) 1)) 9 (vB (M 9) ((dcW (sgn (M 63) (M 62 1) p) (clR (M 63) (M 62 1) p).2.2 (clV (M 63) (M 62 1) p) Y).2) 2)) 10 (bsA ((dcW (sgn (M 63) (M 62 1) p) (clR (M 63) (M 62 1) p).2.2 (clV (M 63) (M 62 1) p) Y).2) 2)) 11 (tdW ((dcW (sgn (M 63) (M 62 1) p) (clR (M 63) (M 62 1) p).2.2 (clV (M 63) (M 62 1) p) Y).2))) 62 (up (up (up (M 62) 3 (sgn (M 63) (M 62 1) p)) 2 ((clR (M 63) (M 62 1) p).2.1 + 1)) 5 ((clR (M 63) (M 62 1) p).2.2))) 64 N8) from (by
                    funext j
                    by_cases hj0 : j = 2
                    · subst hj0; simp [up1, up1_self]
                    by_cases hj1 : j = 3
                    · subst hj1; simp [up1, up1_self]
                    by_cases hj2 : j = 5
                    · subst hj2; simp [up1, up1_self]
                    by_cases hj3 : j = 6
                    · subst hj3; simp [up1, up1_self]
                    by_cases hj4 : j = 7
                    · subst hj4; simp [up1, up1_self]
                    by_cases hj5 : j = 8
                    · subst hj5; simp [up1, up1_self]
                    by_cases hj6 : j = 9
                    · subst hj6; simp [up1, up1_self]
                    by_cases hj7 : j = 10
                    · subst hj7; simp [up1, up1_self]
                    by_cases hj8 : j = 11
                    · subst hj8; simp [up1, up1_self]
                    by_cases hj9 : j = 62
                    · subst hj9; simp [up1, up1_self]
                    by_cases hj10 : j = 64
                    · subst hj10; simp [up1, up1_self]
                    simp [up1, hj0, hj1, hj2, hj3, hj4, hj5, hj6, hj7, hj8, hj9, hj10])]
              exact ih11 (c + 1) (d + 1) (sgn (M 63) (M 62 1) p) ((clR (M 63) (M 62 1) p).2.1 + 1) ((clR (M 63) (M 62 1) p).2.2) N8 ((dcW (sgn (M 63) (M 62 1) p) (clR (M 63) (M 62 1) p).2.2 (clV (M 63) (M 62 1) p) Y).2) (by omega) (by omega) hwy hb9 (by omega)
  refine v_eqv (M' := (up1 (up1 (up1 (up1 (up1 (up1 (up1 (up1 (up1 (up1 (up1 M 2 (up (M 2) 2 (Q 20))) 3 Q) 5 (vB (M 5) Q 0)) 6 (bsA Q 0)) 7 (vB (M 7) Q 1)) 8 (bsA Q 1)) 9 (vB (M 9) Q 2)) 10 (bsA Q 2)) 11 (tdW Q)) 62 (up (up (up (M 62) 3 (M 62 3)) 2 0) 5 (M 62 5))) 64 (M 64))) ((dcs_0 hrf)) ?_
  refine v_lv (ls' := [(0, rf g 0), (1, iv 0), (2, iv 0)]) ok [2, 1, 0] rfl ?_
  rw [show ((up1 (up1 (up1 (up1 (up1 (up1 (up1 (up1 (up1 (up1 (up1 M 2 (up (M 2) 2 (Q 20))) 3 Q) 5 (vB (M 5) Q 0)) 6 (bsA Q 0)) 7 (vB (M 7) Q 1)) 8 (bsA Q 1)) 9 (vB (M 9) Q 2)) 10 (bsA Q 2)) 11 (tdW Q)) 62 (up (up (up (M 62) 3 (M 62 3)) 2 0) 5 (M 62 5))) 64 (M 64)) : Mem) = (up1 (up1 (up1 (up1 (up1 (up1 (up1 (up1 (up1 (up1 (up1 M 2 (up (M 2) 2 (Q 20))) 3 Q) 5 (vB (M 5) Q 0)) 6 (bsA Q 0)) 7 (vB (M 7) Q 1)) 8 (bsA Q 1)) 9 (vB (M 9) Q 2)) 10 (bsA Q 2)) 11 (tdW Q)) 62 (up (up (up (M 62) 3 (M 62 3)) 2 (0 : Int)) 5 (M 62 5))) 64 (M 64)) from (by
        funext j
        by_cases hj0 : j = 2
        · subst hj0; simp [up1, up1_self]
        by_cases hj1 : j = 3
        · subst hj1; simp [up1, up1_self]
        by_cases hj2 : j = 5
        · subst hj2; simp [up1, up1_self]
        by_cases hj3 : j = 6
        · subst hj3; simp [up1, up1_self]
        by_cases hj4 : j = 7
        · subst hj4; simp [up1, up1_self]
        by_cases hj5 : j = 8
        · subst hj5; simp [up1, up1_self]
        by_cases hj6 : j = 9
        · subst hj6; simp [up1, up1_self]
        by_cases hj7 : j = 10
        · subst hj7; simp [up1, up1_self]
        by_cases hj8 : j = 11
        · subst hj8; simp [up1, up1_self]
        by_cases hj9 : j = 62
        · subst hj9; simp [up1, up1_self]
        by_cases hj10 : j = 64
        · subst hj10; simp [up1, up1_self]
        simp [up1, hj0, hj1, hj2, hj3, hj4, hj5, hj6, hj7, hj8, hj9, hj10])]
  exact lp11 _ 0 0 (M 62 3) 0 (M 62 5) (M 64) Q (by omega) (by omega) hwq (Or.inl ⟨by decide, hff, by show _ = ((0 : Int) + _, _); rw [Int.zero_add]; rfl⟩) (Nat.lt_succ_self _)
