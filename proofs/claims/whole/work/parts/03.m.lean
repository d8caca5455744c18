theorem mk_X9_exchange_28 : Cond.fieldLink RX9 28 "StormRunoff" "trial" "LStormRunoff$Site;" ∈ wsX9_exchange := by decide +kernel
theorem mi_X9_exchange_9 : ∀ w ∈ wsX90, w ∈ wsX9_exchange := by decide +kernel
theorem mk_X9_exchange_12 : Cond.fieldLink RX9 12 "StormRunoff" "now" "LStormRunoff$State;" ∈ wsX9_exchange := by decide +kernel
theorem mk_X9_exchange_67 : Cond.fieldLink RX9 67 "StormRunoff$State" "site" "LStormRunoff$Site;" ∈ wsX9_exchange := by decide +kernel
theorem mi_X9_exchange_7 : ∀ w ∈ wsX70, w ∈ wsX9_exchange := by decide +kernel
theorem mk_X9_exchange_35 : Cond.fieldLink RX9 35 "StormRunoff" "course" "LStormRunoff$Course;" ∈ wsX9_exchange := by decide +kernel
theorem mk_X9_exchange_70 : Cond.fieldLink RX9 70 "StormRunoff$Site" "rain" "[I" ∈ wsX9_exchange := by decide +kernel
theorem mi_X9_exchange_6 : ∀ w ∈ wsX60, w ∈ wsX9_exchange := by decide +kernel
set_option maxRecDepth 100000 in
set_option maxHeartbeats 400000 in
theorem ct_X9_exchange (l : Launch) (g : Gl) (M : Mem) (w : Int) (hw : i32 w) (hs : SiteOk M 2) : Ct l g yX9_exchange wsX9_exchange 6 132 [rf g 0, iv w] M (fun rv M' => (rv = some (iv (-1)) ∧ M' = M ∧ (¬ (0 ≤ w ∧ w ≤ 1))) ∨ (∃ (A0 A1 A2 A3 A4 A5 A6 A7 A8 A9 A10 : Int → Int), rv = some (iv (exO (fun s t => pkR M (swp (M 3) s t)) (pkR M (M 3)) 8).2) ∧ M' = (up1 (up1 (up1 (up1 (up1 (up1 (up1 (up1 (up1 (up1 (up1 M 42 A0) 45 A1) 44 A2) 47 A3) 46 A4) 49 A5) 48 A6) 41 A7) 53 A8) 51 A9) 52 A10) ∧ (w = 0)) ∨ (∃ (A0 A1 A2 A3 A4 A5 A6 A7 A8 A9 A10 : Int → Int), rv = some (iv (exO (fun s t => pkR M (swp (M 3) s t)) (pkR M (M 3)) 8).1) ∧ M' = (up1 (up1 (up1 (up1 (up1 (up1 (up1 (up1 (up1 (up1 (up1 M 42 A0) 45 A1) 44 A2) 47 A3) 46 A4) 49 A5) 48 A6) 41 A7) 53 A8) 51 A9) 52 A10) ∧ (w = 1))) := by
  refine Ct.of (cc := cX9_exchange) (nL := 7) (ret := (some .int)) (by decide) rfl (Nat.le_of_ble_eq_true rfl) (fun z hz ok rt => ?_)
  have ok : Ok z g cX9_exchange 7 RX9 wsX9_exchange 6 132 := ok
  show V z g 7 M [(0, rf g 0), (1, iv w)] [] 0
  have hR : bdf (M 3) 8 0 20 := hs.1
  have hm : 0 ≤ M 2 2 ∧ M 2 2 ≤ 3 := hs.2.1
  have hA0 : bdf (M 6) 5 0 9 := hs.2.2.1.1
  have hk0 : 0 ≤ M 5 2 ∧ M 5 2 ≤ 4 := hs.2.2.1.2.2.1
  have hn0 : 0 ≤ M 5 3 ∧ M 5 3 ≤ 9 := hs.2.2.1.2.2.2
  have hA1 : bdf (M 8) 5 0 9 := hs.2.2.2.1.1
  have hk1 : 0 ≤ M 7 2 ∧ M 7 2 ≤ 4 := hs.2.2.2.1.2.2.1
  have hn1 : 0 ≤ M 7 3 ∧ M 7 3 ≤ 9 := hs.2.2.2.1.2.2.2
  have hA2 : bdf (M 10) 5 0 9 := hs.2.2.2.2.1
  have hk2 : 0 ≤ M 9 2 ∧ M 9 2 ≤ 4 := hs.2.2.2.2.2.2.1
  have hn2 : 0 ≤ M 9 3 ∧ M 9 3 ≤ 9 := hs.2.2.2.2.2.2.2
  refine v_iload_n ok 1 dX9_exchange_0 rfl rfl ?_
  refine v_iconst (n := 0) ok dX9_exchange_1 ?_
  refine v_iconst (n := 1) ok dX9_exchange_2 ?_
  refine v_callS (na := 3) ok (ct_X9_between z.2.1 g M w 0 1 ⟨by omega, by omega⟩ (by decide) (by decide)) gX9_exchange_X9_between rfl (by decide +kernel) rfl (by decide) [] rfl (Nat.le_of_ble_eq_true rfl) dX9_exchange_3 (fun v2 M3 hp1 => ?_)
  rcases hp1 with ⟨rfl, eM3, h4⟩ | ⟨rfl, eM3, h5⟩
  · skip
    subst M3
    show V z g 7 M [(0, rf g 0), (1, iv w)] [iv 1] 6
    refine v_if_ne (tgt := 11) ok (by decide) dX9_exchange_6 (by decide) (fun c6 => ?_) (fun c6 => absurd c6 (by decide))
    refine v_aload_n ok 0 dX9_exchange_11 rfl rfl ?_
    refine v_get (T := TX9) (N := 9) (f0 := (M 0)) (v := rf g 41) ok mi_X9_exchange_9 (kd_lt (show kd 0 = 9 from rfl) (by decide)) rfl rfl (cellF_9 _ (by decide)) 3 (by decide) mk_X9_exchange_28 rfl rfl dX9_exchange_12 ?_
    refine v_aload_n ok 0 dX9_exchange_15 rfl rfl ?_
    refine v_get (T := TX9) (N := 9) (f0 := (M 0)) (v := rf g 1) ok mi_X9_exchange_9 (kd_lt (show kd 0 = 9 from rfl) (by decide)) rfl rfl (cellF_9 _ (by decide)) 0 (by decide) mk_X9_exchange_12 rfl rfl dX9_exchange_16 ?_
    refine v_get (T := TX7) (N := 5) (f0 := (M 1)) (v := rf g 2) ok mi_X9_exchange_7 (kd_lt (show kd 1 = 7 from rfl) (by decide)) rfl rfl (cellF_7 _ (by decide)) 0 (by decide) mk_X9_exchange_67 rfl rfl dX9_exchange_19 ?_
    refine v_callV (na := 1) (i := 41) (C := RX6) (T := TX6) (N := 3) (f0 := (M 41)) ok (ct_X6_become_41_2 z.2.1 g M  ) gX9_exchange_X6_become (kd_lt (show kd 41 = 6 from rfl) (by decide)) rfl rfl (cellF_6 _ (by decide)) rfl (by decide +kernel) rfl (by decide) [] rfl (Nat.le_of_ble_eq_true rfl) dX9_exchange_22 (fun v8 M9 hp7 => ?_)
    obtain ⟨rfl, rfl⟩ := hp7
    show V z g 7 (up1 (up1 (up1 (up1 (up1 (up1 (up1 (up1 M 42 ((M 3))) 45 ((M 6))) 44 (up (up (up ((M 44)) 1 ((M 5) 1)) 2 ((M 5) 2)) 3 ((M 5) 3))) 47 ((M 8))) 46 (up (up (up ((M 46)) 1 ((M 7) 1)) 2 ((M 7) 2)) 3 ((M 7) 3))) 49 ((M 10))) 48 (up (up (up ((M 48)) 1 ((M 9) 1)) 2 ((M 9) 2)) 3 ((M 9) 3))) 41 (up ((M 41)) 2 ((M 2) 2))) [(0, rf g 0), (1, iv w)] [] 25
    refine v_aload_n ok 0 dX9_exchange_25 rfl rfl ?_
    refine v_get (T := TX9) (N := 9) (f0 := (M 0)) (v := rf g 50) ok mi_X9_exchange_9 (kd_lt (show kd 0 = 9 from rfl) (by decide)) rfl rfl (cellF_9 _ (by decide)) 4 (by decide) mk_X9_exchange_35 rfl rfl dX9_exchange_26 ?_
    refine v_aload_n ok 0 dX9_exchange_29 rfl rfl ?_
    refine v_get (T := TX9) (N := 9) (f0 := (M 0)) (v := rf g 41) ok mi_X9_exchange_9 (kd_lt (show kd 0 = 9 from rfl) (by decide)) rfl rfl (cellF_9 _ (by decide)) 3 (by decide) mk_X9_exchange_28 rfl rfl dX9_exchange_30 ?_
    refine v_callV (na := 1) (i := 50) (C := RX1) (T := TX1) (N := 3) (f0 := (M 50)) ok (ct_X1_peakOf_41 z.2.1 g (up1 (up1 (up1 (up1 (up1 (up1 (up1 (up1 M 42 ((M 3))) 45 ((M 6))) 44 (up (up (up ((M 44)) 1 ((M 5) 1)) 2 ((M 5) 2)) 3 ((M 5) 3))) 47 ((M 8))) 46 (up (up (up ((M 46)) 1 ((M 7) 1)) 2 ((M 7) 2)) 3 ((M 7) 3))) 49 ((M 10))) 48 (up (up (up ((M 48)) 1 ((M 9) 1)) 2 ((M 9) 2)) 3 ((M 9) 3))) 41 (up ((M 41)) 2 ((M 2) 2)))  (show SiteOk (up1 (up1 (up1 (up1 (up1 (up1 (up1 (up1 M 42 ((M 3))) 45 ((M 6))) 44 (up (up (up ((M 44)) 1 ((M 5) 1)) 2 ((M 5) 2)) 3 ((M 5) 3))) 47 ((M 8))) 46 (up (up (up ((M 46)) 1 ((M 7) 1)) 2 ((M 7) 2)) 3 ((M 7) 3))) 49 ((M 10))) 48 (up (up (up ((M 48)) 1 ((M 9) 1)) 2 ((M 9) 2)) 3 ((M 9) 3))) 41 (up ((M 41)) 2 ((M 2) 2))) 41 from hs)) gX9_exchange_X1_peakOf (kd_lt (show kd 50 = 1 from rfl) (by decide)) rfl rfl (cellF_1 _ (by decide)) rfl (by decide +kernel) rfl (by decide) [] rfl (Nat.le_of_ble_eq_true rfl) dX9_exchange_33 (fun v11 M12 hp10 => ?_)
    obtain ⟨F13, O14, rfl, rfl⟩ := hp10
    show V z g 7 (up1 (up1 (up1 (up1 (up1 (up1 (up1 (up1 (up1 (up1 (up1 M 42 ((M 3))) 45 ((M 6))) 44 (up (up (up ((M 44)) 1 ((M 5) 1)) 2 ((M 5) 2)) 3 ((M 5) 3))) 47 ((M 8))) 46 (up (up (up ((M 46)) 1 ((M 7) 1)) 2 ((M 7) 2)) 3 ((M 7) 3))) 49 ((M 10))) 48 (up (up (up ((M 48)) 1 ((M 9) 1)) 2 ((M 9) 2)) 3 ((M 9) 3))) 41 (up ((M 41)) 2 ((M 2) 2))) 53 (jnS (up1 (up1 (up1 (up1 (up1 (up1 (up1 (up1 M 42 ((M 3))) 45 ((M 6))) 44 (up (up (up ((M 44)) 1 ((M 5) 1)) 2 ((M 5) 2)) 3 ((M 5) 3))) 47 ((M 8))) 46 (up (up (up ((M 46)) 1 ((M 7) 1)) 2 ((M 7) 2)) 3 ((M 7) 3))) 49 ((M 10))) 48 (up (up (up ((M 48)) 1 ((M 9) 1)) 2 ((M 9) 2)) 3 ((M 9) 3))) 41 (up ((M 41)) 2 ((M 2) 2))) 41 (((M 2) 2)).toNat)) 51 F13) 52 O14) [(0, rf g 0), (1, iv w)] [iv (msr 1 (jnS (up1 (up1 (up1 (up1 (up1 (up1 (up1 (up1 M 42 ((M 3))) 45 ((M 6))) 44 (up (up (up ((M 44)) 1 ((M 5) 1)) 2 ((M 5) 2)) 3 ((M 5) 3))) 47 ((M 8))) 46 (up (up (up ((M 46)) 1 ((M 7) 1)) 2 ((M 7) 2)) 3 ((M 7) 3))) 49 ((M 10))) 48 (up (up (up ((M 48)) 1 ((M 9) 1)) 2 ((M 9) 2)) 3 ((M 9) 3))) 41 (up ((M 41)) 2 ((M 2) 2))) 41 (((M 2) 2)).toNat) 30)] 36
    rw [show ((msr 1 (jnS (up1 (up1 (up1 (up1 (up1 (up1 (up1 (up1 M 42 ((M 3))) 45 ((M 6))) 44 (up (up (up ((M 44)) 1 ((M 5) 1)) 2 ((M 5) 2)) 3 ((M 5) 3))) 47 ((M 8))) 46 (up (up (up ((M 46)) 1 ((M 7) 1)) 2 ((M 7) 2)) 3 ((M 7) 3))) 49 ((M 10))) 48 (up (up (up ((M 48)) 1 ((M 9) 1)) 2 ((M 9) 2)) 3 ((M 9) 3))) 41 (up ((M 41)) 2 ((M 2) 2))) 41 (((M 2) 2)).toNat) 30) : Int) = (pkR M (M 3)) from rfl]
    refine v_istore_n ok [(2, iv (pkR M (M 3))), (0, rf g 0), (1, iv w)] dX9_exchange_36 rfl (by decide) rfl ?_
    refine v_bipush (n := -5) ok rfl dX9_exchange_37 ?_
    refine v_istore_n ok [(3, iv (-5)), (2, iv (pkR M (M 3))), (0, rf g 0), (1, iv w)] dX9_exchange_39 rfl (by decide) rfl ?_
    refine v_iconst (n := 0) ok dX9_exchange_40 ?_
    refine v_istore ok [(4, iv 0), (3, iv (-5)), (2, iv (pkR M (M 3))), (0, rf g 0), (1, iv w)] dX9_exchange_41 (by decide) rfl ?_
    have lp43 : ∀ (fu : Nat) (s p q : Int) (J F O : Int → Int), (0 ≤ s ∧ s ≤ 8) → ((p, q) = exO (fun s t => pkR M (swp (M 3) s t)) (pkR M (M 3)) s.toNat) → (0 ≤ p ∧ p ≤ 129600) → (8 - s).toNat < fu → V z g 7 (up1 (up1 (up1 (up1 (up1 (up1 (up1 (up1 (up1 (up1 (up1 M 42 (M 3)) 45 (M 6)) 44 (up (up (up (M 44) 1 (M 5 1)) 2 (M 5 2)) 3 (M 5 3))) 47 (M 8)) 46 (up (up (up (M 46) 1 (M 7 1)) 2 (M 7 2)) 3 (M 7 3))) 49 (M 10)) 48 (up (up (up (M 48) 1 (M 9 1)) 2 (M 9 2)) 3 (M 9 3))) 41 (up (M 41) 2 (M 2 2))) 53 J) 51 F) 52 O) [(0, rf g 0), (1, iv w), (2, iv p), (3, iv q), (4, iv s)] [] 43 := by
      intro fu
      induction fu with
      | zero => intro s p q J F O _ _ _ hm; exact absurd hm (Nat.not_lt_zero _)
      | succ fu ih43 =>
        intro s p q J F O i43_0 i43_1 i43_2 hm43
        refine v_iload ok 4 dX9_exchange_43 rfl ?_
        refine v_bipush (n := 8) ok rfl dX9_exchange_45 ?_
        refine v_icmp_ge (tgt := 134) ok ⟨by omega, by omega⟩ (by decide) dX9_exchange_47 (by decide) (fun c15 => ?_) (fun c15 => ?_)
        · skip
          rw [show s.toNat = 8 by omega] at i43_1
          rw [show (p : Int) = (exO (fun s t => pkR M (swp (M 3) s t)) (pkR M (M 3)) 8).1 from (by rw [← i43_1])]
          rw [show (q : Int) = (exO (fun s t => pkR M (swp (M 3) s t)) (pkR M (M 3)) 8).2 from (by rw [← i43_1])]
          refine v_iload_n ok 1 dX9_exchange_134 rfl rfl ?_
          refine v_if_ne (tgt := 142) ok ⟨by omega, by omega⟩ dX9_exchange_135 (by decide) (fun c16 => ?_) (fun c16 => ?_)
          · skip
            refine v_iload_n ok 2 dX9_exchange_142 rfl rfl ?_
            exact v_iret ok rt dX9_exchange_143 (Or.inr (Or.inr (⟨(M 3), (M 6), (up (up (up (M 44) 1 (M 5 1)) 2 (M 5 2)) 3 (M 5 3)), (M 8), (up (up (up (M 46) 1 (M 7 1)) 2 (M 7 2)) 3 (M 7 3)), (M 10), (up (up (up (M 48) 1 (M 9 1)) 2 (M 9 2)) 3 (M 9 3)), (up (M 41) 2 (M 2 2)), J, F, O, rfl, rfl, (by omega)⟩)))
          · skip
            refine v_iload_n ok 3 dX9_exchange_138 rfl rfl ?_
            refine v_goto (tgt := 143) ok dX9_exchange_139 (by decide) ?_
            exact v_iret ok rt dX9_exchange_143 (Or.inr (Or.inl (⟨(M 3), (M 6), (up (up (up (M 44) 1 (M 5 1)) 2 (M 5 2)) 3 (M 5 3)), (M 8), (up (up (up (M 46) 1 (M 7 1)) 2 (M 7 2)) 3 (M 7 3)), (M 10), (up (up (up (M 48) 1 (M 9 1)) 2 (M 9 2)) 3 (M 9 3)), (up (M 41) 2 (M 2 2)), J, F, O, rfl, rfl, (by omega)⟩)))
        · skip
          refine v_iload ok 4 dX9_exchange_50 rfl ?_
          refine v_iconst (n := 1) ok dX9_exchange_52 ?_
          refine v_iadd ok dX9_exchange_53 ?_
          refine v_istore ok [(5, iv (s + 1)), (0, rf g 0), (1, iv w), (2, iv p), (3, iv q), (4, iv s)] dX9_exchange_54 (by decide) rfl ?_
          have lp56 : ∀ (fu : Nat) (t p q x : Int) (J F O : Int → Int), (s + 1 ≤ t ∧ t ≤ 8) → ((p, q) = exI (fun s t => pkR M (swp (M 3) s t)) s (exO (fun s t => pkR M (swp (M 3) s t)) (pkR M (M 3)) s.toNat) (t - s - 1).toNat) → (0 ≤ p ∧ p ≤ 129600) → (8 - t).toNat < fu → V z g 7 (up1 (up1 (up1 (up1 (up1 (up1 (up1 (up1 (up1 (up1 (up1 M 42 (M 3)) 45 (M 6)) 44 (up (up (up (M 44) 1 (M 5 1)) 2 (M 5 2)) 3 (M 5 3))) 47 (M 8)) 46 (up (up (up (M 46) 1 (M 7 1)) 2 (M 7 2)) 3 (M 7 3))) 49 (M 10)) 48 (up (up (up (M 48) 1 (M 9 1)) 2 (M 9 2)) 3 (M 9 3))) 41 (up (M 41) 2 (M 2 2))) 53 J) 51 F) 52 O) [(0, rf g 0), (1, iv w), (2, iv p), (3, iv q), (4, iv s), (5, iv t)] [] 56 := by
            intro fu
            induction fu with
            | zero => intro t p q x J F O _ _ _ hm; exact absurd hm (Nat.not_lt_zero _)
            | succ fu ih56 =>
              intro t p q x J F O i56_0 i56_1 i56_2 hm56
              refine v_iload ok 5 dX9_exchange_56 rfl ?_
              refine v_bipush (n := 8) ok rfl dX9_exchange_58 ?_
              refine v_icmp_ge (tgt := 128) ok ⟨by omega, by omega⟩ (by decide) dX9_exchange_60 (by decide) (fun c17 => ?_) (fun c17 => ?_)
              · skip
                refine v_iinc ok 4 [(4, iv (s + 1)), (0, rf g 0), (1, iv w), (2, iv p), (3, iv q), (5, iv t)] dX9_exchange_128 rfl (by decide) rfl ?_
                refine v_goto (tgt := 43) ok dX9_exchange_131 (by decide) ?_
                refine v_lv (ls' := [(0, rf g 0), (1, iv w), (2, iv p), (3, iv q), (4, iv (s + 1))]) ok [1, 2, 3, 4, 0] rfl ?_
                exact ih43 (s + 1) p q J F O (by omega) (by rw [exO_s i43_0.1 (by omega)]; rw [show t = 8 by omega] at i56_1; exact i56_1) i56_2 (by omega)
              · skip
                refine v_aload_n ok 0 dX9_exchange_63 rfl rfl ?_
                refine v_get (T := TX9) (N := 9) (f0 := (M 0)) (v := rf g 41) ok mi_X9_exchange_9 (kd_lt (show kd 0 = 9 from rfl) (by decide)) rfl rfl (cellF_9 _ (by decide)) 3 (by decide) mk_X9_exchange_28 rfl rfl dX9_exchange_64 ?_
                refine v_get (T := TX6) (N := 3) (f0 := (up (M 41) 2 (M 2 2))) (v := rf g 42) ok mi_X9_exchange_6 (kd_lt (show kd 41 = 6 from rfl) (by decide)) rfl rfl (cellF_6 _ (by decide)) 0 (by decide) mk_X9_exchange_70 rfl rfl dX9_exchange_67 ?_
                refine v_iload ok 4 dX9_exchange_70 rfl ?_
                refine v_iload ok 5 dX9_exchange_72 rfl ?_
                refine v_callS (na := 3) ok (ct_X9_swap z.2.1 g (up1 (up1 (up1 (up1 (up1 (up1 (up1 (up1 (up1 (up1 (up1 M 42 (M 3)) 45 (M 6)) 44 (up (up (up (M 44) 1 (M 5 1)) 2 (M 5 2)) 3 (M 5 3))) 47 (M 8)) 46 (up (up (up (M 46) 1 (M 7 1)) 2 (M 7 2)) 3 (M 7 3))) 49 (M 10)) 48 (up (up (up (M 48) 1 (M 9 1)) 2 (M 9 2)) 3 (M 9 3))) 41 (up (M 41) 2 (M 2 2))) 53 J) 51 F) 52 O) s t (by first | omega | assumption) (by first | omega | assumption)) gX9_exchange_X9_swap rfl (by decide +kernel) rfl (by decide) [] rfl (Nat.le_of_ble_eq_true rfl) dX9_exchange_74 (fun v19 M20 hp18 => ?_)
                obtain ⟨rfl, rfl⟩ := hp18
                show V z g 7 (up1 (up1 (up1 (up1 (up1 (up1 (up1 (up1 (up1 (up1 (up1 (up1 M 42 (M 3)) 45 (M 6)) 44 (up (up (up (M 44) 1 (M 5 1)) 2 (M 5 2)) 3 (M 5 3))) 47 (M 8)) 46 (up (up (up (M 46) 1 (M 7 1)) 2 (M 7 2)) 3 (M 7 3))) 49 (M 10)) 48 (up (up (up (M 48) 1 (M 9 1)) 2 (M 9 2)) 3 (M 9 3))) 41 (up (M 41) 2 (M 2 2))) 53 J) 51 F) 52 O) 42 (swp ((M 3)) s t)) [(0, rf g 0), (1, iv w), (2, iv p), (3, iv q), (4, iv s), (5, iv t)] [] 77
                rw [show ((up1 (up1 (up1 (up1 (up1 (up1 (up1 (up1 (up1 (up1 (up1 (up1 M 42 (M 3)) 45 (M 6)) 44 (up (up (up (M 44) 1 (M 5 1)) 2 (M 5 2)) 3 (M 5 3))) 47 (M 8)) 46 (up (up (up (M 46) 1 (M 7 1)) 2 (M 7 2)) 3 (M 7 3))) 49 (M 10)) 48 (up (up (up (M 48) 1 (M 9 1)) 2 (M 9 2)) 3 (M 9 3))) 41 (up (M 41) 2 (M 2 2))) 53 J) 51 F) 52 O) 42 (swp ((M 3)) s t)) : Mem) = (up1 (up1 (up1 (up1 (up1 (up1 (up1 (up1 (up1 (up1 (up1 M 42 (swp ((M 3)) s t)) 45 (M 6)) 44 (up (up (up (M 44) 1 (M 5 1)) 2 (M 5 2)) 3 (M 5 3))) 47 (M 8)) 46 (up (up (up (M 46) 1 (M 7 1)) 2 (M 7 2)) 3 (M 7 3))) 49 (M 10)) 48 (up (up (up (M 48) 1 (M 9 1)) 2 (M 9 2)) 3 (M 9 3))) 41 (up (M 41) 2 (M 2 2))) 53 J) 51 F) 52 O) from (by
                      funext j
                      by_cases hj0 : j = 42
                      · subst hj0; simp [up1, up1_self]
                      by_cases hj1 : j = 45
                      · subst hj1; simp [up1, up1_self]
                      by_cases hj2 : j = 44
                      · subst hj2; simp [up1, up1_self]
                      by_cases hj3 : j = 47
                      · subst hj3; simp [up1, up1_self]
                      by_cases hj4 : j = 46
                      · subst hj4; simp [up1, up1_self]
                      by_cases hj5 : j = 49
                      · subst hj5; simp [up1, up1_self]
                      by_cases hj6 : j = 48
                      · subst hj6; simp [up1, up1_self]
                      by_cases hj7 : j = 41
                      · subst hj7; simp [up1, up1_self]
                      by_cases hj8 : j = 53
                      · subst hj8; simp [up1, up1_self]
                      by_cases hj9 : j = 51
                      · subst hj9; simp [up1, up1_self]
                      by_cases hj10 : j = 52
                      · subst hj10; simp [up1, up1_self]
                      simp [up1, hj0, hj1, hj2, hj3, hj4, hj5, hj6, hj7, hj8, hj9, hj10])]
                have hso : SiteOk (up1 (up1 (up1 (up1 (up1 (up1 (up1 (up1 (up1 (up1 (up1 M 42 (swp ((M 3)) s t)) 45 (M 6)) 44 (up (up (up (M 44) 1 (M 5 1)) 2 (M 5 2)) 3 (M 5 3))) 47 (M 8)) 46 (up (up (up (M 46) 1 (M 7 1)) 2 (M 7 2)) 3 (M 7 3))) 49 (M 10)) 48 (up (up (up (M 48) 1 (M 9 1)) 2 (M 9 2)) 3 (M 9 3))) 41 (up (M 41) 2 (M 2 2))) 53 J) 51 F) 52 O) 41 := And.intro (bdf_swp hR (by omega) (by omega) (by omega) (by omega)) hs.2
                have hpk := pkR_rng hs (bdf_swp hR (s := s) (t := t) (by omega) (by omega) (by omega) (by omega))
                refine v_aload_n ok 0 dX9_exchange_77 rfl rfl ?_
                refine v_get (T := TX9) (N := 9) (f0 := (M 0)) (v := rf g 50) ok mi_X9_exchange_9 (kd_lt (show kd 0 = 9 from rfl) (by decide)) rfl rfl (cellF_9 _ (by decide)) 4 (by decide) mk_X9_exchange_35 rfl rfl dX9_exchange_78 ?_
                refine v_aload_n ok 0 dX9_exchange_81 rfl rfl ?_
                refine v_get (T := TX9) (N := 9) (f0 := (M 0)) (v := rf g 41) ok mi_X9_exchange_9 (kd_lt (show kd 0 = 9 from rfl) (by decide)) rfl rfl (cellF_9 _ (by decide)) 3 (by decide) mk_X9_exchange_28 rfl rfl dX9_exchange_82 ?_
                refine v_callV (na := 1) (i := 50) (C := RX1) (T := TX1) (N := 3) (f0 := (M 50)) ok (ct_X1_peakOf_41 z.2.1 g (up1 (up1 (up1 (up1 (up1 (up1 (up1 (up1 (up1 (up1 (up1 M 42 (swp ((M 3)) s t)) 45 (M 6)) 44 (up (up (up (M 44) 1 (M 5 1)) 2 (M 5 2)) 3 (M 5 3))) 47 (M 8)) 46 (up (up (up (M 46) 1 (M 7 1)) 2 (M 7 2)) 3 (M 7 3))) 49 (M 10)) 48 (up (up (up (M 48) 1 (M 9 1)) 2 (M 9 2)) 3 (M 9 3))) 41 (up (M 41) 2 (M 2 2))) 53 J) 51 F) 52 O)  hso) gX9_exchange_X1_peakOf (kd_lt (show kd 50 = 1 from rfl) (by decide)) rfl rfl (cellF_1 _ (by decide)) rfl (by decide +kernel) rfl (by decide) [] rfl (Nat.le_of_ble_eq_true rfl) dX9_exchange_85 (fun v22 M23 hp21 => ?_)
                obtain ⟨F24, O25, rfl, rfl⟩ := hp21
                show V z g 7 (up1 (up1 (up1 (up1 (up1 (up1 (up1 (up1 (up1 (up1 (up1 (up1 (up1 (up1 M 42 (swp ((M 3)) s t)) 45 (M 6)) 44 (up (up (up (M 44) 1 (M 5 1)) 2 (M 5 2)) 3 (M 5 3))) 47 (M 8)) 46 (up (up (up (M 46) 1 (M 7 1)) 2 (M 7 2)) 3 (M 7 3))) 49 (M 10)) 48 (up (up (up (M 48) 1 (M 9 1)) 2 (M 9 2)) 3 (M 9 3))) 41 (up (M 41) 2 (M 2 2))) 53 J) 51 F) 52 O) 53 (jnS (up1 (up1 (up1 (up1 (up1 (up1 (up1 (up1 (up1 (up1 (up1 M 42 (swp ((M 3)) s t)) 45 (M 6)) 44 (up (up (up (M 44) 1 (M 5 1)) 2 (M 5 2)) 3 (M 5 3))) 47 (M 8)) 46 (up (up (up (M 46) 1 (M 7 1)) 2 (M 7 2)) 3 (M 7 3))) 49 (M 10)) 48 (up (up (up (M 48) 1 (M 9 1)) 2 (M 9 2)) 3 (M 9 3))) 41 (up (M 41) 2 (M 2 2))) 53 J) 51 F) 52 O) 41 ((M 2 2)).toNat)) 51 F24) 52 O25) [(0, rf g 0), (1, iv w), (2, iv p), (3, iv q), (4, iv s), (5, iv t)] [iv (msr 1 (jnS (up1 (up1 (up1 (up1 (up1 (up1 (up1 (up1 (up1 (up1 (up1 M 42 (swp ((M 3)) s t)) 45 (M 6)) 44 (up (up (up (M 44) 1 (M 5 1)) 2 (M 5 2)) 3 (M 5 3))) 47 (M 8)) 46 (up (up (up (M 46) 1 (M 7 1)) 2 (M 7 2)) 3 (M 7 3))) 49 (M 10)) 48 (up (up (up (M 48) 1 (M 9 1)) 2 (M 9 2)) 3 (M 9 3))) 41 (up (M 41) 2 (M 2 2))) 53 J) 51 F) 52 O) 41 ((M 2 2)).toNat) 30)] 88
                rw [show ((up1 (up1 (up1 (up1 (up1 (up1 (up1 (up1 (up1 (up1 (up1 (up1 (up1 (up1 M 42 (swp ((M 3)) s t)) 45 (M 6)) 44 (up (up (up (M 44) 1 (M 5 1)) 2 (M 5 2)) 3 (M 5 3))) 47 (M 8)) 46 (up (up (up (M 46) 1 (M 7 1)) 2 (M 7 2)) 3 (M 7 3))) 49 (M 10)) 48 (up (up (up (M 48) 1 (M 9 1)) 2 (M 9 2)) 3 (M 9 3))) 41 (up (M 41) 2 (M 2 2))) 53 J) 51 F) 52 O) 53 (jnS (up1 (up1 (up1 (up1 (up1 (up1 (up1 (up1 (up1 (up1 (up1 M 42 (swp ((M 3)) s t)) 45 (M 6)) 44 (up (up (up (M 44) 1 (M 5 1)) 2 (M 5 2)) 3 (M 5 3))) 47 (M 8)) 46 (up (up (up (M 46) 1 (M 7 1)) 2 (M 7 2)) 3 (M 7 3))) 49 (M 10)) 48 (up (up (up (M 48) 1 (M 9 1)) 2 (M 9 2)) 3 (M 9 3))) 41 (up (M 41) 2 (M 2 2))) 53 J) 51 F) 52 O) 41 ((M 2 2)).toNat)) 51 F24) 52 O25) : Mem) = (up1 (up1 (up1 (up1 (up1 (up1 (up1 (up1 (up1 (up1 (up1 M 42 (swp ((M 3)) s t)) 45 (M 6)) 44 (up (up (up (M 44) 1 (M 5 1)) 2 (M 5 2)) 3 (M 5 3))) 47 (M 8)) 46 (up (up (up (M 46) 1 (M 7 1)) 2 (M 7 2)) 3 (M 7 3))) 49 (M 10)) 48 (up (up (up (M 48) 1 (M 9 1)) 2 (M 9 2)) 3 (M 9 3))) 41 (up (M 41) 2 (M 2 2))) 53 (jnS (up1 (up1 (up1 (up1 (up1 (up1 (up1 (up1 (up1 (up1 (up1 M 42 (swp ((M 3)) s t)) 45 (M 6)) 44 (up (up (up (M 44) 1 (M 5 1)) 2 (M 5 2)) 3 (M 5 3))) 47 (M 8)) 46 (up (up (up (M 46) 1 (M 7 1)) 2 (M 7 2)) 3 (M 7 3))) 49 (M 10)) 48 (up (up (up (M 48) 1 (M 9 1)) 2 (M 9 2)) 3 (M 9 3))) 41 (up (M 41) 2 (M 2 2))) 53 J) 51 F) 52 O) 41 ((M 2 2)).toNat)) 51 F24) 52 O25) from (by
                      funext j
                      by_cases hj0 : j = 42
                      · subst hj0; simp [up1, up1_self]
                      by_cases hj1 : j = 45
                      · subst hj1; simp [up1, up1_self]
                      by_cases hj2 : j = 44
                      · subst hj2; simp [up1, up1_self]
                      by_cases hj3 : j = 47
                      · subst hj3; simp [up1, up1_self]
                      by_cases hj4 : j = 46
                      · subst hj4; simp [up1, up1_self]
                      by_cases hj5 : j = 49
                      · subst hj5; simp [up1, up1_self]
                      by_cases hj6 : j = 48
                      · subst hj6; simp [up1, up1_self]
                      by_cases hj7 : j = 41
                      · subst hj7; simp [up1, up1_self]
                      by_cases hj8 : j = 53
                      · subst hj8; simp [up1, up1_self]
                      by_cases hj9 : j = 51
                      · subst hj9; simp [up1, up1_self]
                      by_cases hj10 : j = 52
                      · subst hj10; simp [up1, up1_self]
                      simp [up1, hj0, hj1, hj2, hj3, hj4, hj5, hj6, hj7, hj8, hj9, hj10])]
                rw [show ((msr 1 (jnS (up1 (up1 (up1 (up1 (up1 (up1 (up1 (up1 (up1 (up1 (up1 M 42 (swp ((M 3)) s t)) 45 (M 6)) 44 (up (up (up (M 44) 1 (M 5 1)) 2 (M 5 2)) 3 (M 5 3))) 47 (M 8)) 46 (up (up (up (M 46) 1 (M 7 1)) 2 (M 7 2)) 3 (M 7 3))) 49 (M 10)) 48 (up (up (up (M 48) 1 (M 9 1)) 2 (M 9 2)) 3 (M 9 3))) 41 (up (M 41) 2 (M 2 2))) 53 J) 51 F) 52 O) 41 ((M 2 2)).toNat) 30) : Int) = (pkR M (swp (M 3) s t)) from rfl]
                refine v_istore ok [(6, iv (pkR M (swp (M 3) s t))), (0, rf g 0), (1, iv w), (2, iv p), (3, iv q), (4, iv s), (5, iv t)] dX9_exchange_88 (by decide) rfl ?_
                refine v_aload_n ok 1 dX9_exchange_90 rfl rfl ?_
                refine v_get (T := TX9) (N := 9) (f0 := (M 0)) (v := rf g 41) ok mi_X9_exchange_9 (kd_lt (show kd 0 = 9 from rfl) (by decide)) rfl rfl (cellF_9 _ (by decide)) 3 (by decide) mk_X9_exchange_28 rfl rfl dX9_exchange_91 ?_
                refine v_get (T := TX6) (N := 3) (f0 := (up (M 41) 2 (M 2 2))) (v := rf g 42) ok mi_X9_exchange_6 (kd_lt (show kd 41 = 6 from rfl) (by decide)) rfl rfl (cellF_6 _ (by decide)) 0 (by decide) mk_X9_exchange_70 rfl rfl dX9_exchange_94 ?_
                refine v_iload ok 5 dX9_exchange_97 rfl ?_
                refine v_iload ok 6 dX9_exchange_99 rfl ?_
                refine v_callS (na := 3) ok (ct_X9_swap z.2.1 g (up1 (up1 (up1 (up1 (up1 (up1 (up1 (up1 (up1 (up1 (up1 M 42 (swp ((M 3)) s t)) 45 (M 6)) 44 (up (up (up (M 44) 1 (M 5 1)) 2 (M 5 2)) 3 (M 5 3))) 47 (M 8)) 46 (up (up (up (M 46) 1 (M 7 1)) 2 (M 7 2)) 3 (M 7 3))) 49 (M 10)) 48 (up (up (up (M 48) 1 (M 9 1)) 2 (M 9 2)) 3 (M 9 3))) 41 (up (M 41) 2 (M 2 2))) 53 (jnS (up1 (up1 (up1 (up1 (up1 (up1 (up1 (up1 (up1 (up1 (up1 M 42 (swp ((M 3)) s t)) 45 (M 6)) 44 (up (up (up (M 44) 1 (M 5 1)) 2 (M 5 2)) 3 (M 5 3))) 47 (M 8)) 46 (up (up (up (M 46) 1 (M 7 1)) 2 (M 7 2)) 3 (M 7 3))) 49 (M 10)) 48 (up (up (up (M 48) 1 (M 9 1)) 2 (M 9 2)) 3 (M 9 3))) 41 (up (M 41) 2 (M 2 2))) 53 J) 51 F) 52 O) 41 ((M 2 2)).toNat)) 51 F24) 52 O25) s t (by first | omega | assumption) (by first | omega | assumption)) gX9_exchange_X9_swap rfl (by decide +kernel) rfl (by decide) [] rfl (Nat.le_of_ble_eq_true rfl) dX9_exchange_101 (fun v27 M28 hp26 => ?_)
                obtain ⟨rfl, rfl⟩ := hp26
                show V z g 7 (up1 (up1 (up1 (up1 (up1 (up1 (up1 (up1 (up1 (up1 (up1 (up1 M 42 (swp ((M 3)) s t)) 45 (M 6)) 44 (up (up (up (M 44) 1 (M 5 1)) 2 (M 5 2)) 3 (M 5 3))) 47 (M 8)) 46 (up (up (up (M 46) 1 (M 7 1)) 2 (M 7 2)) 3 (M 7 3))) 49 (M 10)) 48 (up (up (up (M 48) 1 (M 9 1)) 2 (M 9 2)) 3 (M 9 3))) 41 (up (M 41) 2 (M 2 2))) 53 (jnS (up1 (up1 (up1 (up1 (up1 (up1 (up1 (up1 (up1 (up1 (up1 M 42 (swp ((M 3)) s t)) 45 (M 6)) 44 (up (up (up (M 44) 1 (M 5 1)) 2 (M 5 2)) 3 (M 5 3))) 47 (M 8)) 46 (up (up (up (M 46) 1 (M 7 1)) 2 (M 7 2)) 3 (M 7 3))) 49 (M 10)) 48 (up (up (up (M 48) 1 (M 9 1)) 2 (M 9 2)) 3 (M 9 3))) 41 (up (M 41) 2 (M 2 2))) 53 J) 51 F) 52 O) 41 ((M 2 2)).toNat)) 51 F24) 52 O25) 42 (swp ((swp ((M 3)) s t)) s t)) [(6, iv (pkR M (swp (M 3) s t))), (0, rf g 0), (1, iv w), (2, iv p), (3, iv q), (4, iv s), (5, iv t)] [] 104
                rw [show ((up1 (up1 (up1 (up1 (up1 (up1 (up1 (up1 (up1 (up1 (up1 (up1 M 42 (swp ((M 3)) s t)) 45 (M 6)) 44 (up (up (up (M 44) 1 (M 5 1)) 2 (M 5 2)) 3 (M 5 3))) 47 (M 8)) 46 (up (up (up (M 46) 1 (M 7 1)) 2 (M 7 2)) 3 (M 7 3))) 49 (M 10)) 48 (up (up (up (M 48) 1 (M 9 1)) 2 (M 9 2)) 3 (M 9 3))) 41 (up (M 41) 2 (M 2 2))) 53 (jnS (up1 (up1 (up1 (up1 (up1 (up1 (up1 (up1 (up1 (up1 (up1 M 42 (swp ((M 3)) s t)) 45 (M 6)) 44 (up (up (up (M 44) 1 (M 5 1)) 2 (M 5 2)) 3 (M 5 3))) 47 (M 8)) 46 (up (up (up (M 46) 1 (M 7 1)) 2 (M 7 2)) 3 (M 7 3))) 49 (M 10)) 48 (up (up (up (M 48) 1 (M 9 1)) 2 (M 9 2)) 3 (M 9 3))) 41 (up (M 41) 2 (M 2 2))) 53 J) 51 F) 52 O) 41 ((M 2 2)).toNat)) 51 F24) 52 O25) 42 (swp ((swp ((M 3)) s t)) s t)) : Mem) = (up1 (up1 (up1 (up1 (up1 (up1 (up1 (up1 (up1 (up1 (up1 M 42 (swp ((swp ((M 3)) s t)) s t)) 45 (M 6)) 44 (up (up (up (M 44) 1 (M 5 1)) 2 (M 5 2)) 3 (M 5 3))) 47 (M 8)) 46 (up (up (up (M 46) 1 (M 7 1)) 2 (M 7 2)) 3 (M 7 3))) 49 (M 10)) 48 (up (up (up (M 48) 1 (M 9 1)) 2 (M 9 2)) 3 (M 9 3))) 41 (up (M 41) 2 (M 2 2))) 53 (jnS (up1 (up1 (up1 (up1 (up1 (up1 (up1 (up1 (up1 (up1 (up1 M 42 (swp ((M 3)) s t)) 45 (M 6)) 44 (up (up (up (M 44) 1 (M 5 1)) 2 (M 5 2)) 3 (M 5 3))) 47 (M 8)) 46 (up (up (up (M 46) 1 (M 7 1)) 2 (M 7 2)) 3 (M 7 3))) 49 (M 10)) 48 (up (up (up (M 48) 1 (M 9 1)) 2 (M 9 2)) 3 (M 9 3))) 41 (up (M 41) 2 (M 2 2))) 53 J) 51 F) 52 O) 41 ((M 2 2)).toNat)) 51 F24) 52 O25) from (by
                      funext j
                      by_cases hj0 : j = 42
                      · subst hj0; simp [up1, up1_self]
                      by_cases hj1 : j = 45
                      · subst hj1; simp [up1, up1_self]
                      by_cases hj2 : j = 44
                      · subst hj2; simp [up1, up1_self]
                      by_cases hj3 : j = 47
                      · subst hj3; simp [up1, up1_self]
                      by_cases hj4 : j = 46
                      · subst hj4; simp [up1, up1_self]
                      by_cases hj5 : j = 49
                      · subst hj5; simp [up1, up1_self]
                      by_cases hj6 : j = 48
                      · subst hj6; simp [up1, up1_self]
                      by_cases hj7 : j = 41
                      · subst hj7; simp [up1, up1_self]
                      by_cases hj8 : j = 53
                      · subst hj8; simp [up1, up1_self]
                      by_cases hj9 : j = 51
                      · subst hj9; simp [up1, up1_self]
                      by_cases hj10 : j = 52
                      · subst hj10; simp [up1, up1_self]
                      simp [up1, hj0, hj1, hj2, hj3, hj4, hj5, hj6, hj7, hj8, hj9, hj10])]
                rw [show ((up1 (up1 (up1 (up1 (up1 (up1 (up1 (up1 (up1 (up1 (up1 M 42 (swp ((swp ((M 3)) s t)) s t)) 45 (M 6)) 44 (up (up (up (M 44) 1 (M 5 1)) 2 (M 5 2)) 3 (M 5 3))) 47 (M 8)) 46 (up (up (up (M 46) 1 (M 7 1)) 2 (M 7 2)) 3 (M 7 3))) 49 (M 10)) 48 (up (up (up (M 48) 1 (M 9 1)) 2 (M 9 2)) 3 (M 9 3))) 41 (up (M 41) 2 (M 2 2))) 53 (jnS (up1 (up1 (up1 (up1 (up1 (up1 (up1 (up1 (up1 (up1 (up1 M 42 (swp ((M 3)) s t)) 45 (M 6)) 44 (up (up (up (M 44) 1 (M 5 1)) 2 (M 5 2)) 3 (M 5 3))) 47 (M 8)) 46 (up (up (up (M 46) 1 (M 7 1)) 2 (M 7 2)) 3 (M 7 3))) 49 (M 10)) 48 (up (up (up (M 48) 1 (M 9 1)) 2 (M 9 2)) 3 (M 9 3))) 41 (up (M 41) 2 (M 2 2))) 53 J) 51 F) 52 O) 41 ((M 2 2)).toNat)) 51 F24) 52 O25) : Mem) = (up1 (up1 (up1 (up1 (up1 (up1 (up1 (up1 (up1 (up1 (up1 M 42 (M 3)) 45 (M 6)) 44 (up (up (up (M 44) 1 (M 5 1)) 2 (M 5 2)) 3 (M 5 3))) 47 (M 8)) 46 (up (up (up (M 46) 1 (M 7 1)) 2 (M 7 2)) 3 (M 7 3))) 49 (M 10)) 48 (up (up (up (M 48) 1 (M 9 1)) 2 (M 9 2)) 3 (M 9 3))) 41 (up (M 41) 2 (M 2 2))) 53 (jnS (up1 (up1 (up1 (up1 (up1 (up1 (up1 (up1 (up1 (up1 (up1 M 42 (swp ((M 3)) s t)) 45 (M 6)) 44 (up (up (up (M 44) 1 (M 5 1)) 2 (M 5 2)) 3 (M 5 3))) 47 (M 8)) 46 (up (up (up (M 46) 1 (M 7 1)) 2 (M 7 2)) 3 (M 7 3))) 49 (M 10)) 48 (up (up (up (M 48) 1 (M 9 1)) 2 (M 9 2)) 3 (M 9 3))) 41 (up (M 41) 2 (M 2 2))) 53 J) 51 F) 52 O) 41 ((M 2 2)).toNat)) 51 F24) 52 O25) from (by rw [swp_swp (show s ≠ t by omega)])]
                refine v_iload ok 0 dX9_exchange_104 rfl ?_
                refine v_iload_n ok 3 dX9_exchange_106 rfl rfl ?_
                refine v_icmp_ge (tgt := 122) ok ⟨by omega, by omega⟩ ⟨by omega, by omega⟩ dX9_exchange_107 (by decide) (fun c29 => ?_) (fun c29 => ?_)
                · skip
                  have hb1 : (p, q) = exI (fun s t => pkR M (swp (M 3) s t)) s (exO (fun s t => pkR M (swp (M 3) s t)) (pkR M (M 3)) s.toNat) (t + 1 - s - 1).toNat := by
                    rw [exI_s i56_0.1, ← i56_1]
                    unfold stp
                    rw [if_neg (by show ¬ pkR M (swp (M 3) s t) < p; omega)]
                  refine v_iinc ok 6 [(5, iv (t + 1)), (6, iv (pkR M (swp (M 3) s t))), (0, rf g 0), (1, iv w), (2, iv p), (3, iv q), (4, iv s)] dX9_exchange_122 rfl (by decide) rfl ?_
                  refine v_goto (tgt := 56) ok dX9_exchange_125 (by decide) ?_
                  refine v_lv (ls' := [(0, rf g 0), (1, iv w), (2, iv p), (3, iv q), (4, iv s), (5, iv (t + 1))]) ok [2, 3, 4, 5, 6, 0] rfl ?_
                  exact ih56 (t + 1) p q 0 (jnS (up1 (up1 (up1 (up1 (up1 (up1 (up1 (up1 (up1 (up1 (up1 M 42 (swp ((M 3)) s t)) 45 (M 6)) 44 (up (up (up (M 44) 1 (M 5 1)) 2 (M 5 2)) 3 (M 5 3))) 47 (M 8)) 46 (up (up (up (M 46) 1 (M 7 1)) 2 (M 7 2)) 3 (M 7 3))) 49 (M 10)) 48 (up (up (up (M 48) 1 (M 9 1)) 2 (M 9 2)) 3 (M 9 3))) 41 (up (M 41) 2 (M 2 2))) 53 J) 51 F) 52 O) 41 ((M 2 2)).toNat) F24 O25 (by omega) hb1 (by omega) (by omega)
                · skip
                  have hb1 : (pkR M (swp (M 3) s t), 10 * s + t) = exI (fun s t => pkR M (swp (M 3) s t)) s (exO (fun s t => pkR M (swp (M 3) s t)) (pkR M (M 3)) s.toNat) (t + 1 - s - 1).toNat := by
                    rw [exI_s i56_0.1, ← i56_1]
                    unfold stp
                    rw [if_pos (by show pkR M (swp (M 3) s t) < p; omega)]
                  refine v_iload ok 0 dX9_exchange_110 rfl ?_
                  refine v_istore_n ok [(2, iv (pkR M (swp (M 3) s t))), (6, iv (pkR M (swp (M 3) s t))), (0, rf g 0), (1, iv w), (3, iv q), (4, iv s), (5, iv t)] dX9_exchange_112 rfl (by decide) rfl ?_
                  refine v_bipush (n := 10) ok rfl dX9_exchange_113 ?_
                  refine v_iload ok 5 dX9_exchange_115 rfl ?_
                  refine v_imul ok dX9_exchange_117 ?_
                  refine v_iload ok 6 dX9_exchange_118 rfl ?_
                  refine v_iadd ok dX9_exchange_120 ?_
                  refine v_istore_n ok [(3, iv ((10 * s) + t)), (2, iv (pkR M (swp (M 3) s t))), (6, iv (pkR M (swp (M 3) s t))), (0, rf g 0), (1, iv w), (4, iv s), (5, iv t)] dX9_exchange_121 rfl (by decide) rfl ?_
                  refine v_iinc ok 6 [(5, iv (t + 1)), (3, iv ((10 * s) + t)), (2, iv (pkR M (swp (M 3) s t))), (6, iv (pkR M (swp (M 3) s t))), (0, rf g 0), (1, iv w), (4, iv s)] dX9_exchange_122 rfl (by decide) rfl ?_
                  refine v_goto (tgt := 56) ok dX9_exchange_125 (by decide) ?_
                  refine v_lv (ls' := [(0, rf g 0), (1, iv w), (2, iv (pkR M (swp (M 3) s t))), (3, iv ((10 * s) + t)), (4, iv s), (5, iv (t + 1))]) ok [4, 5, 2, 1, 6, 0] rfl ?_
                  exact ih56 (t + 1) (pkR M (swp (M 3) s t)) ((10 * s) + t) 0 (jnS (up1 (up1 (up1 (up1 (up1 (up1 (up1 (up1 (up1 (up1 (up1 M 42 (swp ((M 3)) s t)) 45 (M 6)) 44 (up (up (up (M 44) 1 (M 5 1)) 2 (M 5 2)) 3 (M 5 3))) 47 (M 8)) 46 (up (up (up (M 46) 1 (M 7 1)) 2 (M 7 2)) 3 (M 7 3))) 49 (M 10)) 48 (up (up (up (M 48) 1 (M 9 1)) 2 (M 9 2)) 3 (M 9 3))) 41 (up (M 41) 2 (M 2 2))) 53 J) 51 F) 52 O) 41 ((M 2 2)).toNat) F24 O25 (by omega) hb1 (by omega) (by omega)
          refine v_lv (ls' := [(0, rf g 0), (1, iv w), (2, iv p), (3, iv q), (4, iv s), (5, iv (s + 1))]) ok [1, 2, 3, 4, 5, 0] rfl ?_
          exact lp56 _ (s + 1) p q 0 J F O (by omega) (by rw [show (s + 1 - s - 1).toNat = 0 by omega]; exact i43_1) i43_2 (Nat.lt_succ_self _)
    refine v_lv (ls' := [(0, rf g 0), (1, iv w), (2, iv (pkR M (M 3))), (3, iv (-5)), (4, iv 0)]) ok [3, 4, 2, 1, 0] rfl ?_
    rw [show ((up1 (up1 (up1 (up1 (up1 (up1 (up1 (up1 (up1 (up1 (up1 M 42 ((M 3))) 45 ((M 6))) 44 (up (up (up ((M 44)) 1 ((M 5) 1)) 2 ((M 5) 2)) 3 ((M 5) 3))) 47 ((M 8))) 46 (up (up (up ((M 46)) 1 ((M 7) 1)) 2 ((M 7) 2)) 3 ((M 7) 3))) 49 ((M 10))) 48 (up (up (up ((M 48)) 1 ((M 9) 1)) 2 ((M 9) 2)) 3 ((M 9) 3))) 41 (up ((M 41)) 2 ((M 2) 2))) 53 (jnS (up1 (up1 (up1 (up1 (up1 (up1 (up1 (up1 M 42 ((M 3))) 45 ((M 6))) 44 (up (up (up ((M 44)) 1 ((M 5) 1)) 2 ((M 5) 2)) 3 ((M 5) 3))) 47 ((M 8))) 46 (up (up (up ((M 46)) 1 ((M 7) 1)) 2 ((M 7) 2)) 3 ((M 7) 3))) 49 ((M 10))) 48 (up (up (up ((M 48)) 1 ((M 9) 1)) 2 ((M 9) 2)) 3 ((M 9) 3))) 41 (up ((M 41)) 2 ((M 2) 2))) 41 (((M 2) 2)).toNat)) 51 F13) 52 O14) : Mem) = (up1 (up1 (up1 (up1 (up1 (up1 (up1 (up1 (up1 (up1 (up1 M 42 (M 3)) 45 (M 6)) 44 (up (up (up (M 44) 1 (M 5 1)) 2 (M 5 2)) 3 (M 5 3))) 47 (M 8)) 46 (up (up (up (M 46) 1 (M 7 1)) 2 (M 7 2)) 3 (M 7 3))) 49 (M 10)) 48 (up (up (up (M 48) 1 (M 9 1)) 2 (M 9 2)) 3 (M 9 3))) 41 (up (M 41) 2 (M 2 2))) 53 (jnS (up1 (up1 (up1 (up1 (up1 (up1 (up1 (up1 M 42 ((M 3))) 45 ((M 6))) 44 (up (up (up ((M 44)) 1 ((M 5) 1)) 2 ((M 5) 2)) 3 ((M 5) 3))) 47 ((M 8))) 46 (up (up (up ((M 46)) 1 ((M 7) 1)) 2 ((M 7) 2)) 3 ((M 7) 3))) 49 ((M 10))) 48 (up (up (up ((M 48)) 1 ((M 9) 1)) 2 ((M 9) 2)) 3 ((M 9) 3))) 41 (up ((M 41)) 2 ((M 2) 2))) 41 (((M 2) 2)).toNat)) 51 F13) 52 O14) from (by
          funext j
          by_cases hj0 : j = 42
          · subst hj0; simp [up1, up1_self]
          by_cases hj1 : j = 45
          · subst hj1; simp [up1, up1_self]
          by_cases hj2 : j = 44
          · subst hj2; simp [up1, up1_self]
          by_cases hj3 : j = 47
          · subst hj3; simp [up1, up1_self]
          by_cases hj4 : j = 46
          · subst hj4; simp [up1, up1_self]
          by_cases hj5 : j = 49
          · subst hj5; simp [up1, up1_self]
          by_cases hj6 : j = 48
          · subst hj6; simp [up1, up1_self]
          by_cases hj7 : j = 41
          · subst hj7; simp [up1, up1_self]
          by_cases hj8 : j = 53
          · subst hj8; simp [up1, up1_self]
          by_cases hj9 : j = 51
          · subst hj9; simp [up1, up1_self]
          by_cases hj10 : j = 52
          · subst hj10; simp [up1, up1_self]
          simp [up1, hj0, hj1, hj2, hj3, hj4, hj5, hj6, hj7, hj8, hj9, hj10])]
    exact lp43 _ 0 (pkR M (M 3)) (-5) (jnS (up1 (up1 (up1 (up1 (up1 (up1 (up1 (up1 M 42 ((M 3))) 45 ((M 6))) 44 (up (up (up ((M 44)) 1 ((M 5) 1)) 2 ((M 5) 2)) 3 ((M 5) 3))) 47 ((M 8))) 46 (up (up (up ((M 46)) 1 ((M 7) 1)) 2 ((M 7) 2)) 3 ((M 7) 3))) 49 ((M 10))) 48 (up (up (up ((M 48)) 1 ((M 9) 1)) 2 ((M 9) 2)) 3 ((M 9) 3))) 41 (up ((M 41)) 2 ((M 2) 2))) 41 (((M 2) 2)).toNat) F13 O14 (by omega) rfl (pkR_rng hs hR) (Nat.lt_succ_self _)
  · skip
    subst M3
    show V z g 7 M [(0, rf g 0), (1, iv w)] [iv 0] 6
    refine v_if_ne (tgt := 11) ok (by decide) dX9_exchange_6 (by decide) (fun c30 => absurd c30 (by decide)) (fun c30 => ?_)
    refine v_iconst (n := -1) ok dX9_exchange_9 ?_
    exact v_iret ok rt dX9_exchange_10 (Or.inl (⟨rfl, rfl, (by omega)⟩))
