theorem mk_X9_odds_28 : Cond.fieldLink RX9 28 "StormRunoff" "trial" "LStormRunoff$Site;" ∈ wsX9_odds := by decide +kernel
theorem mi_X9_odds_9 : ∀ w ∈ wsX90, w ∈ wsX9_odds := by decide +kernel
theorem mk_X9_odds_12 : Cond.fieldLink RX9 12 "StormRunoff" "now" "LStormRunoff$State;" ∈ wsX9_odds := by decide +kernel
theorem mk_X9_odds_67 : Cond.fieldLink RX9 67 "StormRunoff$State" "site" "LStormRunoff$Site;" ∈ wsX9_odds := by decide +kernel
theorem mi_X9_odds_7 : ∀ w ∈ wsX70, w ∈ wsX9_odds := by decide +kernel
theorem mk_X9_odds_70 : Cond.fieldLink RX9 70 "StormRunoff$Site" "rain" "[I" ∈ wsX9_odds := by decide +kernel
theorem mi_X9_odds_6 : ∀ w ∈ wsX60, w ∈ wsX9_odds := by decide +kernel
theorem mk_X9_odds_35 : Cond.fieldLink RX9 35 "StormRunoff" "course" "LStormRunoff$Course;" ∈ wsX9_odds := by decide +kernel
theorem mk_X9_odds_205 : Cond.constantLong RX9 205 (-9223372036854775808) ∈ wsX9_odds := by decide +kernel
set_option maxRecDepth 100000 in
set_option maxHeartbeats 400000 in
theorem ct_X9_odds (l : Launch) (g : Gl) (M : Mem) (h lim p : Int) (hh : i32 h) (hlim : i32 lim) (hp : i32 p) (hs : SiteOk M 2) : Ct l g yX9_odds wsX9_odds 6 132 [rf g 0, iv h, iv lim, iv p] M (fun rv M' => (rv = some (jv (-9223372036854775808)) ∧ M' = M ∧ (¬ (0 ≤ h ∧ h ≤ 7) ∨ ¬ (0 ≤ lim ∧ lim ≤ 9999))) ∨ (∃ (A0 A1 A2 A3 A4 A5 A6 A7 A8 A9 A10 : Int → Int), rv = some (jv (-9223372036854775808)) ∧ M' = (up1 (up1 (up1 (up1 (up1 (up1 (up1 (up1 (up1 (up1 (up1 M 42 A0) 45 A1) 44 A2) 47 A3) 46 A4) 49 A5) 48 A6) 41 A7) 53 A8) 51 A9) 52 A10) ∧ (0 ≤ h ∧ h ≤ 7) ∧ (0 ≤ lim ∧ lim ≤ 9999) ∧ (¬ (0 ≤ p ∧ p ≤ 1))) ∨ (∃ (A0 A1 A2 A3 A4 A5 A6 A7 A8 A9 A10 : Int → Int), rv = some (jv ((if p = 0 then oda (fun v => pkR M (up (M 3) h v)) lim 21 else 21) / gcdI 21 (oda (fun v => pkR M (up (M 3) h v)) lim 21))) ∧ M' = (up1 (up1 (up1 (up1 (up1 (up1 (up1 (up1 (up1 (up1 (up1 M 42 A0) 45 A1) 44 A2) 47 A3) 46 A4) 49 A5) 48 A6) 41 A7) 53 A8) 51 A9) 52 A10) ∧ (0 ≤ h ∧ h ≤ 7) ∧ (0 ≤ lim ∧ lim ≤ 9999) ∧ (0 ≤ p ∧ p ≤ 1))) := by
  refine Ct.of (cc := cX9_odds) (nL := 6) (ret := (some .long)) (by decide) rfl (Nat.le_of_ble_eq_true rfl) (fun z hz ok rt => ?_)
  have ok : Ok z g cX9_odds 6 RX9 wsX9_odds 6 132 := ok
  show V z g 6 M [(0, rf g 0), (1, iv h), (2, iv lim), (3, iv p)] [] 0
  have hR : bdf (M 3) 8 0 20 := hs.1
  have hm : 0 ≤ M 2 2 ∧ M 2 2 ≤ 3 := hs.2.1
  have hA0 : bdf (M 6) 5 0 9 := hs.2.2.1.1
  have hk0 : 0 ≤ M 5 2 ∧ M 5 2 ≤ 4 := hs.2.2.1.2.2.1
  have hn0 : 0 ≤ M 5 3 ∧ M 5 3 ≤ 9 := hs.2.2.1.2.2.2
  have hA1 : bdf (M 8) 5 0 9 := hs.2.2.2.1.1
  have hk1 : 0 ≤ M 7 2 ∧ M 7 2 ≤ 4 := hs.2.2.2.1.2.2.1
  have hn1 : 0 ≤ M 7 3 ∧ M 7 3 ≤ 9 := hs.2.2.2.1.2.2.2
  have hA2 : bdf (M 10) 5 0 9 := hs.2.2.2.2.1
  have hk2 : 0 ≤ M 9 2 ∧ M 9 2 ≤ 4 := hs.2.2.2.2.2.2.1
  have hn2 : 0 ≤ M 9 3 ∧ M 9 3 ≤ 9 := hs.2.2.2.2.2.2.2
  refine v_iload_n ok 1 dX9_odds_0 rfl rfl ?_
  refine v_iconst (n := 0) ok dX9_odds_1 ?_
  refine v_bipush (n := 7) ok rfl dX9_odds_2 ?_
  refine v_callS (na := 3) ok (ct_X9_between z.2.1 g M h 0 7 ⟨by omega, by omega⟩ (by decide) (by decide)) gX9_odds_X9_between rfl (by decide +kernel) rfl (by decide) [] rfl (Nat.le_of_ble_eq_true rfl) dX9_odds_4 (fun v2 M3 hp1 => ?_)
  rcases hp1 with ⟨rfl, eM3, h4⟩ | ⟨rfl, eM3, h5⟩
  · skip
    subst M3
    show V z g 6 M [(0, rf g 0), (1, iv h), (2, iv lim), (3, iv p)] [iv 1] 7
    refine v_if_eq (tgt := 21) ok (by decide) dX9_odds_7 (by decide) (fun c6 => absurd c6 (by decide)) (fun c6 => ?_)
    refine v_iload_n ok 2 dX9_odds_10 rfl rfl ?_
    refine v_iconst (n := 0) ok dX9_odds_11 ?_
    refine v_sipush (n := 9999) ok rfl dX9_odds_12 ?_
    refine v_callS (na := 3) ok (ct_X9_between z.2.1 g M lim 0 9999 ⟨by omega, by omega⟩ (by decide) (by decide)) gX9_odds_X9_between rfl (by decide +kernel) rfl (by decide) [] rfl (Nat.le_of_ble_eq_true rfl) dX9_odds_15 (fun v8 M9 hp7 => ?_)
    rcases hp7 with ⟨rfl, eM9, h10⟩ | ⟨rfl, eM9, h11⟩
    · skip
      subst M9
      show V z g 6 M [(0, rf g 0), (1, iv h), (2, iv lim), (3, iv p)] [iv 1] 18
      refine v_if_ne (tgt := 25) ok (by decide) dX9_odds_18 (by decide) (fun c12 => ?_) (fun c12 => absurd c12 (by decide))
      refine v_iconst (n := 0) ok dX9_odds_25 ?_
      refine v_istore ok [(4, iv 0), (0, rf g 0), (1, iv h), (2, iv lim), (3, iv p)] dX9_odds_26 (by decide) rfl ?_
      refine v_aload_n ok 1 dX9_odds_28 rfl rfl ?_
      refine v_get (T := TX9) (N := 9) (f0 := (M 0)) (v := rf g 41) ok mi_X9_odds_9 (kd_lt (show kd 0 = 9 from rfl) (by decide)) rfl rfl (cellF_9 _ (by decide)) 3 (by decide) mk_X9_odds_28 rfl rfl dX9_odds_29 ?_
      refine v_aload_n ok 1 dX9_odds_32 rfl rfl ?_
      refine v_get (T := TX9) (N := 9) (f0 := (M 0)) (v := rf g 1) ok mi_X9_odds_9 (kd_lt (show kd 0 = 9 from rfl) (by decide)) rfl rfl (cellF_9 _ (by decide)) 0 (by decide) mk_X9_odds_12 rfl rfl dX9_odds_33 ?_
      refine v_get (T := TX7) (N := 5) (f0 := (M 1)) (v := rf g 2) ok mi_X9_odds_7 (kd_lt (show kd 1 = 7 from rfl) (by decide)) rfl rfl (cellF_7 _ (by decide)) 0 (by decide) mk_X9_odds_67 rfl rfl dX9_odds_36 ?_
      refine v_callV (na := 1) (i := 41) (C := RX6) (T := TX6) (N := 3) (f0 := (M 41)) ok (ct_X6_become_41_2 z.2.1 g M  ) gX9_odds_X6_become (kd_lt (show kd 41 = 6 from rfl) (by decide)) rfl rfl (cellF_6 _ (by decide)) rfl (by decide +kernel) rfl (by decide) [] rfl (Nat.le_of_ble_eq_true rfl) dX9_odds_39 (fun v14 M15 hp13 => ?_)
      obtain ⟨rfl, rfl⟩ := hp13
      show V z g 6 (up1 (up1 (up1 (up1 (up1 (up1 (up1 (up1 M 42 ((M 3))) 45 ((M 6))) 44 (up (up (up ((M 44)) 1 ((M 5) 1)) 2 ((M 5) 2)) 3 ((M 5) 3))) 47 ((M 8))) 46 (up (up (up ((M 46)) 1 ((M 7) 1)) 2 ((M 7) 2)) 3 ((M 7) 3))) 49 ((M 10))) 48 (up (up (up ((M 48)) 1 ((M 9) 1)) 2 ((M 9) 2)) 3 ((M 9) 3))) 41 (up ((M 41)) 2 ((M 2) 2))) [(4, iv 0), (0, rf g 0), (1, iv h), (2, iv lim), (3, iv p)] [] 42
      refine v_iconst (n := 0) ok dX9_odds_42 ?_
      refine v_istore ok [(5, iv 0), (4, iv 0), (0, rf g 0), (1, iv h), (2, iv lim), (3, iv p)] dX9_odds_43 (by decide) rfl ?_
      have lp45 : ∀ (fu : Nat) (v n : Int) (G J F O : Int → Int), (0 ≤ v ∧ v ≤ 21) → (n = oda (fun v => pkR M (up (M 3) h v)) lim v.toNat) → (∀ v : Int, up G h v = up (M 3) h v) → (21 - v).toNat < fu → V z g 6 (up1 (up1 (up1 (up1 (up1 (up1 (up1 (up1 (up1 (up1 (up1 M 42 G) 45 (M 6)) 44 (up (up (up (M 44) 1 (M 5 1)) 2 (M 5 2)) 3 (M 5 3))) 47 (M 8)) 46 (up (up (up (M 46) 1 (M 7 1)) 2 (M 7 2)) 3 (M 7 3))) 49 (M 10)) 48 (up (up (up (M 48) 1 (M 9 1)) 2 (M 9 2)) 3 (M 9 3))) 41 (up (M 41) 2 (M 2 2))) 53 J) 51 F) 52 O) [(0, rf g 0), (1, iv h), (2, iv lim), (3, iv p), (4, iv n), (5, iv v)] [] 45 := by
        intro fu
        induction fu with
        | zero => intro v n G J F O _ _ _ hm; exact absurd hm (Nat.not_lt_zero _)
        | succ fu ih45 =>
          intro v n G J F O i45_0 i45_1 i45_2 hm45
          have hor := oda_rng (fun v => pkR M (up (M 3) h v)) lim v.toNat
          refine v_iload ok 5 dX9_odds_45 rfl ?_
          refine v_bipush (n := 20) ok rfl dX9_odds_47 ?_
          refine v_icmp_gt (tgt := 87) ok ⟨by omega, by omega⟩ (by decide) dX9_odds_49 (by decide) (fun c16 => ?_) (fun c16 => ?_)
          · skip
            have e21 : v.toNat = 21 := by omega
            rw [e21] at i45_1
            rw [show (n : Int) = (oda (fun v => pkR M (up (M 3) h v)) lim 21) from i45_1]
            have hor2 := oda_rng (fun v => pkR M (up (M 3) h v)) lim 21
            refine v_iload ok 4 dX9_odds_87 rfl ?_
            refine v_bipush (n := 21) ok rfl dX9_odds_89 ?_
            refine v_iload_n ok 3 dX9_odds_91 rfl rfl ?_
            refine v_callS (na := 3) ok (ct_X9_inLowestTerms z.2.1 g (up1 (up1 (up1 (up1 (up1 (up1 (up1 (up1 (up1 (up1 (up1 M 42 G) 45 (M 6)) 44 (up (up (up (M 44) 1 (M 5 1)) 2 (M 5 2)) 3 (M 5 3))) 47 (M 8)) 46 (up (up (up (M 46) 1 (M 7 1)) 2 (M 7 2)) 3 (M 7 3))) 49 (M 10)) 48 (up (up (up (M 48) 1 (M 9 1)) 2 (M 9 2)) 3 (M 9 3))) 41 (up (M 41) 2 (M 2 2))) 53 J) 51 F) 52 O) (oda (fun v => pkR M (up (M 3) h v)) lim 21) 21 p (by first | omega | assumption) (by first | omega | assumption) ⟨by omega, by omega⟩) gX9_odds_X9_inLowestTerms rfl (by decide +kernel) rfl (by decide) [] rfl (Nat.le_of_ble_eq_true rfl) dX9_odds_92 (fun v18 M19 hp17 => ?_)
            rcases hp17 with ⟨rfl, rfl, h20⟩ | ⟨rfl, rfl, h21, h22⟩
            · skip
              show V z g 6 (up1 (up1 (up1 (up1 (up1 (up1 (up1 (up1 (up1 (up1 (up1 M 42 G) 45 (M 6)) 44 (up (up (up (M 44) 1 (M 5 1)) 2 (M 5 2)) 3 (M 5 3))) 47 (M 8)) 46 (up (up (up (M 46) 1 (M 7 1)) 2 (M 7 2)) 3 (M 7 3))) 49 (M 10)) 48 (up (up (up (M 48) 1 (M 9 1)) 2 (M 9 2)) 3 (M 9 3))) 41 (up (M 41) 2 (M 2 2))) 53 J) 51 F) 52 O) [(0, rf g 0), (1, iv h), (2, iv lim), (3, iv p), (4, iv (oda (fun v => pkR M (up (M 3) h v)) lim 21)), (5, iv v)] [jv (-9223372036854775808)] 95
              exact v_lret ok rt dX9_odds_95 (Or.inr (Or.inl (⟨G, (M 6), (up (up (up (M 44) 1 (M 5 1)) 2 (M 5 2)) 3 (M 5 3)), (M 8), (up (up (up (M 46) 1 (M 7 1)) 2 (M 7 2)) 3 (M 7 3)), (M 10), (up (up (up (M 48) 1 (M 9 1)) 2 (M 9 2)) 3 (M 9 3)), (up (M 41) 2 (M 2 2)), J, F, O, rfl, rfl, (by omega), (by omega), (by omega)⟩)))
            · skip
              show V z g 6 (up1 (up1 (up1 (up1 (up1 (up1 (up1 (up1 (up1 (up1 (up1 M 42 G) 45 (M 6)) 44 (up (up (up (M 44) 1 (M 5 1)) 2 (M 5 2)) 3 (M 5 3))) 47 (M 8)) 46 (up (up (up (M 46) 1 (M 7 1)) 2 (M 7 2)) 3 (M 7 3))) 49 (M 10)) 48 (up (up (up (M 48) 1 (M 9 1)) 2 (M 9 2)) 3 (M 9 3))) 41 (up (M 41) 2 (M 2 2))) 53 J) 51 F) 52 O) [(0, rf g 0), (1, iv h), (2, iv lim), (3, iv p), (4, iv (oda (fun v => pkR M (up (M 3) h v)) lim 21)), (5, iv v)] [jv ((if p = 0 then (oda (fun v => pkR M (up (M 3) h v)) lim 21) else 21) / gcdI 21 (oda (fun v => pkR M (up (M 3) h v)) lim 21))] 95
              exact v_lret ok rt dX9_odds_95 (Or.inr (Or.inr (⟨G, (M 6), (up (up (up (M 44) 1 (M 5 1)) 2 (M 5 2)) 3 (M 5 3)), (M 8), (up (up (up (M 46) 1 (M 7 1)) 2 (M 7 2)) 3 (M 7 3)), (M 10), (up (up (up (M 48) 1 (M 9 1)) 2 (M 9 2)) 3 (M 9 3)), (up (M 41) 2 (M 2 2)), J, F, O, (congrArg (fun q : Int => some (jv q)) (show ((if p = 0 then (oda (fun v => pkR M (up (M 3) h v)) lim 21) else 21) / gcdI 21 (oda (fun v => pkR M (up (M 3) h v)) lim 21)) = ((if p = 0 then oda (fun v => pkR M (up (M 3) h v)) lim 21 else 21) / gcdI 21 (oda (fun v => pkR M (up (M 3) h v)) lim 21)) from by rfl)), rfl, (by omega), (by omega), (by omega)⟩)))
          · skip
            refine v_aload_n ok 0 dX9_odds_52 rfl rfl ?_
            refine v_get (T := TX9) (N := 9) (f0 := (M 0)) (v := rf g 41) ok mi_X9_odds_9 (kd_lt (show kd 0 = 9 from rfl) (by decide)) rfl rfl (cellF_9 _ (by decide)) 3 (by decide) mk_X9_odds_28 rfl rfl dX9_odds_53 ?_
            refine v_get (T := TX6) (N := 3) (f0 := (up (M 41) 2 (M 2 2))) (v := rf g 42) ok mi_X9_odds_6 (kd_lt (show kd 41 = 6 from rfl) (by decide)) rfl rfl (cellF_6 _ (by decide)) 0 (by decide) mk_X9_odds_70 rfl rfl dX9_odds_56 ?_
            refine v_iload_n ok 1 dX9_odds_59 rfl rfl ?_
            refine v_iload ok 5 dX9_odds_60 rfl ?_
            refine v_iast (n := 8) (f0 := G) ok (by decide) rfl (by omega) rfl dX9_odds_62 ?_
            rw [show (up1 (up1 (up1 (up1 (up1 (up1 (up1 (up1 (up1 (up1 (up1 (up1 M 42 G) 45 (M 6)) 44 (up (up (up (M 44) 1 (M 5 1)) 2 (M 5 2)) 3 (M 5 3))) 47 (M 8)) 46 (up (up (up (M 46) 1 (M 7 1)) 2 (M 7 2)) 3 (M 7 3))) 49 (M 10)) 48 (up (up (up (M 48) 1 (M 9 1)) 2 (M 9 2)) 3 (M 9 3))) 41 (up (M 41) 2 (M 2 2))) 53 J) 51 F) 52 O) 42 (up G h v) : Mem) = (up1 (up1 (up1 (up1 (up1 (up1 (up1 (up1 (up1 (up1 (up1 M 42 (up G h v)) 45 (M 6)) 44 (up (up (up (M 44) 1 (M 5 1)) 2 (M 5 2)) 3 (M 5 3))) 47 (M 8)) 46 (up (up (up (M 46) 1 (M 7 1)) 2 (M 7 2)) 3 (M 7 3))) 49 (M 10)) 48 (up (up (up (M 48) 1 (M 9 1)) 2 (M 9 2)) 3 (M 9 3))) 41 (up (M 41) 2 (M 2 2))) 53 J) 51 F) 52 O) from (by
                  funext j
                  by_cases hj0 : j = 42
                  · subst hj0; simp [up1, up1_self]
                  by_cases hj1 : j = 45
                  · subst hj1; simp [up1, up1_self]
                  by_cases hj2 : j = 44
                  · subst hj2; simp [up1, up1_self]
                  by_cases hj3 : j = 47
                  · subst hj3; simp [up1, up1_self]
                  by_cases hj4 : j = 46
                  · subst hj4; simp [up1, up1_self]
                  by_cases hj5 : j = 49
                  · subst hj5; simp [up1, up1_self]
                  by_cases hj6 : j = 48
                  · subst hj6; simp [up1, up1_self]
                  by_cases hj7 : j = 41
                  · subst hj7; simp [up1, up1_self]
                  by_cases hj8 : j = 53
                  · subst hj8; simp [up1, up1_self]
                  by_cases hj9 : j = 51
                  · subst hj9; simp [up1, up1_self]
                  by_cases hj10 : j = 52
                  · subst hj10; simp [up1, up1_self]
                  simp [up1, hj0, hj1, hj2, hj3, hj4, hj5, hj6, hj7, hj8, hj9, hj10])]
            rw [show ((up1 (up1 (up1 (up1 (up1 (up1 (up1 (up1 (up1 (up1 (up1 M 42 (up G h v)) 45 (M 6)) 44 (up (up (up (M 44) 1 (M 5 1)) 2 (M 5 2)) 3 (M 5 3))) 47 (M 8)) 46 (up (up (up (M 46) 1 (M 7 1)) 2 (M 7 2)) 3 (M 7 3))) 49 (M 10)) 48 (up (up (up (M 48) 1 (M 9 1)) 2 (M 9 2)) 3 (M 9 3))) 41 (up (M 41) 2 (M 2 2))) 53 J) 51 F) 52 O) : Mem) = (up1 (up1 (up1 (up1 (up1 (up1 (up1 (up1 (up1 (up1 (up1 M 42 (up (M 3) h v)) 45 (M 6)) 44 (up (up (up (M 44) 1 (M 5 1)) 2 (M 5 2)) 3 (M 5 3))) 47 (M 8)) 46 (up (up (up (M 46) 1 (M 7 1)) 2 (M 7 2)) 3 (M 7 3))) 49 (M 10)) 48 (up (up (up (M 48) 1 (M 9 1)) 2 (M 9 2)) 3 (M 9 3))) 41 (up (M 41) 2 (M 2 2))) 53 J) 51 F) 52 O) from (by rw [i45_2])]
            have hso : SiteOk (up1 (up1 (up1 (up1 (up1 (up1 (up1 (up1 (up1 (up1 (up1 M 42 (up (M 3) h v)) 45 (M 6)) 44 (up (up (up (M 44) 1 (M 5 1)) 2 (M 5 2)) 3 (M 5 3))) 47 (M 8)) 46 (up (up (up (M 46) 1 (M 7 1)) 2 (M 7 2)) 3 (M 7 3))) 49 (M 10)) 48 (up (up (up (M 48) 1 (M 9 1)) 2 (M 9 2)) 3 (M 9 3))) 41 (up (M 41) 2 (M 2 2))) 53 J) 51 F) 52 O) 41 := And.intro (bdf_up hR (by omega) (by omega)) hs.2
            have hpk := pkR_rng (R := up (M 3) h v) hs (bdf_up hR (by omega) (by omega))
            refine v_aload_n ok 0 dX9_odds_63 rfl rfl ?_
            refine v_get (T := TX9) (N := 9) (f0 := (M 0)) (v := rf g 50) ok mi_X9_odds_9 (kd_lt (show kd 0 = 9 from rfl) (by decide)) rfl rfl (cellF_9 _ (by decide)) 4 (by decide) mk_X9_odds_35 rfl rfl dX9_odds_64 ?_
            refine v_aload_n ok 0 dX9_odds_67 rfl rfl ?_
            refine v_get (T := TX9) (N := 9) (f0 := (M 0)) (v := rf g 41) ok mi_X9_odds_9 (kd_lt (show kd 0 = 9 from rfl) (by decide)) rfl rfl (cellF_9 _ (by decide)) 3 (by decide) mk_X9_odds_28 rfl rfl dX9_odds_68 ?_
            refine v_callV (na := 1) (i := 50) (C := RX1) (T := TX1) (N := 3) (f0 := (M 50)) ok (ct_X1_peakOf_41 z.2.1 g (up1 (up1 (up1 (up1 (up1 (up1 (up1 (up1 (up1 (up1 (up1 M 42 (up (M 3) h v)) 45 (M 6)) 44 (up (up (up (M 44) 1 (M 5 1)) 2 (M 5 2)) 3 (M 5 3))) 47 (M 8)) 46 (up (up (up (M 46) 1 (M 7 1)) 2 (M 7 2)) 3 (M 7 3))) 49 (M 10)) 48 (up (up (up (M 48) 1 (M 9 1)) 2 (M 9 2)) 3 (M 9 3))) 41 (up (M 41) 2 (M 2 2))) 53 J) 51 F) 52 O)  hso) gX9_odds_X1_peakOf (kd_lt (show kd 50 = 1 from rfl) (by decide)) rfl rfl (cellF_1 _ (by decide)) rfl (by decide +kernel) rfl (by decide) [] rfl (Nat.le_of_ble_eq_true rfl) dX9_odds_71 (fun v24 M25 hp23 => ?_)
            obtain ⟨F26, O27, rfl, rfl⟩ := hp23
            show V z g 6 (up1 (up1 (up1 (up1 (up1 (up1 (up1 (up1 (up1 (up1 (up1 (up1 (up1 (up1 M 42 (up (M 3) h v)) 45 (M 6)) 44 (up (up (up (M 44) 1 (M 5 1)) 2 (M 5 2)) 3 (M 5 3))) 47 (M 8)) 46 (up (up (up (M 46) 1 (M 7 1)) 2 (M 7 2)) 3 (M 7 3))) 49 (M 10)) 48 (up (up (up (M 48) 1 (M 9 1)) 2 (M 9 2)) 3 (M 9 3))) 41 (up (M 41) 2 (M 2 2))) 53 J) 51 F) 52 O) 53 (jnS (up1 (up1 (up1 (up1 (up1 (up1 (up1 (up1 (up1 (up1 (up1 M 42 (up (M 3) h v)) 45 (M 6)) 44 (up (up (up (M 44) 1 (M 5 1)) 2 (M 5 2)) 3 (M 5 3))) 47 (M 8)) 46 (up (up (up (M 46) 1 (M 7 1)) 2 (M 7 2)) 3 (M 7 3))) 49 (M 10)) 48 (up (up (up (M 48) 1 (M 9 1)) 2 (M 9 2)) 3 (M 9 3))) 41 (up (M 41) 2 (M 2 2))) 53 J) 51 F) 52 O) 41 ((M 2 2)).toNat)) 51 F26) 52 O27) [(0, rf g 0), (1, iv h), (2, iv lim), (3, iv p), (4, iv n), (5, iv v)] [iv (msr 1 (jnS (up1 (up1 (up1 (up1 (up1 (up1 (up1 (up1 (up1 (up1 (up1 M 42 (up (M 3) h v)) 45 (M 6)) 44 (up (up (up (M 44) 1 (M 5 1)) 2 (M 5 2)) 3 (M 5 3))) 47 (M 8)) 46 (up (up (up (M 46) 1 (M 7 1)) 2 (M 7 2)) 3 (M 7 3))) 49 (M 10)) 48 (up (up (up (M 48) 1 (M 9 1)) 2 (M 9 2)) 3 (M 9 3))) 41 (up (M 41) 2 (M 2 2))) 53 J) 51 F) 52 O) 41 ((M 2 2)).toNat) 30)] 74
            rw [show ((up1 (up1 (up1 (up1 (up1 (up1 (up1 (up1 (up1 (up1 (up1 (up1 (up1 (up1 M 42 (up (M 3) h v)) 45 (M 6)) 44 (up (up (up (M 44) 1 (M 5 1)) 2 (M 5 2)) 3 (M 5 3))) 47 (M 8)) 46 (up (up (up (M 46) 1 (M 7 1)) 2 (M 7 2)) 3 (M 7 3))) 49 (M 10)) 48 (up (up (up (M 48) 1 (M 9 1)) 2 (M 9 2)) 3 (M 9 3))) 41 (up (M 41) 2 (M 2 2))) 53 J) 51 F) 52 O) 53 (jnS (up1 (up1 (up1 (up1 (up1 (up1 (up1 (up1 (up1 (up1 (up1 M 42 (up (M 3) h v)) 45 (M 6)) 44 (up (up (up (M 44) 1 (M 5 1)) 2 (M 5 2)) 3 (M 5 3))) 47 (M 8)) 46 (up (up (up (M 46) 1 (M 7 1)) 2 (M 7 2)) 3 (M 7 3))) 49 (M 10)) 48 (up (up (up (M 48) 1 (M 9 1)) 2 (M 9 2)) 3 (M 9 3))) 41 (up (M 41) 2 (M 2 2))) 53 J) 51 F) 52 O) 41 ((M 2 2)).toNat)) 51 F26) 52 O27) : Mem) = (up1 (up1 (up1 (up1 (up1 (up1 (up1 (up1 (up1 (up1 (up1 M 42 (up (M 3) h v)) 45 (M 6)) 44 (up (up (up (M 44) 1 (M 5 1)) 2 (M 5 2)) 3 (M 5 3))) 47 (M 8)) 46 (up (up (up (M 46) 1 (M 7 1)) 2 (M 7 2)) 3 (M 7 3))) 49 (M 10)) 48 (up (up (up (M 48) 1 (M 9 1)) 2 (M 9 2)) 3 (M 9 3))) 41 (up (M 41) 2 (M 2 2))) 53 (jnS (up1 (up1 (up1 (up1 (up1 (up1 (up1 (up1 (up1 (up1 (up1 M 42 (up (M 3) h v)) 45 (M 6)) 44 (up (up (up (M 44) 1 (M 5 1)) 2 (M 5 2)) 3 (M 5 3))) 47 (M 8)) 46 (up (up (up (M 46) 1 (M 7 1)) 2 (M 7 2)) 3 (M 7 3))) 49 (M 10)) 48 (up (up (up (M 48) 1 (M 9 1)) 2 (M 9 2)) 3 (M 9 3))) 41 (up (M 41) 2 (M 2 2))) 53 J) 51 F) 52 O) 41 ((M 2 2)).toNat)) 51 F26) 52 O27) from (by
                  funext j
                  by_cases hj0 : j = 42
                  · subst hj0; simp [up1, up1_self]
                  by_cases hj1 : j = 45
                  · subst hj1; simp [up1, up1_self]
                  by_cases hj2 : j = 44
                  · subst hj2; simp [up1, up1_self]
                  by_cases hj3 : j = 47
                  · subst hj3; simp [up1, up1_self]
                  by_cases hj4 : j = 46
                  · subst hj4; simp [up1, up1_self]
                  by_cases hj5 : j = 49
                  · subst hj5; simp [up1, up1_self]
                  by_cases hj6 : j = 48
                  · subst hj6; simp [up1, up1_self]
                  by_cases hj7 : j = 41
                  · subst hj7; simp [up1, up1_self]
                  by_cases hj8 : j = 53
                  · subst hj8; simp [up1, up1_self]
                  by_cases hj9 : j = 51
                  · subst hj9; simp [up1, up1_self]
                  by_cases hj10 : j = 52
                  · subst hj10; simp [up1, up1_self]
                  simp [up1, hj0, hj1, hj2, hj3, hj4, hj5, hj6, hj7, hj8, hj9, hj10])]
            rw [show ((msr 1 (jnS (up1 (up1 (up1 (up1 (up1 (up1 (up1 (up1 (up1 (up1 (up1 M 42 (up (M 3) h v)) 45 (M 6)) 44 (up (up (up (M 44) 1 (M 5 1)) 2 (M 5 2)) 3 (M 5 3))) 47 (M 8)) 46 (up (up (up (M 46) 1 (M 7 1)) 2 (M 7 2)) 3 (M 7 3))) 49 (M 10)) 48 (up (up (up (M 48) 1 (M 9 1)) 2 (M 9 2)) 3 (M 9 3))) 41 (up (M 41) 2 (M 2 2))) 53 J) 51 F) 52 O) 41 ((M 2 2)).toNat) 30) : Int) = (pkR M (up (M 3) h v)) from rfl]
            refine v_iload_n ok 2 dX9_odds_74 rfl rfl ?_
            refine v_icmp_le (tgt := 81) ok ⟨by omega, by omega⟩ ⟨by omega, by omega⟩ dX9_odds_75 (by decide) (fun c28 => ?_) (fun c28 => ?_)
            · skip
              refine v_iinc ok 5 [(5, iv (v + 1)), (0, rf g 0), (1, iv h), (2, iv lim), (3, iv p), (4, iv n)] dX9_odds_81 rfl (by decide) rfl ?_
              refine v_goto (tgt := 45) ok dX9_odds_84 (by decide) ?_
              refine v_lv (ls' := [(0, rf g 0), (1, iv h), (2, iv lim), (3, iv p), (4, iv n), (5, iv (v + 1))]) ok [1, 2, 3, 4, 5, 0] rfl ?_
              exact ih45 (v + 1) n (up (M 3) h v) (jnS (up1 (up1 (up1 (up1 (up1 (up1 (up1 (up1 (up1 (up1 (up1 M 42 (up (M 3) h v)) 45 (M 6)) 44 (up (up (up (M 44) 1 (M 5 1)) 2 (M 5 2)) 3 (M 5 3))) 47 (M 8)) 46 (up (up (up (M 46) 1 (M 7 1)) 2 (M 7 2)) 3 (M 7 3))) 49 (M 10)) 48 (up (up (up (M 48) 1 (M 9 1)) 2 (M 9 2)) 3 (M 9 3))) 41 (up (M 41) 2 (M 2 2))) 53 J) 51 F) 52 O) 41 ((M 2 2)).toNat) F26 O27 (by omega) (by rw [oda_s i45_0.1, i45_1]; show _ = _ + (if lim < pkR M (up (M 3) h v) then 1 else 0); first | rw [if_pos (by omega)] | (rw [if_neg (by omega)]; omega)) (fun v2 => up_up _ _ _ _) (by omega)
            · skip
              refine v_iinc ok 4 [(4, iv (n + 1)), (0, rf g 0), (1, iv h), (2, iv lim), (3, iv p), (5, iv v)] dX9_odds_78 rfl (by decide) rfl ?_
              refine v_iinc ok 5 [(5, iv (v + 1)), (4, iv (n + 1)), (0, rf g 0), (1, iv h), (2, iv lim), (3, iv p)] dX9_odds_81 rfl (by decide) rfl ?_
              refine v_goto (tgt := 45) ok dX9_odds_84 (by decide) ?_
              refine v_lv (ls' := [(0, rf g 0), (1, iv h), (2, iv lim), (3, iv p), (4, iv (n + 1)), (5, iv (v + 1))]) ok [2, 3, 4, 5, 1, 0] rfl ?_
              exact ih45 (v + 1) (n + 1) (up (M 3) h v) (jnS (up1 (up1 (up1 (up1 (up1 (up1 (up1 (up1 (up1 (up1 (up1 M 42 (up (M 3) h v)) 45 (M 6)) 44 (up (up (up (M 44) 1 (M 5 1)) 2 (M 5 2)) 3 (M 5 3))) 47 (M 8)) 46 (up (up (up (M 46) 1 (M 7 1)) 2 (M 7 2)) 3 (M 7 3))) 49 (M 10)) 48 (up (up (up (M 48) 1 (M 9 1)) 2 (M 9 2)) 3 (M 9 3))) 41 (up (M 41) 2 (M 2 2))) 53 J) 51 F) 52 O) 41 ((M 2 2)).toNat) F26 O27 (by omega) (by rw [oda_s i45_0.1, i45_1]; show _ = _ + (if lim < pkR M (up (M 3) h v) then 1 else 0); first | rw [if_pos (by omega)] | (rw [if_neg (by omega)]; omega)) (fun v2 => up_up _ _ _ _) (by omega)
      refine v_lv (ls' := [(0, rf g 0), (1, iv h), (2, iv lim), (3, iv p), (4, iv 0), (5, iv 0)]) ok [2, 3, 4, 5, 1, 0] rfl ?_
      rw [show ((up1 (up1 (up1 (up1 (up1 (up1 (up1 (up1 M 42 ((M 3))) 45 ((M 6))) 44 (up (up (up ((M 44)) 1 ((M 5) 1)) 2 ((M 5) 2)) 3 ((M 5) 3))) 47 ((M 8))) 46 (up (up (up ((M 46)) 1 ((M 7) 1)) 2 ((M 7) 2)) 3 ((M 7) 3))) 49 ((M 10))) 48 (up (up (up ((M 48)) 1 ((M 9) 1)) 2 ((M 9) 2)) 3 ((M 9) 3))) 41 (up ((M 41)) 2 ((M 2) 2))) : Mem) = (up1 (up1 (up1 (up1 (up1 (up1 (up1 (up1 (up1 (up1 (up1 M 42 ((M 3))) 45 (M 6)) 44 (up (up (up (M 44) 1 (M 5 1)) 2 (M 5 2)) 3 (M 5 3))) 47 (M 8)) 46 (up (up (up (M 46) 1 (M 7 1)) 2 (M 7 2)) 3 (M 7 3))) 49 (M 10)) 48 (up (up (up (M 48) 1 (M 9 1)) 2 (M 9 2)) 3 (M 9 3))) 41 (up (M 41) 2 (M 2 2))) 53 (M 53)) 51 (M 51)) 52 (M 52)) from (by
            funext j
            by_cases hj0 : j = 42
            · subst hj0; simp [up1, up1_self]
            by_cases hj1 : j = 45
            · subst hj1; simp [up1, up1_self]
            by_cases hj2 : j = 44
            · subst hj2; simp [up1, up1_self]
            by_cases hj3 : j = 47
            · subst hj3; simp [up1, up1_self]
            by_cases hj4 : j = 46
            · subst hj4; simp [up1, up1_self]
            by_cases hj5 : j = 49
            · subst hj5; simp [up1, up1_self]
            by_cases hj6 : j = 48
            · subst hj6; simp [up1, up1_self]
            by_cases hj7 : j = 41
            · subst hj7; simp [up1, up1_self]
            by_cases hj8 : j = 53
            · subst hj8; simp [up1, up1_self]
            by_cases hj9 : j = 51
            · subst hj9; simp [up1, up1_self]
            by_cases hj10 : j = 52
            · subst hj10; simp [up1, up1_self]
            simp [up1, hj0, hj1, hj2, hj3, hj4, hj5, hj6, hj7, hj8, hj9, hj10])]
      exact lp45 _ 0 0 ((M 3)) (M 53) (M 51) (M 52) (by omega) rfl (fun _ => rfl) (Nat.lt_succ_self _)
    · skip
      subst M9
      show V z g 6 M [(0, rf g 0), (1, iv h), (2, iv lim), (3, iv p)] [iv 0] 18
      refine v_if_ne (tgt := 25) ok (by decide) dX9_odds_18 (by decide) (fun c29 => absurd c29 (by decide)) (fun c29 => ?_)
      refine v_ldc2 (n := -9223372036854775808) ok mk_X9_odds_205 rfl dX9_odds_21 ?_
      exact v_lret ok rt dX9_odds_24 (Or.inl (⟨rfl, rfl, (by omega)⟩))
  · skip
    subst M3
    show V z g 6 M [(0, rf g 0), (1, iv h), (2, iv lim), (3, iv p)] [iv 0] 7
    refine v_if_eq (tgt := 21) ok (by decide) dX9_odds_7 (by decide) (fun c30 => ?_) (fun c30 => absurd c30 (by decide))
    refine v_ldc2 (n := -9223372036854775808) ok mk_X9_odds_205 rfl dX9_odds_21 ?_
    exact v_lret ok rt dX9_odds_24 (Or.inl (⟨rfl, rfl, (by omega)⟩))

theorem mk_X9_fits_28 : Cond.fieldLink RX9 28 "StormRunoff" "trial" "LStormRunoff$Site;" ∈ wsX9_fits := by decide +kernel
theorem mi_X9_fits_9 : ∀ w ∈ wsX90, w ∈ wsX9_fits := by decide +kernel
theorem mk_X9_fits_12 : Cond.fieldLink RX9 12 "StormRunoff" "now" "LStormRunoff$State;" ∈ wsX9_fits := by decide +kernel
theorem mk_X9_fits_67 : Cond.fieldLink RX9 67 "StormRunoff$State" "site" "LStormRunoff$Site;" ∈ wsX9_fits := by decide +kernel
theorem mi_X9_fits_7 : ∀ w ∈ wsX70, w ∈ wsX9_fits := by decide +kernel
theorem mk_X9_fits_70 : Cond.fieldLink RX9 70 "StormRunoff$Site" "rain" "[I" ∈ wsX9_fits := by decide +kernel
theorem mi_X9_fits_6 : ∀ w ∈ wsX60, w ∈ wsX9_fits := by decide +kernel
theorem mk_X9_fits_35 : Cond.fieldLink RX9 35 "StormRunoff" "course" "LStormRunoff$Course;" ∈ wsX9_fits := by decide +kernel
theorem mk_X9_fits_185 : Cond.fieldLink RX9 185 "StormRunoff$State" "seen" "LStormRunoff$Rows;" ∈ wsX9_fits := by decide +kernel
theorem mk_X9_fits_196 : Cond.fieldLink RX9 196 "StormRunoff$Course" "joined" "[I" ∈ wsX9_fits := by decide +kernel
theorem mi_X9_fits_1 : ∀ w ∈ wsX10, w ∈ wsX9_fits := by decide +kernel
set_option maxRecDepth 100000 in
set_option maxHeartbeats 400000 in
theorem ct_X9_fits (l : Launch) (g : Gl) (M : Mem) (h w : Int) (hh : i32 h) (hw : i32 w) (hs : SiteOk M 2) (hrow : RowOk M 12) : Ct l g yX9_fits wsX9_fits 5 111 [rf g 0, iv h, iv w] M (fun rv M' => (rv = some (iv (-1)) ∧ M' = M ∧ (¬ (0 ≤ h ∧ h ≤ 7) ∨ ¬ (0 ≤ w ∧ w ≤ 1))) ∨ (∃ (A0 A1 A2 A3 A4 A5 A6 A7 A8 A9 A10 : Int → Int), rv = some (iv (ftN (fitF M h) 21)) ∧ M' = (up1 (up1 (up1 (up1 (up1 (up1 (up1 (up1 (up1 (up1 (up1 M 42 A0) 45 A1) 44 A2) 47 A3) 46 A4) 49 A5) 48 A6) 41 A7) 53 A8) 51 A9) 52 A10) ∧ (0 ≤ h ∧ h ≤ 7) ∧ (w = 0)) ∨ (∃ (A0 A1 A2 A3 A4 A5 A6 A7 A8 A9 A10 : Int → Int), rv = some (iv (ftL (fitF M h) 21)) ∧ M' = (up1 (up1 (up1 (up1 (up1 (up1 (up1 (up1 (up1 (up1 (up1 M 42 A0) 45 A1) 44 A2) 47 A3) 46 A4) 49 A5) 48 A6) 41 A7) 53 A8) 51 A9) 52 A10) ∧ (0 ≤ h ∧ h ≤ 7) ∧ (w = 1))) := by
  refine Ct.of (cc := cX9_fits) (nL := 6) (ret := (some .int)) (by decide) rfl (Nat.le_of_ble_eq_true rfl) (fun z hz ok rt => ?_)
  have ok : Ok z g cX9_fits 6 RX9 wsX9_fits 5 111 := ok
  show V z g 6 M [(0, rf g 0), (1, iv h), (2, iv w)] [] 0
  have hR : bdf (M 3) 8 0 20 := hs.1
  have hm : 0 ≤ M 2 2 ∧ M 2 2 ≤ 3 := hs.2.1
  have hA0 : bdf (M 6) 5 0 9 := hs.2.2.1.1
  have hk0 : 0 ≤ M 5 2 ∧ M 5 2 ≤ 4 := hs.2.2.1.2.2.1
  have hn0 : 0 ≤ M 5 3 ∧ M 5 3 ≤ 9 := hs.2.2.1.2.2.2
  have hA1 : bdf (M 8) 5 0 9 := hs.2.2.2.1.1
  have hk1 : 0 ≤ M 7 2 ∧ M 7 2 ≤ 4 := hs.2.2.2.1.2.2.1
  have hn1 : 0 ≤ M 7 3 ∧ M 7 3 ≤ 9 := hs.2.2.2.1.2.2.2
  have hA2 : bdf (M 10) 5 0 9 := hs.2.2.2.2.1
  have hk2 : 0 ≤ M 9 2 ∧ M 9 2 ≤ 4 := hs.2.2.2.2.2.2.1
  have hn2 : 0 ≤ M 9 3 ∧ M 9 3 ≤ 9 := hs.2.2.2.2.2.2.2
  have hr1 : 0 ≤ M 12 3 ∧ M 12 3 ≤ 8 := by have := hrow.1; omega
  refine v_iload_n ok 1 dX9_fits_0 rfl rfl ?_
  refine v_iconst (n := 0) ok dX9_fits_1 ?_
  refine v_bipush (n := 7) ok rfl dX9_fits_2 ?_
  refine v_callS (na := 3) ok (ct_X9_between z.2.1 g M h 0 7 ⟨by omega, by omega⟩ (by decide) (by decide)) gX9_fits_X9_between rfl (by decide +kernel) rfl (by decide) [] rfl (Nat.le_of_ble_eq_true rfl) dX9_fits_4 (fun v2 M3 hp1 => ?_)
  rcases hp1 with ⟨rfl, eM3, h4⟩ | ⟨rfl, eM3, h5⟩
  · skip
    subst M3
    show V z g 6 M [(0, rf g 0), (1, iv h), (2, iv w)] [iv 1] 7
    refine v_if_eq (tgt := 19) ok (by decide) dX9_fits_7 (by decide) (fun c6 => absurd c6 (by decide)) (fun c6 => ?_)
    refine v_iload_n ok 2 dX9_fits_10 rfl rfl ?_
    refine v_iconst (n := 0) ok dX9_fits_11 ?_
    refine v_iconst (n := 1) ok dX9_fits_12 ?_
    refine v_callS (na := 3) ok (ct_X9_between z.2.1 g M w 0 1 ⟨by omega, by omega⟩ (by decide) (by decide)) gX9_fits_X9_between rfl (by decide +kernel) rfl (by decide) [] rfl (Nat.le_of_ble_eq_true rfl) dX9_fits_13 (fun v8 M9 hp7 => ?_)
    rcases hp7 with ⟨rfl, eM9, h10⟩ | ⟨rfl, eM9, h11⟩
    · skip
      subst M9
      show V z g 6 M [(0, rf g 0), (1, iv h), (2, iv w)] [iv 1] 16
      refine v_if_ne (tgt := 21) ok (by decide) dX9_fits_16 (by decide) (fun c12 => ?_) (fun c12 => absurd c12 (by decide))
      refine v_iconst (n := 0) ok dX9_fits_21 ?_
      refine v_istore_n ok [(3, iv 0), (0, rf g 0), (1, iv h), (2, iv w)] dX9_fits_22 rfl (by decide) rfl ?_
      refine v_bipush (n := -5) ok rfl dX9_fits_23 ?_
      refine v_istore ok [(4, iv (-5)), (3, iv 0), (0, rf g 0), (1, iv h), (2, iv w)] dX9_fits_25 (by decide) rfl ?_
      refine v_aload_n ok 2 dX9_fits_27 rfl rfl ?_
      refine v_get (T := TX9) (N := 9) (f0 := (M 0)) (v := rf g 41) ok mi_X9_fits_9 (kd_lt (show kd 0 = 9 from rfl) (by decide)) rfl rfl (cellF_9 _ (by decide)) 3 (by decide) mk_X9_fits_28 rfl rfl dX9_fits_28 ?_
      refine v_aload_n ok 2 dX9_fits_31 rfl rfl ?_
      refine v_get (T := TX9) (N := 9) (f0 := (M 0)) (v := rf g 1) ok mi_X9_fits_9 (kd_lt (show kd 0 = 9 from rfl) (by decide)) rfl rfl (cellF_9 _ (by decide)) 0 (by decide) mk_X9_fits_12 rfl rfl dX9_fits_32 ?_
      refine v_get (T := TX7) (N := 5) (f0 := (M 1)) (v := rf g 2) ok mi_X9_fits_7 (kd_lt (show kd 1 = 7 from rfl) (by decide)) rfl rfl (cellF_7 _ (by decide)) 0 (by decide) mk_X9_fits_67 rfl rfl dX9_fits_35 ?_
      refine v_callV (na := 1) (i := 41) (C := RX6) (T := TX6) (N := 3) (f0 := (M 41)) ok (ct_X6_become_41_2 z.2.1 g M  ) gX9_fits_X6_become (kd_lt (show kd 41 = 6 from rfl) (by decide)) rfl rfl (cellF_6 _ (by decide)) rfl (by decide +kernel) rfl (by decide) [] rfl (Nat.le_of_ble_eq_true rfl) dX9_fits_38 (fun v14 M15 hp13 => ?_)
      obtain ⟨rfl, rfl⟩ := hp13
      show V z g 6 (up1 (up1 (up1 (up1 (up1 (up1 (up1 (up1 M 42 ((M 3))) 45 ((M 6))) 44 (up (up (up ((M 44)) 1 ((M 5) 1)) 2 ((M 5) 2)) 3 ((M 5) 3))) 47 ((M 8))) 46 (up (up (up ((M 46)) 1 ((M 7) 1)) 2 ((M 7) 2)) 3 ((M 7) 3))) 49 ((M 10))) 48 (up (up (up ((M 48)) 1 ((M 9) 1)) 2 ((M 9) 2)) 3 ((M 9) 3))) 41 (up ((M 41)) 2 ((M 2) 2))) [(4, iv (-5)), (3, iv 0), (0, rf g 0), (1, iv h), (2, iv w)] [] 41
      refine v_bipush (n := 20) ok rfl dX9_fits_41 ?_
      refine v_istore ok [(5, iv 20), (4, iv (-5)), (3, iv 0), (0, rf g 0), (1, iv h), (2, iv w)] dX9_fits_43 (by decide) rfl ?_
      have lp45 : ∀ (fu : Nat) (n b v : Int) (G J F O : Int → Int), (-1 ≤ v ∧ v ≤ 20) → (n = ftN (fitF M h) (20 - v).toNat) → (b = ftL (fitF M h) (20 - v).toNat) → (∀ v : Int, up G h v = up (M 3) h v) → (v + 1).toNat < fu → V z g 6 (up1 (up1 (up1 (up1 (up1 (up1 (up1 (up1 (up1 (up1 (up1 M 42 G) 45 (M 6)) 44 (up (up (up (M 44) 1 (M 5 1)) 2 (M 5 2)) 3 (M 5 3))) 47 (M 8)) 46 (up (up (up (M 46) 1 (M 7 1)) 2 (M 7 2)) 3 (M 7 3))) 49 (M 10)) 48 (up (up (up (M 48) 1 (M 9 1)) 2 (M 9 2)) 3 (M 9 3))) 41 (up (M 41) 2 (M 2 2))) 53 J) 51 F) 52 O) [(0, rf g 0), (1, iv h), (2, iv w), (3, iv n), (4, iv b), (5, iv v)] [] 45 := by
        intro fu
        induction fu with
        | zero => intro n b v G J F O _ _ _ _ hm; exact absurd hm (Nat.not_lt_zero _)
        | succ fu ih45 =>
          intro n b v G J F O i45_0 i45_1 i45_2 i45_3 hm45
          refine v_iload ok 5 dX9_fits_45 rfl ?_
          refine v_if_lt (tgt := 107) ok ⟨by omega, by omega⟩ dX9_fits_47 (by decide) (fun c16 => ?_) (fun c16 => ?_)
          · skip
            have e21 : (20 - v).toNat = 21 := by omega
            rw [e21] at i45_1 i45_2
            rw [show (n : Int) = (ftN (fitF M h) 21) from i45_1]
            rw [show (b : Int) = (ftL (fitF M h) 21) from i45_2]
            refine v_iload_n ok 2 dX9_fits_107 rfl rfl ?_
            refine v_if_ne (tgt := 115) ok ⟨by omega, by omega⟩ dX9_fits_108 (by decide) (fun c17 => ?_) (fun c17 => ?_)
            · skip
              refine v_iload ok 4 dX9_fits_115 rfl ?_
              exact v_iret ok rt dX9_fits_117 (Or.inr (Or.inr (⟨G, (M 6), (up (up (up (M 44) 1 (M 5 1)) 2 (M 5 2)) 3 (M 5 3)), (M 8), (up (up (up (M 46) 1 (M 7 1)) 2 (M 7 2)) 3 (M 7 3)), (M 10), (up (up (up (M 48) 1 (M 9 1)) 2 (M 9 2)) 3 (M 9 3)), (up (M 41) 2 (M 2 2)), J, F, O, rfl, rfl, (by omega), (by omega)⟩)))
            · skip
              refine v_iload_n ok 3 dX9_fits_111 rfl rfl ?_
              refine v_goto (tgt := 117) ok dX9_fits_112 (by decide) ?_
              exact v_iret ok rt dX9_fits_117 (Or.inr (Or.inl (⟨G, (M 6), (up (up (up (M 44) 1 (M 5 1)) 2 (M 5 2)) 3 (M 5 3)), (M 8), (up (up (up (M 46) 1 (M 7 1)) 2 (M 7 2)) 3 (M 7 3)), (M 10), (up (up (up (M 48) 1 (M 9 1)) 2 (M 9 2)) 3 (M 9 3)), (up (M 41) 2 (M 2 2)), J, F, O, rfl, rfl, (by omega), (by omega)⟩)))
          · skip
            refine v_aload_n ok 0 dX9_fits_50 rfl rfl ?_
            refine v_get (T := TX9) (N := 9) (f0 := (M 0)) (v := rf g 41) ok mi_X9_fits_9 (kd_lt (show kd 0 = 9 from rfl) (by decide)) rfl rfl (cellF_9 _ (by decide)) 3 (by decide) mk_X9_fits_28 rfl rfl dX9_fits_51 ?_
            refine v_get (T := TX6) (N := 3) (f0 := (up (M 41) 2 (M 2 2))) (v := rf g 42) ok mi_X9_fits_6 (kd_lt (show kd 41 = 6 from rfl) (by decide)) rfl rfl (cellF_6 _ (by decide)) 0 (by decide) mk_X9_fits_70 rfl rfl dX9_fits_54 ?_
            refine v_iload_n ok 1 dX9_fits_57 rfl rfl ?_
            refine v_iload ok 5 dX9_fits_58 rfl ?_
            refine v_iast (n := 8) (f0 := G) ok (by decide) rfl (by omega) rfl dX9_fits_60 ?_
            rw [show (up1 (up1 (up1 (up1 (up1 (up1 (up1 (up1 (up1 (up1 (up1 (up1 M 42 G) 45 (M 6)) 44 (up (up (up (M 44) 1 (M 5 1)) 2 (M 5 2)) 3 (M 5 3))) 47 (M 8)) 46 (up (up (up (M 46) 1 (M 7 1)) 2 (M 7 2)) 3 (M 7 3))) 49 (M 10)) 48 (up (up (up (M 48) 1 (M 9 1)) 2 (M 9 2)) 3 (M 9 3))) 41 (up (M 41) 2 (M 2 2))) 53 J) 51 F) 52 O) 42 (up G h v) : Mem) = (up1 (up1 (up1 (up1 (up1 (up1 (up1 (up1 (up1 (up1 (up1 M 42 (up G h v)) 45 (M 6)) 44 (up (up (up (M 44) 1 (M 5 1)) 2 (M 5 2)) 3 (M 5 3))) 47 (M 8)) 46 (up (up (up (M 46) 1 (M 7 1)) 2 (M 7 2)) 3 (M 7 3))) 49 (M 10)) 48 (up (up (up (M 48) 1 (M 9 1)) 2 (M 9 2)) 3 (M 9 3))) 41 (up (M 41) 2 (M 2 2))) 53 J) 51 F) 52 O) from (by
                  funext j
                  by_cases hj0 : j = 42
                  · subst hj0; simp [up1, up1_self]
                  by_cases hj1 : j = 45
                  · subst hj1; simp [up1, up1_self]
                  by_cases hj2 : j = 44
                  · subst hj2; simp [up1, up1_self]
                  by_cases hj3 : j = 47
                  · subst hj3; simp [up1, up1_self]
                  by_cases hj4 : j = 46
                  · subst hj4; simp [up1, up1_self]
                  by_cases hj5 : j = 49
                  · subst hj5; simp [up1, up1_self]
                  by_cases hj6 : j = 48
                  · subst hj6; simp [up1, up1_self]
                  by_cases hj7 : j = 41
                  · subst hj7; simp [up1, up1_self]
                  by_cases hj8 : j = 53
                  · subst hj8; simp [up1, up1_self]
                  by_cases hj9 : j = 51
                  · subst hj9; simp [up1, up1_self]
                  by_cases hj10 : j = 52
                  · subst hj10; simp [up1, up1_self]
                  simp [up1, hj0, hj1, hj2, hj3, hj4, hj5, hj6, hj7, hj8, hj9, hj10])]
            rw [show ((up1 (up1 (up1 (up1 (up1 (up1 (up1 (up1 (up1 (up1 (up1 M 42 (up G h v)) 45 (M 6)) 44 (up (up (up (M 44) 1 (M 5 1)) 2 (M 5 2)) 3 (M 5 3))) 47 (M 8)) 46 (up (up (up (M 46) 1 (M 7 1)) 2 (M 7 2)) 3 (M 7 3))) 49 (M 10)) 48 (up (up (up (M 48) 1 (M 9 1)) 2 (M 9 2)) 3 (M 9 3))) 41 (up (M 41) 2 (M 2 2))) 53 J) 51 F) 52 O) : Mem) = (up1 (up1 (up1 (up1 (up1 (up1 (up1 (up1 (up1 (up1 (up1 M 42 (up (M 3) h v)) 45 (M 6)) 44 (up (up (up (M 44) 1 (M 5 1)) 2 (M 5 2)) 3 (M 5 3))) 47 (M 8)) 46 (up (up (up (M 46) 1 (M 7 1)) 2 (M 7 2)) 3 (M 7 3))) 49 (M 10)) 48 (up (up (up (M 48) 1 (M 9 1)) 2 (M 9 2)) 3 (M 9 3))) 41 (up (M 41) 2 (M 2 2))) 53 J) 51 F) 52 O) from (by rw [i45_3])]
            have hso : SiteOk (up1 (up1 (up1 (up1 (up1 (up1 (up1 (up1 (up1 (up1 (up1 M 42 (up (M 3) h v)) 45 (M 6)) 44 (up (up (up (M 44) 1 (M 5 1)) 2 (M 5 2)) 3 (M 5 3))) 47 (M 8)) 46 (up (up (up (M 46) 1 (M 7 1)) 2 (M 7 2)) 3 (M 7 3))) 49 (M 10)) 48 (up (up (up (M 48) 1 (M 9 1)) 2 (M 9 2)) 3 (M 9 3))) 41 (up (M 41) 2 (M 2 2))) 53 J) 51 F) 52 O) 41 := And.intro (bdf_up hR (by omega) (by omega)) hs.2
            refine v_aload_n ok 0 dX9_fits_61 rfl rfl ?_
            refine v_get (T := TX9) (N := 9) (f0 := (M 0)) (v := rf g 50) ok mi_X9_fits_9 (kd_lt (show kd 0 = 9 from rfl) (by decide)) rfl rfl (cellF_9 _ (by decide)) 4 (by decide) mk_X9_fits_35 rfl rfl dX9_fits_62 ?_
            refine v_aload_n ok 0 dX9_fits_65 rfl rfl ?_
            refine v_get (T := TX9) (N := 9) (f0 := (M 0)) (v := rf g 41) ok mi_X9_fits_9 (kd_lt (show kd 0 = 9 from rfl) (by decide)) rfl rfl (cellF_9 _ (by decide)) 3 (by decide) mk_X9_fits_28 rfl rfl dX9_fits_66 ?_
            refine v_callV (na := 1) (i := 50) (C := RX1) (T := TX1) (N := 3) (f0 := (M 50)) ok (ct_X1_join_41 z.2.1 g (up1 (up1 (up1 (up1 (up1 (up1 (up1 (up1 (up1 (up1 (up1 M 42 (up (M 3) h v)) 45 (M 6)) 44 (up (up (up (M 44) 1 (M 5 1)) 2 (M 5 2)) 3 (M 5 3))) 47 (M 8)) 46 (up (up (up (M 46) 1 (M 7 1)) 2 (M 7 2)) 3 (M 7 3))) 49 (M 10)) 48 (up (up (up (M 48) 1 (M 9 1)) 2 (M 9 2)) 3 (M 9 3))) 41 (up (M 41) 2 (M 2 2))) 53 J) 51 F) 52 O)  hso) gX9_fits_X1_join (kd_lt (show kd 50 = 1 from rfl) (by decide)) rfl rfl (cellF_1 _ (by decide)) rfl (by decide +kernel) rfl (by decide) [] rfl (Nat.le_of_ble_eq_true rfl) dX9_fits_69 (fun v19 M20 hp18 => ?_)
            obtain ⟨F21, O22, rfl, rfl⟩ := hp18
            show V z g 6 (up1 (up1 (up1 (up1 (up1 (up1 (up1 (up1 (up1 (up1 (up1 (up1 (up1 (up1 M 42 (up (M 3) h v)) 45 (M 6)) 44 (up (up (up (M 44) 1 (M 5 1)) 2 (M 5 2)) 3 (M 5 3))) 47 (M 8)) 46 (up (up (up (M 46) 1 (M 7 1)) 2 (M 7 2)) 3 (M 7 3))) 49 (M 10)) 48 (up (up (up (M 48) 1 (M 9 1)) 2 (M 9 2)) 3 (M 9 3))) 41 (up (M 41) 2 (M 2 2))) 53 J) 51 F) 52 O) 53 (jnS (up1 (up1 (up1 (up1 (up1 (up1 (up1 (up1 (up1 (up1 (up1 M 42 (up (M 3) h v)) 45 (M 6)) 44 (up (up (up (M 44) 1 (M 5 1)) 2 (M 5 2)) 3 (M 5 3))) 47 (M 8)) 46 (up (up (up (M 46) 1 (M 7 1)) 2 (M 7 2)) 3 (M 7 3))) 49 (M 10)) 48 (up (up (up (M 48) 1 (M 9 1)) 2 (M 9 2)) 3 (M 9 3))) 41 (up (M 41) 2 (M 2 2))) 53 J) 51 F) 52 O) 41 ((M 2 2)).toNat)) 51 F21) 52 O22) [(0, rf g 0), (1, iv h), (2, iv w), (3, iv n), (4, iv b), (5, iv v)] [] 72
            rw [show ((up1 (up1 (up1 (up1 (up1 (up1 (up1 (up1 (up1 (up1 (up1 (up1 (up1 (up1 M 42 (up (M 3) h v)) 45 (M 6)) 44 (up (up (up (M 44) 1 (M 5 1)) 2 (M 5 2)) 3 (M 5 3))) 47 (M 8)) 46 (up (up (up (M 46) 1 (M 7 1)) 2 (M 7 2)) 3 (M 7 3))) 49 (M 10)) 48 (up (up (up (M 48) 1 (M 9 1)) 2 (M 9 2)) 3 (M 9 3))) 41 (up (M 41) 2 (M 2 2))) 53 J) 51 F) 52 O) 53 (jnS (up1 (up1 (up1 (up1 (up1 (up1 (up1 (up1 (up1 (up1 (up1 M 42 (up (M 3) h v)) 45 (M 6)) 44 (up (up (up (M 44) 1 (M 5 1)) 2 (M 5 2)) 3 (M 5 3))) 47 (M 8)) 46 (up (up (up (M 46) 1 (M 7 1)) 2 (M 7 2)) 3 (M 7 3))) 49 (M 10)) 48 (up (up (up (M 48) 1 (M 9 1)) 2 (M 9 2)) 3 (M 9 3))) 41 (up (M 41) 2 (M 2 2))) 53 J) 51 F) 52 O) 41 ((M 2 2)).toNat)) 51 F21) 52 O22) : Mem) = (up1 (up1 (up1 (up1 (up1 (up1 (up1 (up1 (up1 (up1 (up1 M 42 (up (M 3) h v)) 45 (M 6)) 44 (up (up (up (M 44) 1 (M 5 1)) 2 (M 5 2)) 3 (M 5 3))) 47 (M 8)) 46 (up (up (up (M 46) 1 (M 7 1)) 2 (M 7 2)) 3 (M 7 3))) 49 (M 10)) 48 (up (up (up (M 48) 1 (M 9 1)) 2 (M 9 2)) 3 (M 9 3))) 41 (up (M 41) 2 (M 2 2))) 53 (jnS (up1 (up1 (up1 (up1 (up1 (up1 (up1 (up1 (up1 (up1 (up1 M 42 (up (M 3) h v)) 45 (M 6)) 44 (up (up (up (M 44) 1 (M 5 1)) 2 (M 5 2)) 3 (M 5 3))) 47 (M 8)) 46 (up (up (up (M 46) 1 (M 7 1)) 2 (M 7 2)) 3 (M 7 3))) 49 (M 10)) 48 (up (up (up (M 48) 1 (M 9 1)) 2 (M 9 2)) 3 (M 9 3))) 41 (up (M 41) 2 (M 2 2))) 53 J) 51 F) 52 O) 41 ((M 2 2)).toNat)) 51 F21) 52 O22) from (by
                  funext j
                  by_cases hj0 : j = 42
                  · subst hj0; simp [up1, up1_self]
                  by_cases hj1 : j = 45
                  · subst hj1; simp [up1, up1_self]
                  by_cases hj2 : j = 44
                  · subst hj2; simp [up1, up1_self]
                  by_cases hj3 : j = 47
                  · subst hj3; simp [up1, up1_self]
                  by_cases hj4 : j = 46
                  · subst hj4; simp [up1, up1_self]
                  by_cases hj5 : j = 49
                  · subst hj5; simp [up1, up1_self]
                  by_cases hj6 : j = 48
                  · subst hj6; simp [up1, up1_self]
                  by_cases hj7 : j = 41
                  · subst hj7; simp [up1, up1_self]
                  by_cases hj8 : j = 53
                  · subst hj8; simp [up1, up1_self]
                  by_cases hj9 : j = 51
                  · subst hj9; simp [up1, up1_self]
                  by_cases hj10 : j = 52
                  · subst hj10; simp [up1, up1_self]
                  simp [up1, hj0, hj1, hj2, hj3, hj4, hj5, hj6, hj7, hj8, hj9, hj10])]
            rw [show ((up1 (up1 (up1 (up1 (up1 (up1 (up1 (up1 (up1 (up1 (up1 M 42 (up (M 3) h v)) 45 (M 6)) 44 (up (up (up (M 44) 1 (M 5 1)) 2 (M 5 2)) 3 (M 5 3))) 47 (M 8)) 46 (up (up (up (M 46) 1 (M 7 1)) 2 (M 7 2)) 3 (M 7 3))) 49 (M 10)) 48 (up (up (up (M 48) 1 (M 9 1)) 2 (M 9 2)) 3 (M 9 3))) 41 (up (M 41) 2 (M 2 2))) 53 (jnS (up1 (up1 (up1 (up1 (up1 (up1 (up1 (up1 (up1 (up1 (up1 M 42 (up (M 3) h v)) 45 (M 6)) 44 (up (up (up (M 44) 1 (M 5 1)) 2 (M 5 2)) 3 (M 5 3))) 47 (M 8)) 46 (up (up (up (M 46) 1 (M 7 1)) 2 (M 7 2)) 3 (M 7 3))) 49 (M 10)) 48 (up (up (up (M 48) 1 (M 9 1)) 2 (M 9 2)) 3 (M 9 3))) 41 (up (M 41) 2 (M 2 2))) 53 J) 51 F) 52 O) 41 ((M 2 2)).toNat)) 51 F21) 52 O22) : Mem) = (up1 (up1 (up1 (up1 (up1 (up1 (up1 (up1 (up1 (up1 (up1 M 42 (up (M 3) h v)) 45 (M 6)) 44 (up (up (up (M 44) 1 (M 5 1)) 2 (M 5 2)) 3 (M 5 3))) 47 (M 8)) 46 (up (up (up (M 46) 1 (M 7 1)) 2 (M 7 2)) 3 (M 7 3))) 49 (M 10)) 48 (up (up (up (M 48) 1 (M 9 1)) 2 (M 9 2)) 3 (M 9 3))) 41 (up (M 41) 2 (M 2 2))) 53 (jnR M (up (M 3) h v))) 51 F21) 52 O22) from rfl]
            have hjr := jnR_rng hs (bdf_up hR (show 0 ≤ v by omega) (show v ≤ 20 by omega) (h := h))
            refine v_aload_n ok 0 dX9_fits_72 rfl rfl ?_
            refine v_get (T := TX9) (N := 9) (f0 := (M 0)) (v := rf g 1) ok mi_X9_fits_9 (kd_lt (show kd 0 = 9 from rfl) (by decide)) rfl rfl (cellF_9 _ (by decide)) 0 (by decide) mk_X9_fits_12 rfl rfl dX9_fits_73 ?_
            refine v_get (T := TX7) (N := 5) (f0 := (M 1)) (v := rf g 12) ok mi_X9_fits_7 (kd_lt (show kd 1 = 7 from rfl) (by decide)) rfl rfl (cellF_7 _ (by decide)) 2 (by decide) mk_X9_fits_185 rfl rfl dX9_fits_76 ?_
            refine v_aload_n ok 0 dX9_fits_79 rfl rfl ?_
            refine v_get (T := TX9) (N := 9) (f0 := (M 0)) (v := rf g 50) ok mi_X9_fits_9 (kd_lt (show kd 0 = 9 from rfl) (by decide)) rfl rfl (cellF_9 _ (by decide)) 4 (by decide) mk_X9_fits_35 rfl rfl dX9_fits_80 ?_
            refine v_get (T := TX1) (N := 3) (f0 := (M 50)) (v := rf g 53) ok mi_X9_fits_1 (kd_lt (show kd 50 = 1 from rfl) (by decide)) rfl rfl (cellF_1 _ (by decide)) 2 (by decide) mk_X9_fits_196 rfl rfl dX9_fits_83 ?_
            refine v_callV (na := 1) (i := 12) (C := RX4) (T := TX4) (N := 4) (f0 := (M 12)) ok (ct_X4_firstOtherwise z.2.1 g (up1 (up1 (up1 (up1 (up1 (up1 (up1 (up1 (up1 (up1 (up1 M 42 (up (M 3) h v)) 45 (M 6)) 44 (up (up (up (M 44) 1 (M 5 1)) 2 (M 5 2)) 3 (M 5 3))) 47 (M 8)) 46 (up (up (up (M 46) 1 (M 7 1)) 2 (M 7 2)) 3 (M 7 3))) 49 (M 10)) 48 (up (up (up (M 48) 1 (M 9 1)) 2 (M 9 2)) 3 (M 9 3))) 41 (up (M 41) 2 (M 2 2))) 53 (jnR M (up (M 3) h v))) 51 F21) 52 O22) 12 (by decide) hr1 hrow.2.1 hrow.2.2 hjr) gX9_fits_X4_firstOtherwise (kd_lt (show kd 12 = 4 from rfl) (by decide)) rfl rfl (cellF_4 _ (by decide)) rfl (by decide +kernel) rfl (by decide) [] rfl (Nat.le_of_ble_eq_true rfl) dX9_fits_86 (fun v24 M25 hp23 => ?_)
            obtain ⟨rfl, rfl⟩ := hp23
            show V z g 6 (up1 (up1 (up1 (up1 (up1 (up1 (up1 (up1 (up1 (up1 (up1 M 42 (up (M 3) h v)) 45 (M 6)) 44 (up (up (up (M 44) 1 (M 5 1)) 2 (M 5 2)) 3 (M 5 3))) 47 (M 8)) 46 (up (up (up (M 46) 1 (M 7 1)) 2 (M 7 2)) 3 (M 7 3))) 49 (M 10)) 48 (up (up (up (M 48) 1 (M 9 1)) 2 (M 9 2)) 3 (M 9 3))) 41 (up (M 41) 2 (M 2 2))) 53 (jnR M (up (M 3) h v))) 51 F21) 52 O22) [(0, rf g 0), (1, iv h), (2, iv w), (3, iv n), (4, iv b), (5, iv v)] [iv (fot ((M 13)) ((M 14)) ((jnR M (up (M 3) h v))) ((M 12) 3).toNat 0)] 89
            rw [show ((fot ((M 13)) ((M 14)) ((jnR M (up (M 3) h v))) ((M 12) 3).toNat 0) : Int) = (fitF M h v) from rfl]
            have hfr := fot_rng (F := M 13) (S := M 14) (J := jnR M (up (M 3) h v)) (M 12 3).toNat 0 (by omega)
            have hfr2 : fitF M h v = -5 ∨ 0 ≤ fitF M h v ∧ fitF M h v < 8 := by unfold fitF; omega
            refine v_bipush (n := -5) ok rfl dX9_fits_89 ?_
            refine v_icmp_ne (tgt := 101) ok ⟨by omega, by omega⟩ (by decide) dX9_fits_91 (by decide) (fun c26 => ?_) (fun c26 => ?_)
            · skip
              have hf5 : ¬ fitF M h v = -5 := by omega
              refine v_iinc ok 5 [(5, iv (v + (-1))), (0, rf g 0), (1, iv h), (2, iv w), (3, iv n), (4, iv b)] dX9_fits_101 rfl (by decide) rfl ?_
              refine v_goto (tgt := 45) ok dX9_fits_104 (by decide) ?_
              refine v_lv (ls' := [(0, rf g 0), (1, iv h), (2, iv w), (3, iv n), (4, iv b), (5, iv (v + (-1)))]) ok [1, 2, 3, 4, 5, 0] rfl ?_
              exact ih45 n b (v + (-1)) (up (M 3) h v) (jnR M (up (M 3) h v)) F21 O22 (by omega) (by rw [show v + (-1) = v - 1 from rfl, ftN_s i45_0.2, i45_1]; first | rw [if_pos (by assumption)] | (rw [if_neg (by assumption)]; omega)) (by rw [show v + (-1) = v - 1 from rfl, ftL_s i45_0.2]; first | rw [if_pos (by assumption)] | (rw [if_neg (by assumption)]; exact i45_2)) (fun v2 => up_up _ _ _ _) (by omega)
            · skip
              have hf5 : fitF M h v = -5 := by omega
              refine v_iinc ok 3 [(3, iv (n + 1)), (0, rf g 0), (1, iv h), (2, iv w), (4, iv b), (5, iv v)] dX9_fits_94 rfl (by decide) rfl ?_
              refine v_iload ok 5 dX9_fits_97 rfl ?_
              refine v_istore ok [(4, iv v), (3, iv (n + 1)), (0, rf g 0), (1, iv h), (2, iv w), (5, iv v)] dX9_fits_99 (by decide) rfl ?_
              refine v_iinc ok 5 [(5, iv (v + (-1))), (4, iv v), (3, iv (n + 1)), (0, rf g 0), (1, iv h), (2, iv w)] dX9_fits_101 rfl (by decide) rfl ?_
              refine v_goto (tgt := 45) ok dX9_fits_104 (by decide) ?_
              refine v_lv (ls' := [(0, rf g 0), (1, iv h), (2, iv w), (3, iv (n + 1)), (4, iv v), (5, iv (v + (-1)))]) ok [3, 4, 5, 2, 1, 0] rfl ?_
              exact ih45 (n + 1) v (v + (-1)) (up (M 3) h v) (jnR M (up (M 3) h v)) F21 O22 (by omega) (by rw [show v + (-1) = v - 1 from rfl, ftN_s i45_0.2, i45_1]; first | rw [if_pos (by assumption)] | (rw [if_neg (by assumption)]; omega)) (by rw [show v + (-1) = v - 1 from rfl, ftL_s i45_0.2]; first | rw [if_pos (by assumption)] | (rw [if_neg (by assumption)]; exact i45_2)) (fun v2 => up_up _ _ _ _) (by omega)
      refine v_lv (ls' := [(0, rf g 0), (1, iv h), (2, iv w), (3, iv 0), (4, iv (-5)), (5, iv 20)]) ok [3, 4, 5, 2, 1, 0] rfl ?_
      rw [show ((up1 (up1 (up1 (up1 (up1 (up1 (up1 (up1 M 42 ((M 3))) 45 ((M 6))) 44 (up (up (up ((M 44)) 1 ((M 5) 1)) 2 ((M 5) 2)) 3 ((M 5) 3))) 47 ((M 8))) 46 (up (up (up ((M 46)) 1 ((M 7) 1)) 2 ((M 7) 2)) 3 ((M 7) 3))) 49 ((M 10))) 48 (up (up (up ((M 48)) 1 ((M 9) 1)) 2 ((M 9) 2)) 3 ((M 9) 3))) 41 (up ((M 41)) 2 ((M 2) 2))) : Mem) = (up1 (up1 (up1 (up1 (up1 (up1 (up1 (up1 (up1 (up1 (up1 M 42 ((M 3))) 45 (M 6)) 44 (up (up (up (M 44) 1 (M 5 1)) 2 (M 5 2)) 3 (M 5 3))) 47 (M 8)) 46 (up (up (up (M 46) 1 (M 7 1)) 2 (M 7 2)) 3 (M 7 3))) 49 (M 10)) 48 (up (up (up (M 48) 1 (M 9 1)) 2 (M 9 2)) 3 (M 9 3))) 41 (up (M 41) 2 (M 2 2))) 53 (M 53)) 51 (M 51)) 52 (M 52)) from (by
            funext j
            by_cases hj0 : j = 42
            · subst hj0; simp [up1, up1_self]
            by_cases hj1 : j = 45
            · subst hj1; simp [up1, up1_self]
            by_cases hj2 : j = 44
            · subst hj2; simp [up1, up1_self]
            by_cases hj3 : j = 47
            · subst hj3; simp [up1, up1_self]
            by_cases hj4 : j = 46
            · subst hj4; simp [up1, up1_self]
            by_cases hj5 : j = 49
            · subst hj5; simp [up1, up1_self]
            by_cases hj6 : j = 48
            · subst hj6; simp [up1, up1_self]
            by_cases hj7 : j = 41
            · subst hj7; simp [up1, up1_self]
            by_cases hj8 : j = 53
            · subst hj8; simp [up1, up1_self]
            by_cases hj9 : j = 51
            · subst hj9; simp [up1, up1_self]
            by_cases hj10 : j = 52
            · subst hj10; simp [up1, up1_self]
            simp [up1, hj0, hj1, hj2, hj3, hj4, hj5, hj6, hj7, hj8, hj9, hj10])]
      exact lp45 _ 0 (-5) 20 ((M 3)) (M 53) (M 51) (M 52) (by omega) rfl rfl (fun _ => rfl) (Nat.lt_succ_self _)
    · skip
      subst M9
      show V z g 6 M [(0, rf g 0), (1, iv h), (2, iv w)] [iv 0] 16
      refine v_if_ne (tgt := 21) ok (by decide) dX9_fits_16 (by decide) (fun c27 => absurd c27 (by decide)) (fun c27 => ?_)
      refine v_iconst (n := -1) ok dX9_fits_19 ?_
      exact v_iret ok rt dX9_fits_20 (Or.inl (⟨rfl, rfl, (by omega)⟩))
  · skip
    subst M3
    show V z g 6 M [(0, rf g 0), (1, iv h), (2, iv w)] [iv 0] 7
    refine v_if_eq (tgt := 19) ok (by decide) dX9_fits_7 (by decide) (fun c28 => ?_) (fun c28 => absurd c28 (by decide))
    refine v_iconst (n := -1) ok dX9_fits_19 ?_
    exact v_iret ok rt dX9_fits_20 (Or.inl (⟨rfl, rfl, (by omega)⟩))
