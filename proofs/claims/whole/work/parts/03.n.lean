theorem mk_X9_judge_12 : Cond.fieldLink RX9 12 "StormRunoff" "now" "LStormRunoff$State;" ∈ wsX9_judge := by decide +kernel
theorem mi_X9_judge_9 : ∀ w ∈ wsX90, w ∈ wsX9_judge := by decide +kernel
theorem mk_X9_judge_67 : Cond.fieldLink RX9 67 "StormRunoff$State" "site" "LStormRunoff$Site;" ∈ wsX9_judge := by decide +kernel
theorem mi_X9_judge_7 : ∀ w ∈ wsX70, w ∈ wsX9_judge := by decide +kernel
theorem mk_X9_judge_63 : Cond.fieldLink RX9 63 "StormRunoff" "tapes" "[LStormRunoff$Tape;" ∈ wsX9_judge := by decide +kernel
theorem mk_X9_judge_235 : Cond.fieldLink RX9 235 "StormRunoff$Tape" "sort" "I" ∈ wsX9_judge := by decide +kernel
theorem mi_X9_judge_8 : ∀ w ∈ wsX80, w ∈ wsX9_judge := by decide +kernel
theorem mk_X9_judge_35 : Cond.fieldLink RX9 35 "StormRunoff" "course" "LStormRunoff$Course;" ∈ wsX9_judge := by decide +kernel
theorem mk_X9_judge_87 : Cond.fieldLink RX9 87 "StormRunoff$Site" "basins" "[LStormRunoff$Basin;" ∈ wsX9_judge := by decide +kernel
theorem mi_X9_judge_6 : ∀ w ∈ wsX60, w ∈ wsX9_judge := by decide +kernel
theorem mk_X9_judge_70 : Cond.fieldLink RX9 70 "StormRunoff$Site" "rain" "[I" ∈ wsX9_judge := by decide +kernel
theorem mk_X9_judge_238 : Cond.fieldLink RX9 238 "StormRunoff$Tape" "size" "I" ∈ wsX9_judge := by decide +kernel
theorem mk_X9_judge_241 : Cond.fieldLink RX9 241 "StormRunoff$Tape" "items" "[J" ∈ wsX9_judge := by decide +kernel
theorem mk_X9_judge_152 : Cond.fieldLink RX9 152 "StormRunoff$Course" "out" "[I" ∈ wsX9_judge := by decide +kernel
theorem mi_X9_judge_1 : ∀ w ∈ wsX10, w ∈ wsX9_judge := by decide +kernel
set_option maxRecDepth 100000 in
set_option maxHeartbeats 400000 in
theorem ct_X9_judge (l : Launch) (g : Gl) (M : Mem) (b t i : Int) (hb : i32 b) (ht : i32 t) (hi : i32 i) (hs : SiteOk M 2) (htp : TpsOk M) : Ct l g yX9_judge wsX9_judge 4 88 [rf g 0, iv b, iv t, iv i] M (fun rv M' => (rv = some (iv (-1)) ∧ M' = M ∧ (¬ (0 ≤ b ∧ b < M 2 2) ∨ ¬ (0 ≤ t ∧ t ≤ 5))) ∨ (rv = some (iv 100) ∧ M' = M ∧ (0 ≤ b ∧ b < M 2 2) ∧ (0 ≤ t ∧ t ≤ 5) ∧ (M (tpQ t) 1 = -1)) ∨ (rv = some (iv (-12)) ∧ M' = M ∧ (0 ≤ b ∧ b < M 2 2) ∧ (0 ≤ t ∧ t ≤ 5) ∧ (M (tpQ t) 1 ≠ -1 ∧ M (tpQ t) 1 ≠ 1)) ∨ (∃ (F : Int → Int), rv = some (iv (jdF (M (tpQ t + 1)) (otp (M (basQ b) 2) (M (basQ b) 3) (fl (M 3) (M (basQ b + 1)) 8)) i (M (tpQ t) 2) 30 0)) ∧ M' = (up1 (up1 M 51 F) 52 (otp (M (basQ b) 2) (M (basQ b) 3) (fl (M 3) (M (basQ b + 1)) 8))) ∧ (0 ≤ b ∧ b < M 2 2) ∧ (0 ≤ t ∧ t ≤ 5) ∧ (M (tpQ t) 1 = 1))) := by
  refine Ct.of (cc := cX9_judge) (nL := 6) (ret := (some .int)) (by decide) rfl (Nat.le_of_ble_eq_true rfl) (fun z hz ok rt => ?_)
  have ok : Ok z g cX9_judge 6 RX9 wsX9_judge 4 88 := ok
  show V z g 6 M [(0, rf g 0), (1, iv b), (2, iv t), (3, iv i)] [] 0
  have hR : bdf (M 3) 8 0 20 := hs.1
  have hm : 0 ≤ M 2 2 ∧ M 2 2 ≤ 3 := hs.2.1
  have hA0 : bdf (M 6) 5 0 9 := hs.2.2.1.1
  have hk0 : 0 ≤ M 5 2 ∧ M 5 2 ≤ 4 := hs.2.2.1.2.2.1
  have hn0 : 0 ≤ M 5 3 ∧ M 5 3 ≤ 9 := hs.2.2.1.2.2.2
  have hA1 : bdf (M 8) 5 0 9 := hs.2.2.2.1.1
  have hk1 : 0 ≤ M 7 2 ∧ M 7 2 ≤ 4 := hs.2.2.2.1.2.2.1
  have hn1 : 0 ≤ M 7 3 ∧ M 7 3 ≤ 9 := hs.2.2.2.1.2.2.2
  have hA2 : bdf (M 10) 5 0 9 := hs.2.2.2.2.1
  have hk2 : 0 ≤ M 9 2 ∧ M 9 2 ≤ 4 := hs.2.2.2.2.2.2.1
  have hn2 : 0 ≤ M 9 3 ∧ M 9 3 ≤ 9 := hs.2.2.2.2.2.2.2
  refine v_aload_n ok 0 dX9_judge_0 rfl rfl ?_
  refine v_get (T := TX9) (N := 9) (f0 := (M 0)) (v := rf g 1) ok mi_X9_judge_9 (kd_lt (show kd 0 = 9 from rfl) (by decide)) rfl rfl (cellF_9 _ (by decide)) 0 (by decide) mk_X9_judge_12 rfl rfl dX9_judge_1 ?_
  refine v_get (T := TX7) (N := 5) (f0 := (M 1)) (v := rf g 2) ok mi_X9_judge_7 (kd_lt (show kd 1 = 7 from rfl) (by decide)) rfl rfl (cellF_7 _ (by decide)) 0 (by decide) mk_X9_judge_67 rfl rfl dX9_judge_4 ?_
  refine v_iload_n ok 1 dX9_judge_7 rfl rfl ?_
  refine v_callV (na := 1) (i := 2) (C := RX6) (T := TX6) (N := 3) (f0 := (M 2)) ok (ct_X6_has z.2.1 g M 2 b (by decide) ⟨by omega, by omega⟩ hm) gX9_judge_X6_has (kd_lt (show kd 2 = 6 from rfl) (by decide)) rfl rfl (cellF_6 _ (by decide)) rfl (by decide +kernel) rfl (by decide) [] rfl (Nat.le_of_ble_eq_true rfl) dX9_judge_8 (fun v2 M3 hp1 => ?_)
  rcases hp1 with ⟨rfl, eM3, h4⟩ | ⟨rfl, eM3, h5⟩
  · skip
    subst M3
    have h4 : 0 ≤ b ∧ b < (M 2) 2 := h4
    show V z g 6 M [(0, rf g 0), (1, iv b), (2, iv t), (3, iv i)] [iv 1] 11
    refine v_if_eq (tgt := 22) ok (by decide) dX9_judge_11 (by decide) (fun c6 => absurd c6 (by decide)) (fun c6 => ?_)
    refine v_aload_n ok 0 dX9_judge_14 rfl rfl ?_
    refine v_iload_n ok 2 dX9_judge_15 rfl rfl ?_
    refine v_callV (na := 1) (i := 0) (C := RX9) (T := TX9) (N := 9) (f0 := (M 0)) ok (ct_X9_isTape z.2.1 g M t ⟨by omega, by omega⟩) gX9_judge_X9_isTape (kd_lt (show kd 0 = 9 from rfl) (by decide)) rfl rfl (cellF_9 _ (by decide)) rfl (by decide +kernel) rfl (by decide) [] rfl (Nat.le_of_ble_eq_true rfl) dX9_judge_16 (fun v8 M9 hp7 => ?_)
    rcases hp7 with ⟨rfl, eM9, h10⟩ | ⟨rfl, eM9, h11⟩
    · skip
      subst M9
      show V z g 6 M [(0, rf g 0), (1, iv b), (2, iv t), (3, iv i)] [iv 1] 19
      refine v_if_ne (tgt := 24) ok (by decide) dX9_judge_19 (by decide) (fun c12 => ?_) (fun c12 => absurd c12 (by decide))
      refine v_aload_n ok 0 dX9_judge_24 rfl rfl ?_
      refine v_get (T := TX9) (N := 9) (f0 := (M 0)) (v := rf g 65) ok mi_X9_judge_9 (kd_lt (show kd 0 = 9 from rfl) (by decide)) rfl rfl (cellF_9 _ (by decide)) 8 (by decide) mk_X9_judge_63 rfl rfl dX9_judge_25 ?_
      refine v_iload_n ok 2 dX9_judge_28 rfl rfl ?_
      refine v_aald14 ok (by decide) (by omega) dX9_judge_29 (fun q13 eq13 kq13 kkq13 lnq13 => ?_)
      have hq : q13 = tpQ t := by rw [eq13]; unfold tpQ; omega
      have htq := htp q13 kq13
      refine v_astore ok [(4, rf g q13), (0, rf g 0), (1, iv b), (2, iv t), (3, iv i)] dX9_judge_30 (by decide) rfl ?_
      refine v_aload ok 0 dX9_judge_32 rfl ?_
      refine v_get (T := TX8) (N := 3) (f0 := (M q13)) (v := iv (M q13 1)) ok mi_X9_judge_8 (kd_lt kq13 (by decide)) rfl rfl (cellF_8 _ kq13) 1 (by decide) mk_X9_judge_235 rfl rfl dX9_judge_34 ?_
      refine v_iconst (n := -1) ok dX9_judge_37 ?_
      refine v_icmp_ne (tgt := 44) ok ⟨by omega, by omega⟩ (by decide) dX9_judge_38 (by decide) (fun c14 => ?_) (fun c14 => ?_)
      · skip
        refine v_aload ok 0 dX9_judge_44 rfl ?_
        refine v_get (T := TX8) (N := 3) (f0 := (M q13)) (v := iv (M q13 1)) ok mi_X9_judge_8 (kd_lt kq13 (by decide)) rfl rfl (cellF_8 _ kq13) 1 (by decide) mk_X9_judge_235 rfl rfl dX9_judge_46 ?_
        refine v_iconst (n := 1) ok dX9_judge_49 ?_
        refine v_icmp_eq (tgt := 56) ok ⟨by omega, by omega⟩ (by decide) dX9_judge_50 (by decide) (fun c15 => ?_) (fun c15 => ?_)
        · skip
          have hsp56 : b = 0 ∨ b = 1 ∨ b = 2 := by omega
          rcases hsp56 with rfl | rfl | rfl
          · skip
            refine v_aload_n ok 1 dX9_judge_56 rfl rfl ?_
            refine v_get (T := TX9) (N := 9) (f0 := (M 0)) (v := rf g 50) ok mi_X9_judge_9 (kd_lt (show kd 0 = 9 from rfl) (by decide)) rfl rfl (cellF_9 _ (by decide)) 4 (by decide) mk_X9_judge_35 rfl rfl dX9_judge_57 ?_
            refine v_aload_n ok 1 dX9_judge_60 rfl rfl ?_
            refine v_get (T := TX9) (N := 9) (f0 := (M 0)) (v := rf g 1) ok mi_X9_judge_9 (kd_lt (show kd 0 = 9 from rfl) (by decide)) rfl rfl (cellF_9 _ (by decide)) 0 (by decide) mk_X9_judge_12 rfl rfl dX9_judge_61 ?_
            refine v_get (T := TX7) (N := 5) (f0 := (M 1)) (v := rf g 2) ok mi_X9_judge_7 (kd_lt (show kd 1 = 7 from rfl) (by decide)) rfl rfl (cellF_7 _ (by decide)) 0 (by decide) mk_X9_judge_67 rfl rfl dX9_judge_64 ?_
            refine v_get (T := TX6) (N := 3) (f0 := (M 2)) (v := rf g 4) ok mi_X9_judge_6 (kd_lt (show kd 2 = 6 from rfl) (by decide)) rfl rfl (cellF_6 _ (by decide)) 1 (by decide) mk_X9_judge_87 rfl rfl dX9_judge_67 ?_
            refine v_iload_n ok 2 dX9_judge_70 rfl rfl ?_
            refine v_aald13L (q := 5) ok (by decide) (by decide) rfl dX9_judge_71 ?_
            refine v_aload_n ok 1 dX9_judge_72 rfl rfl ?_
            refine v_get (T := TX9) (N := 9) (f0 := (M 0)) (v := rf g 1) ok mi_X9_judge_9 (kd_lt (show kd 0 = 9 from rfl) (by decide)) rfl rfl (cellF_9 _ (by decide)) 0 (by decide) mk_X9_judge_12 rfl rfl dX9_judge_73 ?_
            refine v_get (T := TX7) (N := 5) (f0 := (M 1)) (v := rf g 2) ok mi_X9_judge_7 (kd_lt (show kd 1 = 7 from rfl) (by decide)) rfl rfl (cellF_7 _ (by decide)) 0 (by decide) mk_X9_judge_67 rfl rfl dX9_judge_76 ?_
            refine v_get (T := TX6) (N := 3) (f0 := (M 2)) (v := rf g 3) ok mi_X9_judge_6 (kd_lt (show kd 2 = 6 from rfl) (by decide)) rfl rfl (cellF_6 _ (by decide)) 0 (by decide) mk_X9_judge_70 rfl rfl dX9_judge_79 ?_
            refine v_callV (na := 2) (i := 50) (C := RX1) (T := TX1) (N := 3) (f0 := (M 50)) ok (ct_X1_runOff z.2.1 g M 5 3 (by decide) (by decide) rfl (by first | omega | assumption) (by first | omega | assumption) hR (by assumption)) gX9_judge_X1_runOff (kd_lt (show kd 50 = 1 from rfl) (by decide)) rfl rfl (cellF_1 _ (by decide)) rfl (by decide +kernel) rfl (by decide) [] rfl (Nat.le_of_ble_eq_true rfl) dX9_judge_82 (fun v17 M18 hp16 => ?_)
            obtain ⟨rfl, rfl⟩ := hp16
            show V z g 6 (up1 (up1 M 51 (fl ((M 3)) ((M 6)) 8)) 52 (otp ((M 5) 2) ((M 5) 3) (fl ((M 3)) ((M 6)) 8))) [(4, rf g q13), (0, rf g 0), (1, iv 0), (2, iv t), (3, iv i)] [iv (sto ((M 5) 2) ((M 5) 3) (fl ((M 3)) ((M 6)) 8) 30)] 85
            refine v_pop ok rfl dX9_judge_85 ?_
            have hou : bdf (otp ((M 5) 2) ((M 5) 3) (fl ((M 3)) ((M 6)) 8)) 30 0 43200 := otp_rng (bas_ok hs (b := 0) (by omega) (by omega)).2.2.2.1 (fl_rng hs.1 (bas_ok hs (b := 0) (by omega) (by omega)).1 30)
            refine v_iconst (n := 0) ok dX9_judge_86 ?_
            refine v_istore ok [(5, iv 0), (4, rf g q13), (0, rf g 0), (1, iv 0), (2, iv t), (3, iv i)] dX9_judge_87 (by decide) rfl ?_
            have lp89 : ∀ (fu : Nat) (h : Int), (0 ≤ h ∧ h ≤ 30) → (jdF (M (q13 + 1)) (otp ((M 5) 2) ((M 5) 3) (fl ((M 3)) ((M 6)) 8)) i (M q13 2) 30 0 = jdF (M (q13 + 1)) (otp ((M 5) 2) ((M 5) 3) (fl ((M 3)) ((M 6)) 8)) i (M q13 2) (30 - h).toNat h) → (30 - h).toNat < fu → V z g 6 (up1 (up1 M 51 (fl ((M 3)) ((M 6)) 8)) 52 (otp ((M 5) 2) ((M 5) 3) (fl ((M 3)) ((M 6)) 8))) [(0, rf g 0), (1, iv 0), (2, iv t), (3, iv i), (4, rf g q13), (5, iv h)] [] 89 := by
              intro fu
              induction fu with
              | zero => intro h _ _ hm; exact absurd hm (Nat.not_lt_zero _)
              | succ fu ih89 =>
                intro h i89_0 i89_1 hm89
                refine v_iload ok 5 dX9_judge_89 rfl ?_
                refine v_bipush (n := 30) ok rfl dX9_judge_91 ?_
                refine v_icmp_ge (tgt := 154) ok ⟨by omega, by omega⟩ (by decide) dX9_judge_93 (by decide) (fun c19 => ?_) (fun c19 => ?_)
                · skip
                  refine v_bipush (n := -5) ok rfl dX9_judge_154 ?_
                  exact v_iret ok rt dX9_judge_156 (Or.inr (Or.inr (Or.inr (⟨(fl ((M 3)) ((M 6)) 8), (congrArg (fun q : Int => some (iv q)) (show (-5) = (jdF (M (tpQ t + 1)) (otp (M (basQ 0) 2) (M (basQ 0) 3) (fl (M 3) (M (basQ 0 + 1)) 8)) i (M (tpQ t) 2) 30 0) from by (rw [← hq]; exact (i89_1.trans (by rw [show (30 - h).toNat = 0 by omega]; rfl)).symm))), rfl, (by omega), (by omega), (by rw [← hq]; omega)⟩))))
                · skip
                  refine v_iload_n ok 3 dX9_judge_96 rfl rfl ?_
                  refine v_iconst (n := 0) ok dX9_judge_97 ?_
                  refine v_aload ok 4 dX9_judge_98 rfl ?_
                  refine v_get (T := TX8) (N := 3) (f0 := (M q13)) (v := iv (M q13 2)) ok mi_X9_judge_8 (kd_lt kq13 (by decide)) rfl (by rw [up1_ne (kd_ne (show kd q13 = 8 from kq13) (show kd 52 = 11 from rfl) (by decide)), up1_ne (kd_ne (show kd q13 = 8 from kq13) (show kd 51 = 11 from rfl) (by decide))]) (cellF_8 _ kq13) 2 (by decide) mk_X9_judge_238 rfl rfl dX9_judge_100 ?_
                  refine v_iconst (n := 1) ok dX9_judge_103 ?_
                  refine v_isub ok dX9_judge_104 ?_
                  refine v_iload ok 5 dX9_judge_105 rfl ?_
                  refine v_isub ok dX9_judge_107 ?_
                  refine v_callS (na := 3) ok (ct_X9_between z.2.1 g (up1 (up1 M 51 (fl ((M 3)) ((M 6)) 8)) 52 (otp ((M 5) 2) ((M 5) 3) (fl ((M 3)) ((M 6)) 8))) i 0 (((M q13 2) - 1) - h) ⟨by omega, by omega⟩ (by decide) ⟨by omega, by omega⟩) gX9_judge_X9_between rfl (by decide +kernel) rfl (by decide) [] rfl (Nat.le_of_ble_eq_true rfl) dX9_judge_108 (fun v21 M22 hp20 => ?_)
                  rcases hp20 with ⟨rfl, rfl, h23⟩ | ⟨rfl, rfl, h24⟩
                  · skip
                    show V z g 6 (up1 (up1 M 51 (fl ((M 3)) ((M 6)) 8)) 52 (otp ((M 5) 2) ((M 5) 3) (fl ((M 3)) ((M 6)) 8))) [(0, rf g 0), (1, iv 0), (2, iv t), (3, iv i), (4, rf g q13), (5, iv h)] [iv 1] 111
                    have hou1 := hou h (by omega) (by omega)
                    have hit := htq.2.2 (i + h) (by omega) (by omega)
                    refine v_if_ne (tgt := 120) ok (by decide) dX9_judge_111 (by decide) (fun c25 => ?_) (fun c25 => absurd c25 (by decide))
                    refine v_aload ok 4 dX9_judge_120 rfl ?_
                    refine v_get (T := TX8) (N := 3) (f0 := (M q13)) (v := rf g (q13 + 1)) ok mi_X9_judge_8 (kd_lt kq13 (by decide)) rfl (by rw [up1_ne (kd_ne (show kd q13 = 8 from kq13) (show kd 52 = 11 from rfl) (by decide)), up1_ne (kd_ne (show kd q13 = 8 from kq13) (show kd 51 = 11 from rfl) (by decide))]) (cellF_8 _ kq13) 0 (by decide) mk_X9_judge_241 rfl rfl dX9_judge_122 ?_
                    refine v_iload_n ok 3 dX9_judge_125 rfl rfl ?_
                    refine v_iload ok 5 dX9_judge_126 rfl ?_
                    refine v_iadd ok dX9_judge_128 ?_
                    refine v_lald (n := 60) (f0 := (M (q13 + 1))) ok kkq13 lnq13 (by omega) (by rw [up1_ne (kd_ne (show kd (q13 + 1) = 12 from kkq13) (show kd 52 = 11 from rfl) (by decide)), up1_ne (kd_ne (show kd (q13 + 1) = 12 from kkq13) (show kd 51 = 11 from rfl) (by decide))]) dX9_judge_129 ?_
                    refine v_aload_n ok 0 dX9_judge_130 rfl rfl ?_
                    refine v_get (T := TX9) (N := 9) (f0 := (M 0)) (v := rf g 50) ok mi_X9_judge_9 (kd_lt (show kd 0 = 9 from rfl) (by decide)) rfl rfl (cellF_9 _ (by decide)) 4 (by decide) mk_X9_judge_35 rfl rfl dX9_judge_131 ?_
                    refine v_get (T := TX1) (N := 3) (f0 := (M 50)) (v := rf g 52) ok mi_X9_judge_1 (kd_lt (show kd 50 = 1 from rfl) (by decide)) rfl rfl (cellF_1 _ (by decide)) 1 (by decide) mk_X9_judge_152 rfl rfl dX9_judge_134 ?_
                    refine v_iload ok 5 dX9_judge_137 rfl ?_
                    refine v_iald (n := 30) (f0 := (otp ((M 5) 2) ((M 5) 3) (fl ((M 3)) ((M 6)) 8))) ok (by decide) rfl (by omega) rfl dX9_judge_139 ?_
                    refine v_i2l ok ⟨by omega, by omega⟩ dX9_judge_140 ?_
                    refine v_lcmp ok ⟨by omega, by omega⟩ ⟨by omega, by omega⟩ dX9_judge_141 (fun r26 hc27a hc27b hc27c hc27d => ?_)
                    refine v_if_eq (tgt := 148) ok ⟨by omega, by omega⟩ dX9_judge_142 (by decide) (fun c28 => ?_) (fun c28 => ?_)
                    · skip
                      refine v_iinc ok 5 [(5, iv (h + 1)), (0, rf g 0), (1, iv 0), (2, iv t), (3, iv i), (4, rf g q13)] dX9_judge_148 rfl (by decide) rfl ?_
                      refine v_goto (tgt := 89) ok dX9_judge_151 (by decide) ?_
                      refine v_lv (ls' := [(0, rf g 0), (1, iv 0), (2, iv t), (3, iv i), (4, rf g q13), (5, iv (h + 1))]) ok [1, 2, 3, 4, 5, 0] rfl ?_
                      exact ih89 (h + 1) (by omega) (by rw [i89_1, nat_s (show h < 30 by omega), jdF_c (by omega) (by omega)]) (by omega)
                    · skip
                      refine v_iload ok 5 dX9_judge_145 rfl ?_
                      exact v_iret ok rt dX9_judge_147 (Or.inr (Or.inr (Or.inr (⟨(fl ((M 3)) ((M 6)) 8), (congrArg (fun q : Int => some (iv q)) (show h = (jdF (M (tpQ t + 1)) (otp (M (basQ 0) 2) (M (basQ 0) 3) (fl (M 3) (M (basQ 0 + 1)) 8)) i (M (tpQ t) 2) 30 0) from by (rw [← hq]; exact (i89_1.trans (by rw [nat_s (show h < 30 by omega), jdF_b (by omega) (by omega)])).symm))), rfl, (by omega), (by omega), (by rw [← hq]; omega)⟩))))
                  · skip
                    show V z g 6 (up1 (up1 M 51 (fl ((M 3)) ((M 6)) 8)) 52 (otp ((M 5) 2) ((M 5) 3) (fl ((M 3)) ((M 6)) 8))) [(0, rf g 0), (1, iv 0), (2, iv t), (3, iv i), (4, rf g q13), (5, iv h)] [iv 0] 111
                    refine v_if_ne (tgt := 120) ok (by decide) dX9_judge_111 (by decide) (fun c29 => absurd c29 (by decide)) (fun c29 => ?_)
                    refine v_bipush (n := 100) ok rfl dX9_judge_114 ?_
                    refine v_iload ok 5 dX9_judge_116 rfl ?_
                    refine v_iadd ok dX9_judge_118 ?_
                    exact v_iret ok rt dX9_judge_119 (Or.inr (Or.inr (Or.inr (⟨(fl ((M 3)) ((M 6)) 8), (congrArg (fun q : Int => some (iv q)) (show (100 + h) = (jdF (M (tpQ t + 1)) (otp (M (basQ 0) 2) (M (basQ 0) 3) (fl (M 3) (M (basQ 0 + 1)) 8)) i (M (tpQ t) 2) 30 0) from by (rw [← hq]; exact (i89_1.trans (by rw [nat_s (show h < 30 by omega), jdF_a (by omega)])).symm))), rfl, (by omega), (by omega), (by rw [← hq]; omega)⟩))))
            refine v_lv (ls' := [(0, rf g 0), (1, iv 0), (2, iv t), (3, iv i), (4, rf g q13), (5, iv 0)]) ok [2, 3, 4, 5, 1, 0] rfl ?_
            exact lp89 _ 0 (by omega) rfl (Nat.lt_succ_self _)
          · skip
            refine v_aload_n ok 1 dX9_judge_56 rfl rfl ?_
            refine v_get (T := TX9) (N := 9) (f0 := (M 0)) (v := rf g 50) ok mi_X9_judge_9 (kd_lt (show kd 0 = 9 from rfl) (by decide)) rfl rfl (cellF_9 _ (by decide)) 4 (by decide) mk_X9_judge_35 rfl rfl dX9_judge_57 ?_
            refine v_aload_n ok 1 dX9_judge_60 rfl rfl ?_
            refine v_get (T := TX9) (N := 9) (f0 := (M 0)) (v := rf g 1) ok mi_X9_judge_9 (kd_lt (show kd 0 = 9 from rfl) (by decide)) rfl rfl (cellF_9 _ (by decide)) 0 (by decide) mk_X9_judge_12 rfl rfl dX9_judge_61 ?_
            refine v_get (T := TX7) (N := 5) (f0 := (M 1)) (v := rf g 2) ok mi_X9_judge_7 (kd_lt (show kd 1 = 7 from rfl) (by decide)) rfl rfl (cellF_7 _ (by decide)) 0 (by decide) mk_X9_judge_67 rfl rfl dX9_judge_64 ?_
            refine v_get (T := TX6) (N := 3) (f0 := (M 2)) (v := rf g 4) ok mi_X9_judge_6 (kd_lt (show kd 2 = 6 from rfl) (by decide)) rfl rfl (cellF_6 _ (by decide)) 1 (by decide) mk_X9_judge_87 rfl rfl dX9_judge_67 ?_
            refine v_iload_n ok 2 dX9_judge_70 rfl rfl ?_
            refine v_aald13L (q := 7) ok (by decide) (by decide) rfl dX9_judge_71 ?_
            refine v_aload_n ok 1 dX9_judge_72 rfl rfl ?_
            refine v_get (T := TX9) (N := 9) (f0 := (M 0)) (v := rf g 1) ok mi_X9_judge_9 (kd_lt (show kd 0 = 9 from rfl) (by decide)) rfl rfl (cellF_9 _ (by decide)) 0 (by decide) mk_X9_judge_12 rfl rfl dX9_judge_73 ?_
            refine v_get (T := TX7) (N := 5) (f0 := (M 1)) (v := rf g 2) ok mi_X9_judge_7 (kd_lt (show kd 1 = 7 from rfl) (by decide)) rfl rfl (cellF_7 _ (by decide)) 0 (by decide) mk_X9_judge_67 rfl rfl dX9_judge_76 ?_
            refine v_get (T := TX6) (N := 3) (f0 := (M 2)) (v := rf g 3) ok mi_X9_judge_6 (kd_lt (show kd 2 = 6 from rfl) (by decide)) rfl rfl (cellF_6 _ (by decide)) 0 (by decide) mk_X9_judge_70 rfl rfl dX9_judge_79 ?_
            refine v_callV (na := 2) (i := 50) (C := RX1) (T := TX1) (N := 3) (f0 := (M 50)) ok (ct_X1_runOff z.2.1 g M 7 3 (by decide) (by decide) rfl (by first | omega | assumption) (by first | omega | assumption) hR (by assumption)) gX9_judge_X1_runOff (kd_lt (show kd 50 = 1 from rfl) (by decide)) rfl rfl (cellF_1 _ (by decide)) rfl (by decide +kernel) rfl (by decide) [] rfl (Nat.le_of_ble_eq_true rfl) dX9_judge_82 (fun v31 M32 hp30 => ?_)
            obtain ⟨rfl, rfl⟩ := hp30
            show V z g 6 (up1 (up1 M 51 (fl ((M 3)) ((M 8)) 8)) 52 (otp ((M 7) 2) ((M 7) 3) (fl ((M 3)) ((M 8)) 8))) [(4, rf g q13), (0, rf g 0), (1, iv 1), (2, iv t), (3, iv i)] [iv (sto ((M 7) 2) ((M 7) 3) (fl ((M 3)) ((M 8)) 8) 30)] 85
            refine v_pop ok rfl dX9_judge_85 ?_
            have hou : bdf (otp ((M 7) 2) ((M 7) 3) (fl ((M 3)) ((M 8)) 8)) 30 0 43200 := otp_rng (bas_ok hs (b := 1) (by omega) (by omega)).2.2.2.1 (fl_rng hs.1 (bas_ok hs (b := 1) (by omega) (by omega)).1 30)
            refine v_iconst (n := 0) ok dX9_judge_86 ?_
            refine v_istore ok [(5, iv 0), (4, rf g q13), (0, rf g 0), (1, iv 1), (2, iv t), (3, iv i)] dX9_judge_87 (by decide) rfl ?_
            have lp89x : ∀ (fu : Nat) (h : Int), (0 ≤ h ∧ h ≤ 30) → (jdF (M (q13 + 1)) (otp ((M 7) 2) ((M 7) 3) (fl ((M 3)) ((M 8)) 8)) i (M q13 2) 30 0 = jdF (M (q13 + 1)) (otp ((M 7) 2) ((M 7) 3) (fl ((M 3)) ((M 8)) 8)) i (M q13 2) (30 - h).toNat h) → (30 - h).toNat < fu → V z g 6 (up1 (up1 M 51 (fl ((M 3)) ((M 8)) 8)) 52 (otp ((M 7) 2) ((M 7) 3) (fl ((M 3)) ((M 8)) 8))) [(0, rf g 0), (1, iv 1), (2, iv t), (3, iv i), (4, rf g q13), (5, iv h)] [] 89 := by
              intro fu
              induction fu with
              | zero => intro h _ _ hm; exact absurd hm (Nat.not_lt_zero _)
              | succ fu ih89 =>
                intro h i89_0 i89_1 hm89
                refine v_iload ok 5 dX9_judge_89 rfl ?_
                refine v_bipush (n := 30) ok rfl dX9_judge_91 ?_
                refine v_icmp_ge (tgt := 154) ok ⟨by omega, by omega⟩ (by decide) dX9_judge_93 (by decide) (fun c33 => ?_) (fun c33 => ?_)
                · skip
                  refine v_bipush (n := -5) ok rfl dX9_judge_154 ?_
                  exact v_iret ok rt dX9_judge_156 (Or.inr (Or.inr (Or.inr (⟨(fl ((M 3)) ((M 8)) 8), (congrArg (fun q : Int => some (iv q)) (show (-5) = (jdF (M (tpQ t + 1)) (otp (M (basQ 1) 2) (M (basQ 1) 3) (fl (M 3) (M (basQ 1 + 1)) 8)) i (M (tpQ t) 2) 30 0) from by (rw [← hq]; exact (i89_1.trans (by rw [show (30 - h).toNat = 0 by omega]; rfl)).symm))), rfl, (by omega), (by omega), (by rw [← hq]; omega)⟩))))
                · skip
                  refine v_iload_n ok 3 dX9_judge_96 rfl rfl ?_
                  refine v_iconst (n := 0) ok dX9_judge_97 ?_
                  refine v_aload ok 4 dX9_judge_98 rfl ?_
                  refine v_get (T := TX8) (N := 3) (f0 := (M q13)) (v := iv (M q13 2)) ok mi_X9_judge_8 (kd_lt kq13 (by decide)) rfl (by rw [up1_ne (kd_ne (show kd q13 = 8 from kq13) (show kd 52 = 11 from rfl) (by decide)), up1_ne (kd_ne (show kd q13 = 8 from kq13) (show kd 51 = 11 from rfl) (by decide))]) (cellF_8 _ kq13) 2 (by decide) mk_X9_judge_238 rfl rfl dX9_judge_100 ?_
                  refine v_iconst (n := 1) ok dX9_judge_103 ?_
                  refine v_isub ok dX9_judge_104 ?_
                  refine v_iload ok 5 dX9_judge_105 rfl ?_
                  refine v_isub ok dX9_judge_107 ?_
                  refine v_callS (na := 3) ok (ct_X9_between z.2.1 g (up1 (up1 M 51 (fl ((M 3)) ((M 8)) 8)) 52 (otp ((M 7) 2) ((M 7) 3) (fl ((M 3)) ((M 8)) 8))) i 0 (((M q13 2) - 1) - h) ⟨by omega, by omega⟩ (by decide) ⟨by omega, by omega⟩) gX9_judge_X9_between rfl (by decide +kernel) rfl (by decide) [] rfl (Nat.le_of_ble_eq_true rfl) dX9_judge_108 (fun v35 M36 hp34 => ?_)
                  rcases hp34 with ⟨rfl, rfl, h37⟩ | ⟨rfl, rfl, h38⟩
                  · skip
                    show V z g 6 (up1 (up1 M 51 (fl ((M 3)) ((M 8)) 8)) 52 (otp ((M 7) 2) ((M 7) 3) (fl ((M 3)) ((M 8)) 8))) [(0, rf g 0), (1, iv 1), (2, iv t), (3, iv i), (4, rf g q13), (5, iv h)] [iv 1] 111
                    have hou1 := hou h (by omega) (by omega)
                    have hit := htq.2.2 (i + h) (by omega) (by omega)
                    refine v_if_ne (tgt := 120) ok (by decide) dX9_judge_111 (by decide) (fun c39 => ?_) (fun c39 => absurd c39 (by decide))
                    refine v_aload ok 4 dX9_judge_120 rfl ?_
                    refine v_get (T := TX8) (N := 3) (f0 := (M q13)) (v := rf g (q13 + 1)) ok mi_X9_judge_8 (kd_lt kq13 (by decide)) rfl (by rw [up1_ne (kd_ne (show kd q13 = 8 from kq13) (show kd 52 = 11 from rfl) (by decide)), up1_ne (kd_ne (show kd q13 = 8 from kq13) (show kd 51 = 11 from rfl) (by decide))]) (cellF_8 _ kq13) 0 (by decide) mk_X9_judge_241 rfl rfl dX9_judge_122 ?_
                    refine v_iload_n ok 3 dX9_judge_125 rfl rfl ?_
                    refine v_iload ok 5 dX9_judge_126 rfl ?_
                    refine v_iadd ok dX9_judge_128 ?_
                    refine v_lald (n := 60) (f0 := (M (q13 + 1))) ok kkq13 lnq13 (by omega) (by rw [up1_ne (kd_ne (show kd (q13 + 1) = 12 from kkq13) (show kd 52 = 11 from rfl) (by decide)), up1_ne (kd_ne (show kd (q13 + 1) = 12 from kkq13) (show kd 51 = 11 from rfl) (by decide))]) dX9_judge_129 ?_
                    refine v_aload_n ok 0 dX9_judge_130 rfl rfl ?_
                    refine v_get (T := TX9) (N := 9) (f0 := (M 0)) (v := rf g 50) ok mi_X9_judge_9 (kd_lt (show kd 0 = 9 from rfl) (by decide)) rfl rfl (cellF_9 _ (by decide)) 4 (by decide) mk_X9_judge_35 rfl rfl dX9_judge_131 ?_
                    refine v_get (T := TX1) (N := 3) (f0 := (M 50)) (v := rf g 52) ok mi_X9_judge_1 (kd_lt (show kd 50 = 1 from rfl) (by decide)) rfl rfl (cellF_1 _ (by decide)) 1 (by decide) mk_X9_judge_152 rfl rfl dX9_judge_134 ?_
                    refine v_iload ok 5 dX9_judge_137 rfl ?_
                    refine v_iald (n := 30) (f0 := (otp ((M 7) 2) ((M 7) 3) (fl ((M 3)) ((M 8)) 8))) ok (by decide) rfl (by omega) rfl dX9_judge_139 ?_
                    refine v_i2l ok ⟨by omega, by omega⟩ dX9_judge_140 ?_
                    refine v_lcmp ok ⟨by omega, by omega⟩ ⟨by omega, by omega⟩ dX9_judge_141 (fun r40 hc41a hc41b hc41c hc41d => ?_)
                    refine v_if_eq (tgt := 148) ok ⟨by omega, by omega⟩ dX9_judge_142 (by decide) (fun c42 => ?_) (fun c42 => ?_)
                    · skip
                      refine v_iinc ok 5 [(5, iv (h + 1)), (0, rf g 0), (1, iv 1), (2, iv t), (3, iv i), (4, rf g q13)] dX9_judge_148 rfl (by decide) rfl ?_
                      refine v_goto (tgt := 89) ok dX9_judge_151 (by decide) ?_
                      refine v_lv (ls' := [(0, rf g 0), (1, iv 1), (2, iv t), (3, iv i), (4, rf g q13), (5, iv (h + 1))]) ok [1, 2, 3, 4, 5, 0] rfl ?_
                      exact ih89 (h + 1) (by omega) (by rw [i89_1, nat_s (show h < 30 by omega), jdF_c (by omega) (by omega)]) (by omega)
                    · skip
                      refine v_iload ok 5 dX9_judge_145 rfl ?_
                      exact v_iret ok rt dX9_judge_147 (Or.inr (Or.inr (Or.inr (⟨(fl ((M 3)) ((M 8)) 8), (congrArg (fun q : Int => some (iv q)) (show h = (jdF (M (tpQ t + 1)) (otp (M (basQ 1) 2) (M (basQ 1) 3) (fl (M 3) (M (basQ 1 + 1)) 8)) i (M (tpQ t) 2) 30 0) from by (rw [← hq]; exact (i89_1.trans (by rw [nat_s (show h < 30 by omega), jdF_b (by omega) (by omega)])).symm))), rfl, (by omega), (by omega), (by rw [← hq]; omega)⟩))))
                  · skip
                    show V z g 6 (up1 (up1 M 51 (fl ((M 3)) ((M 8)) 8)) 52 (otp ((M 7) 2) ((M 7) 3) (fl ((M 3)) ((M 8)) 8))) [(0, rf g 0), (1, iv 1), (2, iv t), (3, iv i), (4, rf g q13), (5, iv h)] [iv 0] 111
                    refine v_if_ne (tgt := 120) ok (by decide) dX9_judge_111 (by decide) (fun c43 => absurd c43 (by decide)) (fun c43 => ?_)
                    refine v_bipush (n := 100) ok rfl dX9_judge_114 ?_
                    refine v_iload ok 5 dX9_judge_116 rfl ?_
                    refine v_iadd ok dX9_judge_118 ?_
                    exact v_iret ok rt dX9_judge_119 (Or.inr (Or.inr (Or.inr (⟨(fl ((M 3)) ((M 8)) 8), (congrArg (fun q : Int => some (iv q)) (show (100 + h) = (jdF (M (tpQ t + 1)) (otp (M (basQ 1) 2) (M (basQ 1) 3) (fl (M 3) (M (basQ 1 + 1)) 8)) i (M (tpQ t) 2) 30 0) from by (rw [← hq]; exact (i89_1.trans (by rw [nat_s (show h < 30 by omega), jdF_a (by omega)])).symm))), rfl, (by omega), (by omega), (by rw [← hq]; omega)⟩))))
            refine v_lv (ls' := [(0, rf g 0), (1, iv 1), (2, iv t), (3, iv i), (4, rf g q13), (5, iv 0)]) ok [2, 3, 4, 5, 1, 0] rfl ?_
            exact lp89x _ 0 (by omega) rfl (Nat.lt_succ_self _)
          · skip
            refine v_aload_n ok 1 dX9_judge_56 rfl rfl ?_
            refine v_get (T := TX9) (N := 9) (f0 := (M 0)) (v := rf g 50) ok mi_X9_judge_9 (kd_lt (show kd 0 = 9 from rfl) (by decide)) rfl rfl (cellF_9 _ (by decide)) 4 (by decide) mk_X9_judge_35 rfl rfl dX9_judge_57 ?_
            refine v_aload_n ok 1 dX9_judge_60 rfl rfl ?_
            refine v_get (T := TX9) (N := 9) (f0 := (M 0)) (v := rf g 1) ok mi_X9_judge_9 (kd_lt (show kd 0 = 9 from rfl) (by decide)) rfl rfl (cellF_9 _ (by decide)) 0 (by decide) mk_X9_judge_12 rfl rfl dX9_judge_61 ?_
            refine v_get (T := TX7) (N := 5) (f0 := (M 1)) (v := rf g 2) ok mi_X9_judge_7 (kd_lt (show kd 1 = 7 from rfl) (by decide)) rfl rfl (cellF_7 _ (by decide)) 0 (by decide) mk_X9_judge_67 rfl rfl dX9_judge_64 ?_
            refine v_get (T := TX6) (N := 3) (f0 := (M 2)) (v := rf g 4) ok mi_X9_judge_6 (kd_lt (show kd 2 = 6 from rfl) (by decide)) rfl rfl (cellF_6 _ (by decide)) 1 (by decide) mk_X9_judge_87 rfl rfl dX9_judge_67 ?_
            refine v_iload_n ok 2 dX9_judge_70 rfl rfl ?_
            refine v_aald13L (q := 9) ok (by decide) (by decide) rfl dX9_judge_71 ?_
            refine v_aload_n ok 1 dX9_judge_72 rfl rfl ?_
            refine v_get (T := TX9) (N := 9) (f0 := (M 0)) (v := rf g 1) ok mi_X9_judge_9 (kd_lt (show kd 0 = 9 from rfl) (by decide)) rfl rfl (cellF_9 _ (by decide)) 0 (by decide) mk_X9_judge_12 rfl rfl dX9_judge_73 ?_
            refine v_get (T := TX7) (N := 5) (f0 := (M 1)) (v := rf g 2) ok mi_X9_judge_7 (kd_lt (show kd 1 = 7 from rfl) (by decide)) rfl rfl (cellF_7 _ (by decide)) 0 (by decide) mk_X9_judge_67 rfl rfl dX9_judge_76 ?_
            refine v_get (T := TX6) (N := 3) (f0 := (M 2)) (v := rf g 3) ok mi_X9_judge_6 (kd_lt (show kd 2 = 6 from rfl) (by decide)) rfl rfl (cellF_6 _ (by decide)) 0 (by decide) mk_X9_judge_70 rfl rfl dX9_judge_79 ?_
            refine v_callV (na := 2) (i := 50) (C := RX1) (T := TX1) (N := 3) (f0 := (M 50)) ok (ct_X1_runOff z.2.1 g M 9 3 (by decide) (by decide) rfl (by first | omega | assumption) (by first | omega | assumption) hR (by assumption)) gX9_judge_X1_runOff (kd_lt (show kd 50 = 1 from rfl) (by decide)) rfl rfl (cellF_1 _ (by decide)) rfl (by decide +kernel) rfl (by decide) [] rfl (Nat.le_of_ble_eq_true rfl) dX9_judge_82 (fun v45 M46 hp44 => ?_)
            obtain ⟨rfl, rfl⟩ := hp44
            show V z g 6 (up1 (up1 M 51 (fl ((M 3)) ((M 10)) 8)) 52 (otp ((M 9) 2) ((M 9) 3) (fl ((M 3)) ((M 10)) 8))) [(4, rf g q13), (0, rf g 0), (1, iv 2), (2, iv t), (3, iv i)] [iv (sto ((M 9) 2) ((M 9) 3) (fl ((M 3)) ((M 10)) 8) 30)] 85
            refine v_pop ok rfl dX9_judge_85 ?_
            have hou : bdf (otp ((M 9) 2) ((M 9) 3) (fl ((M 3)) ((M 10)) 8)) 30 0 43200 := otp_rng (bas_ok hs (b := 2) (by omega) (by omega)).2.2.2.1 (fl_rng hs.1 (bas_ok hs (b := 2) (by omega) (by omega)).1 30)
            refine v_iconst (n := 0) ok dX9_judge_86 ?_
            refine v_istore ok [(5, iv 0), (4, rf g q13), (0, rf g 0), (1, iv 2), (2, iv t), (3, iv i)] dX9_judge_87 (by decide) rfl ?_
            have lp89xx : ∀ (fu : Nat) (h : Int), (0 ≤ h ∧ h ≤ 30) → (jdF (M (q13 + 1)) (otp ((M 9) 2) ((M 9) 3) (fl ((M 3)) ((M 10)) 8)) i (M q13 2) 30 0 = jdF (M (q13 + 1)) (otp ((M 9) 2) ((M 9) 3) (fl ((M 3)) ((M 10)) 8)) i (M q13 2) (30 - h).toNat h) → (30 - h).toNat < fu → V z g 6 (up1 (up1 M 51 (fl ((M 3)) ((M 10)) 8)) 52 (otp ((M 9) 2) ((M 9) 3) (fl ((M 3)) ((M 10)) 8))) [(0, rf g 0), (1, iv 2), (2, iv t), (3, iv i), (4, rf g q13), (5, iv h)] [] 89 := by
              intro fu
              induction fu with
              | zero => intro h _ _ hm; exact absurd hm (Nat.not_lt_zero _)
              | succ fu ih89 =>
                intro h i89_0 i89_1 hm89
                refine v_iload ok 5 dX9_judge_89 rfl ?_
                refine v_bipush (n := 30) ok rfl dX9_judge_91 ?_
                refine v_icmp_ge (tgt := 154) ok ⟨by omega, by omega⟩ (by decide) dX9_judge_93 (by decide) (fun c47 => ?_) (fun c47 => ?_)
                · skip
                  refine v_bipush (n := -5) ok rfl dX9_judge_154 ?_
                  exact v_iret ok rt dX9_judge_156 (Or.inr (Or.inr (Or.inr (⟨(fl ((M 3)) ((M 10)) 8), (congrArg (fun q : Int => some (iv q)) (show (-5) = (jdF (M (tpQ t + 1)) (otp (M (basQ 2) 2) (M (basQ 2) 3) (fl (M 3) (M (basQ 2 + 1)) 8)) i (M (tpQ t) 2) 30 0) from by (rw [← hq]; exact (i89_1.trans (by rw [show (30 - h).toNat = 0 by omega]; rfl)).symm))), rfl, (by omega), (by omega), (by rw [← hq]; omega)⟩))))
                · skip
                  refine v_iload_n ok 3 dX9_judge_96 rfl rfl ?_
                  refine v_iconst (n := 0) ok dX9_judge_97 ?_
                  refine v_aload ok 4 dX9_judge_98 rfl ?_
                  refine v_get (T := TX8) (N := 3) (f0 := (M q13)) (v := iv (M q13 2)) ok mi_X9_judge_8 (kd_lt kq13 (by decide)) rfl (by rw [up1_ne (kd_ne (show kd q13 = 8 from kq13) (show kd 52 = 11 from rfl) (by decide)), up1_ne (kd_ne (show kd q13 = 8 from kq13) (show kd 51 = 11 from rfl) (by decide))]) (cellF_8 _ kq13) 2 (by decide) mk_X9_judge_238 rfl rfl dX9_judge_100 ?_
                  refine v_iconst (n := 1) ok dX9_judge_103 ?_
                  refine v_isub ok dX9_judge_104 ?_
                  refine v_iload ok 5 dX9_judge_105 rfl ?_
                  refine v_isub ok dX9_judge_107 ?_
                  refine v_callS (na := 3) ok (ct_X9_between z.2.1 g (up1 (up1 M 51 (fl ((M 3)) ((M 10)) 8)) 52 (otp ((M 9) 2) ((M 9) 3) (fl ((M 3)) ((M 10)) 8))) i 0 (((M q13 2) - 1) - h) ⟨by omega, by omega⟩ (by decide) ⟨by omega, by omega⟩) gX9_judge_X9_between rfl (by decide +kernel) rfl (by decide) [] rfl (Nat.le_of_ble_eq_true rfl) dX9_judge_108 (fun v49 M50 hp48 => ?_)
                  rcases hp48 with ⟨rfl, rfl, h51⟩ | ⟨rfl, rfl, h52⟩
                  · skip
                    show V z g 6 (up1 (up1 M 51 (fl ((M 3)) ((M 10)) 8)) 52 (otp ((M 9) 2) ((M 9) 3) (fl ((M 3)) ((M 10)) 8))) [(0, rf g 0), (1, iv 2), (2, iv t), (3, iv i), (4, rf g q13), (5, iv h)] [iv 1] 111
                    have hou1 := hou h (by omega) (by omega)
                    have hit := htq.2.2 (i + h) (by omega) (by omega)
                    refine v_if_ne (tgt := 120) ok (by decide) dX9_judge_111 (by decide) (fun c53 => ?_) (fun c53 => absurd c53 (by decide))
                    refine v_aload ok 4 dX9_judge_120 rfl ?_
                    refine v_get (T := TX8) (N := 3) (f0 := (M q13)) (v := rf g (q13 + 1)) ok mi_X9_judge_8 (kd_lt kq13 (by decide)) rfl (by rw [up1_ne (kd_ne (show kd q13 = 8 from kq13) (show kd 52 = 11 from rfl) (by decide)), up1_ne (kd_ne (show kd q13 = 8 from kq13) (show kd 51 = 11 from rfl) (by decide))]) (cellF_8 _ kq13) 0 (by decide) mk_X9_judge_241 rfl rfl dX9_judge_122 ?_
                    refine v_iload_n ok 3 dX9_judge_125 rfl rfl ?_
                    refine v_iload ok 5 dX9_judge_126 rfl ?_
                    refine v_iadd ok dX9_judge_128 ?_
                    refine v_lald (n := 60) (f0 := (M (q13 + 1))) ok kkq13 lnq13 (by omega) (by rw [up1_ne (kd_ne (show kd (q13 + 1) = 12 from kkq13) (show kd 52 = 11 from rfl) (by decide)), up1_ne (kd_ne (show kd (q13 + 1) = 12 from kkq13) (show kd 51 = 11 from rfl) (by decide))]) dX9_judge_129 ?_
                    refine v_aload_n ok 0 dX9_judge_130 rfl rfl ?_
                    refine v_get (T := TX9) (N := 9) (f0 := (M 0)) (v := rf g 50) ok mi_X9_judge_9 (kd_lt (show kd 0 = 9 from rfl) (by decide)) rfl rfl (cellF_9 _ (by decide)) 4 (by decide) mk_X9_judge_35 rfl rfl dX9_judge_131 ?_
                    refine v_get (T := TX1) (N := 3) (f0 := (M 50)) (v := rf g 52) ok mi_X9_judge_1 (kd_lt (show kd 50 = 1 from rfl) (by decide)) rfl rfl (cellF_1 _ (by decide)) 1 (by decide) mk_X9_judge_152 rfl rfl dX9_judge_134 ?_
                    refine v_iload ok 5 dX9_judge_137 rfl ?_
                    refine v_iald (n := 30) (f0 := (otp ((M 9) 2) ((M 9) 3) (fl ((M 3)) ((M 10)) 8))) ok (by decide) rfl (by omega) rfl dX9_judge_139 ?_
                    refine v_i2l ok ⟨by omega, by omega⟩ dX9_judge_140 ?_
                    refine v_lcmp ok ⟨by omega, by omega⟩ ⟨by omega, by omega⟩ dX9_judge_141 (fun r54 hc55a hc55b hc55c hc55d => ?_)
                    refine v_if_eq (tgt := 148) ok ⟨by omega, by omega⟩ dX9_judge_142 (by decide) (fun c56 => ?_) (fun c56 => ?_)
                    · skip
                      refine v_iinc ok 5 [(5, iv (h + 1)), (0, rf g 0), (1, iv 2), (2, iv t), (3, iv i), (4, rf g q13)] dX9_judge_148 rfl (by decide) rfl ?_
                      refine v_goto (tgt := 89) ok dX9_judge_151 (by decide) ?_
                      refine v_lv (ls' := [(0, rf g 0), (1, iv 2), (2, iv t), (3, iv i), (4, rf g q13), (5, iv (h + 1))]) ok [1, 2, 3, 4, 5, 0] rfl ?_
                      exact ih89 (h + 1) (by omega) (by rw [i89_1, nat_s (show h < 30 by omega), jdF_c (by omega) (by omega)]) (by omega)
                    · skip
                      refine v_iload ok 5 dX9_judge_145 rfl ?_
                      exact v_iret ok rt dX9_judge_147 (Or.inr (Or.inr (Or.inr (⟨(fl ((M 3)) ((M 10)) 8), (congrArg (fun q : Int => some (iv q)) (show h = (jdF (M (tpQ t + 1)) (otp (M (basQ 2) 2) (M (basQ 2) 3) (fl (M 3) (M (basQ 2 + 1)) 8)) i (M (tpQ t) 2) 30 0) from by (rw [← hq]; exact (i89_1.trans (by rw [nat_s (show h < 30 by omega), jdF_b (by omega) (by omega)])).symm))), rfl, (by omega), (by omega), (by rw [← hq]; omega)⟩))))
                  · skip
                    show V z g 6 (up1 (up1 M 51 (fl ((M 3)) ((M 10)) 8)) 52 (otp ((M 9) 2) ((M 9) 3) (fl ((M 3)) ((M 10)) 8))) [(0, rf g 0), (1, iv 2), (2, iv t), (3, iv i), (4, rf g q13), (5, iv h)] [iv 0] 111
                    refine v_if_ne (tgt := 120) ok (by decide) dX9_judge_111 (by decide) (fun c57 => absurd c57 (by decide)) (fun c57 => ?_)
                    refine v_bipush (n := 100) ok rfl dX9_judge_114 ?_
                    refine v_iload ok 5 dX9_judge_116 rfl ?_
                    refine v_iadd ok dX9_judge_118 ?_
                    exact v_iret ok rt dX9_judge_119 (Or.inr (Or.inr (Or.inr (⟨(fl ((M 3)) ((M 10)) 8), (congrArg (fun q : Int => some (iv q)) (show (100 + h) = (jdF (M (tpQ t + 1)) (otp (M (basQ 2) 2) (M (basQ 2) 3) (fl (M 3) (M (basQ 2 + 1)) 8)) i (M (tpQ t) 2) 30 0) from by (rw [← hq]; exact (i89_1.trans (by rw [nat_s (show h < 30 by omega), jdF_a (by omega)])).symm))), rfl, (by omega), (by omega), (by rw [← hq]; omega)⟩))))
            refine v_lv (ls' := [(0, rf g 0), (1, iv 2), (2, iv t), (3, iv i), (4, rf g q13), (5, iv 0)]) ok [2, 3, 4, 5, 1, 0] rfl ?_
            exact lp89xx _ 0 (by omega) rfl (Nat.lt_succ_self _)
        · skip
          refine v_bipush (n := -12) ok rfl dX9_judge_53 ?_
          exact v_iret ok rt dX9_judge_55 (Or.inr (Or.inr (Or.inl (⟨rfl, rfl, (by omega), (by omega), (by rw [← hq]; omega)⟩))))
      · skip
        refine v_bipush (n := 100) ok rfl dX9_judge_41 ?_
        exact v_iret ok rt dX9_judge_43 (Or.inr (Or.inl (⟨rfl, rfl, (by omega), (by omega), (by rw [← hq]; omega)⟩)))
    · skip
      subst M9
      show V z g 6 M [(0, rf g 0), (1, iv b), (2, iv t), (3, iv i)] [iv 0] 19
      refine v_if_ne (tgt := 24) ok (by decide) dX9_judge_19 (by decide) (fun c58 => absurd c58 (by decide)) (fun c58 => ?_)
      refine v_iconst (n := -1) ok dX9_judge_22 ?_
      exact v_iret ok rt dX9_judge_23 (Or.inl (⟨rfl, rfl, (by omega)⟩))
  · skip
    subst M3
    have h5 : ¬ (0 ≤ b ∧ b < (M 2) 2) := h5
    show V z g 6 M [(0, rf g 0), (1, iv b), (2, iv t), (3, iv i)] [iv 0] 11
    refine v_if_eq (tgt := 22) ok (by decide) dX9_judge_11 (by decide) (fun c59 => ?_) (fun c59 => absurd c59 (by decide))
    refine v_iconst (n := -1) ok dX9_judge_22 ?_
    exact v_iret ok rt dX9_judge_23 (Or.inl (⟨rfl, rfl, (by omega)⟩))

theorem mk_X9_tape_63 : Cond.fieldLink RX9 63 "StormRunoff" "tapes" "[LStormRunoff$Tape;" ∈ wsX9_tape := by decide +kernel
theorem mi_X9_tape_9 : ∀ w ∈ wsX90, w ∈ wsX9_tape := by decide +kernel
set_option maxRecDepth 100000 in
set_option maxHeartbeats 400000 in
theorem ct_X9_tape (l : Launch) (g : Gl) (M : Mem) (t s n : Int) (ht : i32 t) (hsi : i32 s) (hn : i32 n) : Ct l g yX9_tape wsX9_tape 2 46 [rf g 0, iv t, iv s, iv n] M (fun rv M' => (rv = some (iv (-1)) ∧ M' = M ∧ (¬ (0 ≤ t ∧ t ≤ 5))) ∨ (rv = some (iv (-2)) ∧ M' = M ∧ (0 ≤ t ∧ t ≤ 5) ∧ (¬ (-1 ≤ s ∧ s ≤ 4) ∨ (s ≠ -1 ∧ 60 < n))) ∨ (rv = some (iv (-14)) ∧ M' = M ∧ (0 ≤ t ∧ t ≤ 5) ∧ (0 ≤ s ∧ s ≤ 4 ∧ n < 0)) ∨ (rv = some (iv 1) ∧ M' = (up1 (up1 M (tpQ t) (up (up (M (tpQ t)) 1 s) 2 (if s = -1 then 0 else n))) (tpQ t + 1) (fun _ => 0)) ∧ (0 ≤ t ∧ t ≤ 5) ∧ ((-1 ≤ s ∧ s ≤ 4) ∧ (s = -1 ∨ (0 ≤ n ∧ n ≤ 60))))) := by
  refine Ct.of (cc := cX9_tape) (nL := 4) (ret := (some .int)) (by decide) rfl (Nat.le_of_ble_eq_true rfl) (fun z hz ok rt => ?_)
  have ok : Ok z g cX9_tape 4 RX9 wsX9_tape 2 46 := ok
  show V z g 4 M [(0, rf g 0), (1, iv t), (2, iv s), (3, iv n)] [] 0
  refine v_aload_n ok 0 dX9_tape_0 rfl rfl ?_
  refine v_iload_n ok 1 dX9_tape_1 rfl rfl ?_
  refine v_callV (na := 1) (i := 0) (C := RX9) (T := TX9) (N := 9) (f0 := (M 0)) ok (ct_X9_isTape z.2.1 g M t ⟨by omega, by omega⟩) gX9_tape_X9_isTape (kd_lt (show kd 0 = 9 from rfl) (by decide)) rfl rfl (cellF_9 _ (by decide)) rfl (by decide +kernel) rfl (by decide) [] rfl (Nat.le_of_ble_eq_true rfl) dX9_tape_2 (fun v2 M3 hp1 => ?_)
  rcases hp1 with ⟨rfl, eM3, h4⟩ | ⟨rfl, eM3, h5⟩
  · skip
    subst M3
    show V z g 4 M [(0, rf g 0), (1, iv t), (2, iv s), (3, iv n)] [iv 1] 5
    refine v_if_ne (tgt := 10) ok (by decide) dX9_tape_5 (by decide) (fun c6 => ?_) (fun c6 => absurd c6 (by decide))
    refine v_iload_n ok 2 dX9_tape_10 rfl rfl ?_
    refine v_iconst (n := -1) ok dX9_tape_11 ?_
    refine v_iconst (n := 4) ok dX9_tape_12 ?_
    refine v_callS (na := 3) ok (ct_X9_between z.2.1 g M s (-1) 4 ⟨by omega, by omega⟩ (by decide) (by decide)) gX9_tape_X9_between rfl (by decide +kernel) rfl (by decide) [] rfl (Nat.le_of_ble_eq_true rfl) dX9_tape_13 (fun v8 M9 hp7 => ?_)
    rcases hp7 with ⟨rfl, eM9, h10⟩ | ⟨rfl, eM9, h11⟩
    · skip
      subst M9
      show V z g 4 M [(0, rf g 0), (1, iv t), (2, iv s), (3, iv n)] [iv 1] 16
      refine v_if_ne (tgt := 22) ok (by decide) dX9_tape_16 (by decide) (fun c12 => ?_) (fun c12 => absurd c12 (by decide))
      refine v_iload_n ok 2 dX9_tape_22 rfl rfl ?_
      refine v_iconst (n := -1) ok dX9_tape_23 ?_
      refine v_icmp_eq (tgt := 36) ok ⟨by omega, by omega⟩ (by decide) dX9_tape_24 (by decide) (fun c13 => ?_) (fun c13 => ?_)
      · skip
        refine v_iload_n ok 2 dX9_tape_36 rfl rfl ?_
        refine v_iconst (n := -1) ok dX9_tape_37 ?_
        refine v_icmp_eq (tgt := 48) ok ⟨by omega, by omega⟩ (by decide) dX9_tape_38 (by decide) (fun c14 => ?_) (fun c14 => ?_)
        · skip
          refine v_aload_n ok 0 dX9_tape_48 rfl rfl ?_
          refine v_get (T := TX9) (N := 9) (f0 := (M 0)) (v := rf g 65) ok mi_X9_tape_9 (kd_lt (show kd 0 = 9 from rfl) (by decide)) rfl rfl (cellF_9 _ (by decide)) 8 (by decide) mk_X9_tape_63 rfl rfl dX9_tape_49 ?_
          refine v_iload_n ok 1 dX9_tape_52 rfl rfl ?_
          refine v_aald14 ok (by decide) (by omega) dX9_tape_53 (fun q15 eq15 kq15 kkq15 lnq15 => ?_)
          have hq : q15 = tpQ t := by rw [eq15]; unfold tpQ; omega
          refine v_iload_n ok 2 dX9_tape_54 rfl rfl ?_
          refine v_iload_n ok 2 dX9_tape_55 rfl rfl ?_
          refine v_iconst (n := -1) ok dX9_tape_56 ?_
          refine v_icmp_ne (tgt := 64) ok ⟨by omega, by omega⟩ (by decide) dX9_tape_57 (by decide) (fun c16 => ?_) (fun c16 => ?_)
          · skip
            refine v_iload_n ok 3 dX9_tape_64 rfl rfl ?_
            refine v_callV (na := 2) (i := q15) (C := RX8) (T := TX8) (N := 3) (f0 := (M q15)) ok (ct_X8_begin z.2.1 g M q15 s n kq15) gX9_tape_X8_begin (kd_lt kq15 (by decide)) rfl rfl (cellF_8 _ kq15) rfl (by decide +kernel) rfl (by decide) [] rfl (Nat.le_of_ble_eq_true rfl) dX9_tape_65 (fun v18 M19 hp17 => ?_)
            obtain ⟨rfl, rfl⟩ := hp17
            show V z g 4 (up1 (up1 M q15 (up (up ((M q15)) 1 s) 2 n)) (q15 + 1) (fun _ => 0)) [(0, rf g 0), (1, iv t), (2, iv s), (3, iv n)] [] 68
            refine v_iconst (n := 1) ok dX9_tape_68 ?_
            exact v_iret ok rt dX9_tape_69 (Or.inr (Or.inr (Or.inr (⟨rfl, (by first | (exfalso; omega) | (rw [hq, if_pos (by omega)]) | (rw [hq, if_neg (by omega)])), (by omega), (by omega)⟩))))
          · skip
            refine v_iconst (n := 0) ok dX9_tape_60 ?_
            refine v_goto (tgt := 65) ok dX9_tape_61 (by decide) ?_
            refine v_callV (na := 2) (i := q15) (C := RX8) (T := TX8) (N := 3) (f0 := (M q15)) ok (ct_X8_begin z.2.1 g M q15 s 0 kq15) gX9_tape_X8_begin (kd_lt kq15 (by decide)) rfl rfl (cellF_8 _ kq15) rfl (by decide +kernel) rfl (by decide) [] rfl (Nat.le_of_ble_eq_true rfl) dX9_tape_65 (fun v21 M22 hp20 => ?_)
            obtain ⟨rfl, rfl⟩ := hp20
            show V z g 4 (up1 (up1 M q15 (up (up ((M q15)) 1 s) 2 0)) (q15 + 1) (fun _ => 0)) [(0, rf g 0), (1, iv t), (2, iv s), (3, iv n)] [] 68
            refine v_iconst (n := 1) ok dX9_tape_68 ?_
            exact v_iret ok rt dX9_tape_69 (Or.inr (Or.inr (Or.inr (⟨rfl, (by first | (exfalso; omega) | (rw [hq, if_pos (by omega)]) | (rw [hq, if_neg (by omega)])), (by omega), (by omega)⟩))))
        · skip
          refine v_iload_n ok 3 dX9_tape_41 rfl rfl ?_
          refine v_if_ge (tgt := 48) ok ⟨by omega, by omega⟩ dX9_tape_42 (by decide) (fun c23 => ?_) (fun c23 => ?_)
          · skip
            refine v_aload_n ok 0 dX9_tape_48 rfl rfl ?_
            refine v_get (T := TX9) (N := 9) (f0 := (M 0)) (v := rf g 65) ok mi_X9_tape_9 (kd_lt (show kd 0 = 9 from rfl) (by decide)) rfl rfl (cellF_9 _ (by decide)) 8 (by decide) mk_X9_tape_63 rfl rfl dX9_tape_49 ?_
            refine v_iload_n ok 1 dX9_tape_52 rfl rfl ?_
            refine v_aald14 ok (by decide) (by omega) dX9_tape_53 (fun q24 eq24 kq24 kkq24 lnq24 => ?_)
            have hq : q24 = tpQ t := by rw [eq24]; unfold tpQ; omega
            refine v_iload_n ok 2 dX9_tape_54 rfl rfl ?_
            refine v_iload_n ok 2 dX9_tape_55 rfl rfl ?_
            refine v_iconst (n := -1) ok dX9_tape_56 ?_
            refine v_icmp_ne (tgt := 64) ok ⟨by omega, by omega⟩ (by decide) dX9_tape_57 (by decide) (fun c25 => ?_) (fun c25 => ?_)
            · skip
              refine v_iload_n ok 3 dX9_tape_64 rfl rfl ?_
              refine v_callV (na := 2) (i := q24) (C := RX8) (T := TX8) (N := 3) (f0 := (M q24)) ok (ct_X8_begin z.2.1 g M q24 s n kq24) gX9_tape_X8_begin (kd_lt kq24 (by decide)) rfl rfl (cellF_8 _ kq24) rfl (by decide +kernel) rfl (by decide) [] rfl (Nat.le_of_ble_eq_true rfl) dX9_tape_65 (fun v27 M28 hp26 => ?_)
              obtain ⟨rfl, rfl⟩ := hp26
              show V z g 4 (up1 (up1 M q24 (up (up ((M q24)) 1 s) 2 n)) (q24 + 1) (fun _ => 0)) [(0, rf g 0), (1, iv t), (2, iv s), (3, iv n)] [] 68
              refine v_iconst (n := 1) ok dX9_tape_68 ?_
              exact v_iret ok rt dX9_tape_69 (Or.inr (Or.inr (Or.inr (⟨rfl, (by first | (exfalso; omega) | (rw [hq, if_pos (by omega)]) | (rw [hq, if_neg (by omega)])), (by omega), (by omega)⟩))))
            · skip
              refine v_iconst (n := 0) ok dX9_tape_60 ?_
              refine v_goto (tgt := 65) ok dX9_tape_61 (by decide) ?_
              refine v_callV (na := 2) (i := q24) (C := RX8) (T := TX8) (N := 3) (f0 := (M q24)) ok (ct_X8_begin z.2.1 g M q24 s 0 kq24) gX9_tape_X8_begin (kd_lt kq24 (by decide)) rfl rfl (cellF_8 _ kq24) rfl (by decide +kernel) rfl (by decide) [] rfl (Nat.le_of_ble_eq_true rfl) dX9_tape_65 (fun v30 M31 hp29 => ?_)
              obtain ⟨rfl, rfl⟩ := hp29
              show V z g 4 (up1 (up1 M q24 (up (up ((M q24)) 1 s) 2 0)) (q24 + 1) (fun _ => 0)) [(0, rf g 0), (1, iv t), (2, iv s), (3, iv n)] [] 68
              refine v_iconst (n := 1) ok dX9_tape_68 ?_
              exact v_iret ok rt dX9_tape_69 (Or.inr (Or.inr (Or.inr (⟨rfl, (by first | (exfalso; omega) | (rw [hq, if_pos (by omega)]) | (rw [hq, if_neg (by omega)])), (by omega), (by omega)⟩))))
          · skip
            refine v_bipush (n := -14) ok rfl dX9_tape_45 ?_
            exact v_iret ok rt dX9_tape_47 (Or.inr (Or.inr (Or.inl (⟨rfl, rfl, (by omega), (by omega)⟩))))
      · skip
        refine v_iload_n ok 3 dX9_tape_27 rfl rfl ?_
        refine v_bipush (n := 60) ok rfl dX9_tape_28 ?_
        refine v_icmp_le (tgt := 36) ok ⟨by omega, by omega⟩ (by decide) dX9_tape_30 (by decide) (fun c32 => ?_) (fun c32 => ?_)
        · skip
          refine v_iload_n ok 2 dX9_tape_36 rfl rfl ?_
          refine v_iconst (n := -1) ok dX9_tape_37 ?_
          refine v_icmp_eq (tgt := 48) ok ⟨by omega, by omega⟩ (by decide) dX9_tape_38 (by decide) (fun c33 => ?_) (fun c33 => ?_)
          · skip
            refine v_aload_n ok 0 dX9_tape_48 rfl rfl ?_
            refine v_get (T := TX9) (N := 9) (f0 := (M 0)) (v := rf g 65) ok mi_X9_tape_9 (kd_lt (show kd 0 = 9 from rfl) (by decide)) rfl rfl (cellF_9 _ (by decide)) 8 (by decide) mk_X9_tape_63 rfl rfl dX9_tape_49 ?_
            refine v_iload_n ok 1 dX9_tape_52 rfl rfl ?_
            refine v_aald14 ok (by decide) (by omega) dX9_tape_53 (fun q34 eq34 kq34 kkq34 lnq34 => ?_)
            have hq : q34 = tpQ t := by rw [eq34]; unfold tpQ; omega
            refine v_iload_n ok 2 dX9_tape_54 rfl rfl ?_
            refine v_iload_n ok 2 dX9_tape_55 rfl rfl ?_
            refine v_iconst (n := -1) ok dX9_tape_56 ?_
            refine v_icmp_ne (tgt := 64) ok ⟨by omega, by omega⟩ (by decide) dX9_tape_57 (by decide) (fun c35 => ?_) (fun c35 => ?_)
            · skip
              refine v_iload_n ok 3 dX9_tape_64 rfl rfl ?_
              refine v_callV (na := 2) (i := q34) (C := RX8) (T := TX8) (N := 3) (f0 := (M q34)) ok (ct_X8_begin z.2.1 g M q34 s n kq34) gX9_tape_X8_begin (kd_lt kq34 (by decide)) rfl rfl (cellF_8 _ kq34) rfl (by decide +kernel) rfl (by decide) [] rfl (Nat.le_of_ble_eq_true rfl) dX9_tape_65 (fun v37 M38 hp36 => ?_)
              obtain ⟨rfl, rfl⟩ := hp36
              show V z g 4 (up1 (up1 M q34 (up (up ((M q34)) 1 s) 2 n)) (q34 + 1) (fun _ => 0)) [(0, rf g 0), (1, iv t), (2, iv s), (3, iv n)] [] 68
              refine v_iconst (n := 1) ok dX9_tape_68 ?_
              exact v_iret ok rt dX9_tape_69 (Or.inr (Or.inr (Or.inr (⟨rfl, (by first | (exfalso; omega) | (rw [hq, if_pos (by omega)]) | (rw [hq, if_neg (by omega)])), (by omega), (by omega)⟩))))
            · skip
              refine v_iconst (n := 0) ok dX9_tape_60 ?_
              refine v_goto (tgt := 65) ok dX9_tape_61 (by decide) ?_
              refine v_callV (na := 2) (i := q34) (C := RX8) (T := TX8) (N := 3) (f0 := (M q34)) ok (ct_X8_begin z.2.1 g M q34 s 0 kq34) gX9_tape_X8_begin (kd_lt kq34 (by decide)) rfl rfl (cellF_8 _ kq34) rfl (by decide +kernel) rfl (by decide) [] rfl (Nat.le_of_ble_eq_true rfl) dX9_tape_65 (fun v40 M41 hp39 => ?_)
              obtain ⟨rfl, rfl⟩ := hp39
              show V z g 4 (up1 (up1 M q34 (up (up ((M q34)) 1 s) 2 0)) (q34 + 1) (fun _ => 0)) [(0, rf g 0), (1, iv t), (2, iv s), (3, iv n)] [] 68
              refine v_iconst (n := 1) ok dX9_tape_68 ?_
              exact v_iret ok rt dX9_tape_69 (Or.inr (Or.inr (Or.inr (⟨rfl, (by first | (exfalso; omega) | (rw [hq, if_pos (by omega)]) | (rw [hq, if_neg (by omega)])), (by omega), (by omega)⟩))))
          · skip
            refine v_iload_n ok 3 dX9_tape_41 rfl rfl ?_
            refine v_if_ge (tgt := 48) ok ⟨by omega, by omega⟩ dX9_tape_42 (by decide) (fun c42 => ?_) (fun c42 => ?_)
            · skip
              refine v_aload_n ok 0 dX9_tape_48 rfl rfl ?_
              refine v_get (T := TX9) (N := 9) (f0 := (M 0)) (v := rf g 65) ok mi_X9_tape_9 (kd_lt (show kd 0 = 9 from rfl) (by decide)) rfl rfl (cellF_9 _ (by decide)) 8 (by decide) mk_X9_tape_63 rfl rfl dX9_tape_49 ?_
              refine v_iload_n ok 1 dX9_tape_52 rfl rfl ?_
              refine v_aald14 ok (by decide) (by omega) dX9_tape_53 (fun q43 eq43 kq43 kkq43 lnq43 => ?_)
              have hq : q43 = tpQ t := by rw [eq43]; unfold tpQ; omega
              refine v_iload_n ok 2 dX9_tape_54 rfl rfl ?_
              refine v_iload_n ok 2 dX9_tape_55 rfl rfl ?_
              refine v_iconst (n := -1) ok dX9_tape_56 ?_
              refine v_icmp_ne (tgt := 64) ok ⟨by omega, by omega⟩ (by decide) dX9_tape_57 (by decide) (fun c44 => ?_) (fun c44 => ?_)
              · skip
                refine v_iload_n ok 3 dX9_tape_64 rfl rfl ?_
                refine v_callV (na := 2) (i := q43) (C := RX8) (T := TX8) (N := 3) (f0 := (M q43)) ok (ct_X8_begin z.2.1 g M q43 s n kq43) gX9_tape_X8_begin (kd_lt kq43 (by decide)) rfl rfl (cellF_8 _ kq43) rfl (by decide +kernel) rfl (by decide) [] rfl (Nat.le_of_ble_eq_true rfl) dX9_tape_65 (fun v46 M47 hp45 => ?_)
                obtain ⟨rfl, rfl⟩ := hp45
                show V z g 4 (up1 (up1 M q43 (up (up ((M q43)) 1 s) 2 n)) (q43 + 1) (fun _ => 0)) [(0, rf g 0), (1, iv t), (2, iv s), (3, iv n)] [] 68
                refine v_iconst (n := 1) ok dX9_tape_68 ?_
                exact v_iret ok rt dX9_tape_69 (Or.inr (Or.inr (Or.inr (⟨rfl, (by first | (exfalso; omega) | (rw [hq, if_pos (by omega)]) | (rw [hq, if_neg (by omega)])), (by omega), (by omega)⟩))))
              · skip
                refine v_iconst (n := 0) ok dX9_tape_60 ?_
                refine v_goto (tgt := 65) ok dX9_tape_61 (by decide) ?_
                refine v_callV (na := 2) (i := q43) (C := RX8) (T := TX8) (N := 3) (f0 := (M q43)) ok (ct_X8_begin z.2.1 g M q43 s 0 kq43) gX9_tape_X8_begin (kd_lt kq43 (by decide)) rfl rfl (cellF_8 _ kq43) rfl (by decide +kernel) rfl (by decide) [] rfl (Nat.le_of_ble_eq_true rfl) dX9_tape_65 (fun v49 M50 hp48 => ?_)
                obtain ⟨rfl, rfl⟩ := hp48
                show V z g 4 (up1 (up1 M q43 (up (up ((M q43)) 1 s) 2 0)) (q43 + 1) (fun _ => 0)) [(0, rf g 0), (1, iv t), (2, iv s), (3, iv n)] [] 68
                refine v_iconst (n := 1) ok dX9_tape_68 ?_
                exact v_iret ok rt dX9_tape_69 (Or.inr (Or.inr (Or.inr (⟨rfl, (by first | (exfalso; omega) | (rw [hq, if_pos (by omega)]) | (rw [hq, if_neg (by omega)])), (by omega), (by omega)⟩))))
            · skip
              refine v_bipush (n := -14) ok rfl dX9_tape_45 ?_
              exact v_iret ok rt dX9_tape_47 (Or.inr (Or.inr (Or.inl (⟨rfl, rfl, (by omega), (by omega)⟩))))
        · skip
          refine v_bipush (n := -2) ok rfl dX9_tape_33 ?_
          exact v_iret ok rt dX9_tape_35 (Or.inr (Or.inl (⟨rfl, rfl, (by omega), (by omega)⟩)))
    · skip
      subst M9
      show V z g 4 M [(0, rf g 0), (1, iv t), (2, iv s), (3, iv n)] [iv 0] 16
      refine v_if_ne (tgt := 22) ok (by decide) dX9_tape_16 (by decide) (fun c51 => absurd c51 (by decide)) (fun c51 => ?_)
      refine v_bipush (n := -2) ok rfl dX9_tape_19 ?_
      exact v_iret ok rt dX9_tape_21 (Or.inr (Or.inl (⟨rfl, rfl, (by omega), (by omega)⟩)))
  · skip
    subst M3
    show V z g 4 M [(0, rf g 0), (1, iv t), (2, iv s), (3, iv n)] [iv 0] 5
    refine v_if_ne (tgt := 10) ok (by decide) dX9_tape_5 (by decide) (fun c52 => absurd c52 (by decide)) (fun c52 => ?_)
    refine v_iconst (n := -1) ok dX9_tape_8 ?_
    exact v_iret ok rt dX9_tape_9 (Or.inl (⟨rfl, rfl, (by omega)⟩))

theorem mk_X9_item_63 : Cond.fieldLink RX9 63 "StormRunoff" "tapes" "[LStormRunoff$Tape;" ∈ wsX9_item := by decide +kernel
theorem mi_X9_item_9 : ∀ w ∈ wsX90, w ∈ wsX9_item := by decide +kernel
theorem mk_X9_item_235 : Cond.fieldLink RX9 235 "StormRunoff$Tape" "sort" "I" ∈ wsX9_item := by decide +kernel
theorem mi_X9_item_8 : ∀ w ∈ wsX80, w ∈ wsX9_item := by decide +kernel
theorem mk_X9_item_241 : Cond.fieldLink RX9 241 "StormRunoff$Tape" "items" "[J" ∈ wsX9_item := by decide +kernel
set_option maxRecDepth 100000 in
set_option maxHeartbeats 400000 in
theorem ct_X9_item (l : Launch) (g : Gl) (M : Mem) (t i v : Int) (ht : i32 t) (hi : i32 i) (hv : i64 v) (htp : TpsOk M) : Ct l g yX9_item wsX9_item 2 43 [rf g 0, iv t, iv i, jv v] M (fun rv M' => (rv = some (iv (-1)) ∧ M' = M ∧ (¬ (0 ≤ t ∧ t ≤ 5))) ∨ (rv = some (iv (-11)) ∧ M' = M ∧ (0 ≤ t ∧ t ≤ 5) ∧ (M (tpQ t) 1 = -1)) ∨ (rv = some (iv (-13)) ∧ M' = M ∧ (0 ≤ t ∧ t ≤ 5) ∧ (M (tpQ t) 1 ≠ -1) ∧ (¬ (0 ≤ i ∧ i < M (tpQ t) 2))) ∨ (rv = some (iv 1) ∧ M' = (up1 M (tpQ t + 1) (up (M (tpQ t + 1)) i (nrw (M (tpQ t) 1) v))) ∧ (0 ≤ t ∧ t ≤ 5) ∧ (M (tpQ t) 1 ≠ -1) ∧ (0 ≤ i ∧ i < M (tpQ t) 2))) := by
  refine Ct.of (cc := cX9_item) (nL := 6) (ret := (some .int)) (by decide) rfl (Nat.le_of_ble_eq_true rfl) (fun z hz ok rt => ?_)
  have ok : Ok z g cX9_item 6 RX9 wsX9_item 2 43 := ok
  show V z g 6 M [(0, rf g 0), (1, iv t), (2, iv i), (3, jv v)] [] 0
  refine v_aload_n ok 0 dX9_item_0 rfl rfl ?_
  refine v_iload_n ok 1 dX9_item_1 rfl rfl ?_
  refine v_callV (na := 1) (i := 0) (C := RX9) (T := TX9) (N := 9) (f0 := (M 0)) ok (ct_X9_isTape z.2.1 g M t ⟨by omega, by omega⟩) gX9_item_X9_isTape (kd_lt (show kd 0 = 9 from rfl) (by decide)) rfl rfl (cellF_9 _ (by decide)) rfl (by decide +kernel) rfl (by decide) [] rfl (Nat.le_of_ble_eq_true rfl) dX9_item_2 (fun v2 M3 hp1 => ?_)
  rcases hp1 with ⟨rfl, eM3, h4⟩ | ⟨rfl, eM3, h5⟩
  · skip
    subst M3
    show V z g 6 M [(0, rf g 0), (1, iv t), (2, iv i), (3, jv v)] [iv 1] 5
    refine v_if_ne (tgt := 10) ok (by decide) dX9_item_5 (by decide) (fun c6 => ?_) (fun c6 => absurd c6 (by decide))
    refine v_aload_n ok 0 dX9_item_10 rfl rfl ?_
    refine v_get (T := TX9) (N := 9) (f0 := (M 0)) (v := rf g 65) ok mi_X9_item_9 (kd_lt (show kd 0 = 9 from rfl) (by decide)) rfl rfl (cellF_9 _ (by decide)) 8 (by decide) mk_X9_item_63 rfl rfl dX9_item_11 ?_
    refine v_iload_n ok 1 dX9_item_14 rfl rfl ?_
    refine v_aald14 ok (by decide) (by omega) dX9_item_15 (fun q7 eq7 kq7 kkq7 lnq7 => ?_)
    have hq : q7 = tpQ t := by rw [eq7]; unfold tpQ; omega
    have htq := htp q7 kq7
    refine v_astore ok [(5, rf g q7), (0, rf g 0), (1, iv t), (2, iv i), (3, jv v)] dX9_item_16 (by decide) rfl ?_
    refine v_aload ok 0 dX9_item_18 rfl ?_
    refine v_get (T := TX8) (N := 3) (f0 := (M q7)) (v := iv (M q7 1)) ok mi_X9_item_8 (kd_lt kq7 (by decide)) rfl rfl (cellF_8 _ kq7) 1 (by decide) mk_X9_item_235 rfl rfl dX9_item_20 ?_
    refine v_iconst (n := -1) ok dX9_item_23 ?_
    refine v_icmp_ne (tgt := 30) ok ⟨by omega, by omega⟩ (by decide) dX9_item_24 (by decide) (fun c8 => ?_) (fun c8 => ?_)
    · skip
      refine v_aload ok 0 dX9_item_30 rfl ?_
      refine v_iload_n ok 3 dX9_item_32 rfl rfl ?_
      refine v_callV (na := 1) (i := q7) (C := RX8) (T := TX8) (N := 3) (f0 := (M q7)) ok (ct_X8_hasPlace z.2.1 g M q7 i kq7 ⟨by omega, by omega⟩ htq.2.1) gX9_item_X8_hasPlace (kd_lt kq7 (by decide)) rfl rfl (cellF_8 _ kq7) rfl (by decide +kernel) rfl (by decide) [] rfl (Nat.le_of_ble_eq_true rfl) dX9_item_33 (fun v10 M11 hp9 => ?_)
      rcases hp9 with ⟨rfl, eM11, h12⟩ | ⟨rfl, eM11, h13⟩
      · skip
        subst M11
        have h12 : 0 ≤ i ∧ i < (M q7) 2 := h12
        show V z g 6 M [(5, rf g q7), (0, rf g 0), (1, iv t), (2, iv i), (3, jv v)] [iv 1] 36
        refine v_if_ne (tgt := 42) ok (by decide) dX9_item_36 (by decide) (fun c14 => ?_) (fun c14 => absurd c14 (by decide))
        refine v_aload ok 0 dX9_item_42 rfl ?_
        refine v_get (T := TX8) (N := 3) (f0 := (M q7)) (v := rf g (q7 + 1)) ok mi_X9_item_8 (kd_lt kq7 (by decide)) rfl rfl (cellF_8 _ kq7) 0 (by decide) mk_X9_item_241 rfl rfl dX9_item_44 ?_
        refine v_iload_n ok 3 dX9_item_47 rfl rfl ?_
        refine v_aload ok 0 dX9_item_48 rfl ?_
        refine v_get (T := TX8) (N := 3) (f0 := (M q7)) (v := iv (M q7 1)) ok mi_X9_item_8 (kd_lt kq7 (by decide)) rfl rfl (cellF_8 _ kq7) 1 (by decide) mk_X9_item_235 rfl rfl dX9_item_50 ?_
        refine v_lload_n ok 4 dX9_item_53 rfl rfl ?_
        refine v_callS (na := 2) ok (ct_X9_cutTo z.2.1 g M (M q7 1) v (by first | omega | assumption) ⟨by omega, by omega⟩) gX9_item_X9_cutTo rfl (by decide +kernel) rfl (by decide) [iv i, rf g (q7 + 1)] rfl (Nat.le_of_ble_eq_true rfl) dX9_item_54 (fun v16 M17 hp15 => ?_)
        obtain ⟨rfl, eM17⟩ := hp15
        subst M17
        show V z g 6 M [(5, rf g q7), (0, rf g 0), (1, iv t), (2, iv i), (3, jv v)] [jv (nrw (M q7 1) v), iv i, rf g (q7 + 1)] 57
        refine v_last (n := 60) (f0 := (M (q7 + 1))) ok kkq7 lnq7 (by omega) rfl dX9_item_57 ?_
        refine v_iconst (n := 1) ok dX9_item_58 ?_
        exact v_iret ok rt dX9_item_59 (Or.inr (Or.inr (Or.inr (⟨rfl, (by rw [hq]), (by omega), (by rw [← hq]; omega), (by rw [← hq]; omega)⟩))))
      · skip
        subst M11
        have h13 : ¬ (0 ≤ i ∧ i < (M q7) 2) := h13
        show V z g 6 M [(5, rf g q7), (0, rf g 0), (1, iv t), (2, iv i), (3, jv v)] [iv 0] 36
        refine v_if_ne (tgt := 42) ok (by decide) dX9_item_36 (by decide) (fun c18 => absurd c18 (by decide)) (fun c18 => ?_)
        refine v_bipush (n := -13) ok rfl dX9_item_39 ?_
        exact v_iret ok rt dX9_item_41 (Or.inr (Or.inr (Or.inl (⟨rfl, rfl, (by omega), (by rw [← hq]; omega), (by rw [← hq]; omega)⟩))))
    · skip
      refine v_bipush (n := -11) ok rfl dX9_item_27 ?_
      exact v_iret ok rt dX9_item_29 (Or.inr (Or.inl (⟨rfl, rfl, (by omega), (by rw [← hq]; omega)⟩)))
  · skip
    subst M3
    show V z g 6 M [(0, rf g 0), (1, iv t), (2, iv i), (3, jv v)] [iv 0] 5
    refine v_if_ne (tgt := 10) ok (by decide) dX9_item_5 (by decide) (fun c19 => absurd c19 (by decide)) (fun c19 => ?_)
    refine v_iconst (n := -1) ok dX9_item_8 ?_
    exact v_iret ok rt dX9_item_9 (Or.inl (⟨rfl, rfl, (by omega)⟩))

theorem mk_X9_peek_63 : Cond.fieldLink RX9 63 "StormRunoff" "tapes" "[LStormRunoff$Tape;" ∈ wsX9_peek := by decide +kernel
theorem mi_X9_peek_9 : ∀ w ∈ wsX90, w ∈ wsX9_peek := by decide +kernel
theorem mk_X9_peek_241 : Cond.fieldLink RX9 241 "StormRunoff$Tape" "items" "[J" ∈ wsX9_peek := by decide +kernel
theorem mi_X9_peek_8 : ∀ w ∈ wsX80, w ∈ wsX9_peek := by decide +kernel
theorem mk_X9_peek_205 : Cond.constantLong RX9 205 (-9223372036854775808) ∈ wsX9_peek := by decide +kernel
set_option maxRecDepth 100000 in
set_option maxHeartbeats 400000 in
theorem ct_X9_peek (l : Launch) (g : Gl) (M : Mem) (t i : Int) (ht : i32 t) (hi : i32 i) (htp : TpsOk M) : Ct l g yX9_peek wsX9_peek 2 43 [rf g 0, iv t, iv i] M (fun rv M' => (rv = some (jv (-9223372036854775808)) ∧ M' = M ∧ (¬ (0 ≤ t ∧ t ≤ 5) ∨ ((0 ≤ t ∧ t ≤ 5) ∧ ¬ (0 ≤ i ∧ i < M (tpQ t) 2)))) ∨ (rv = some (jv (M (tpQ t + 1) i)) ∧ M' = M ∧ (0 ≤ t ∧ t ≤ 5) ∧ (0 ≤ i ∧ i < M (tpQ t) 2))) := by
  refine Ct.of (cc := cX9_peek) (nL := 3) (ret := (some .long)) (by decide) rfl (Nat.le_of_ble_eq_true rfl) (fun z hz ok rt => ?_)
  have ok : Ok z g cX9_peek 3 RX9 wsX9_peek 2 43 := ok
  show V z g 3 M [(0, rf g 0), (1, iv t), (2, iv i)] [] 0
  refine v_aload_n ok 0 dX9_peek_0 rfl rfl ?_
  refine v_iload_n ok 1 dX9_peek_1 rfl rfl ?_
  refine v_callV (na := 1) (i := 0) (C := RX9) (T := TX9) (N := 9) (f0 := (M 0)) ok (ct_X9_isTape z.2.1 g M t ⟨by omega, by omega⟩) gX9_peek_X9_isTape (kd_lt (show kd 0 = 9 from rfl) (by decide)) rfl rfl (cellF_9 _ (by decide)) rfl (by decide +kernel) rfl (by decide) [] rfl (Nat.le_of_ble_eq_true rfl) dX9_peek_2 (fun v2 M3 hp1 => ?_)
  rcases hp1 with ⟨rfl, eM3, h4⟩ | ⟨rfl, eM3, h5⟩
  · skip
    subst M3
    show V z g 3 M [(0, rf g 0), (1, iv t), (2, iv i)] [iv 1] 5
    refine v_if_eq (tgt := 21) ok (by decide) dX9_peek_5 (by decide) (fun c6 => absurd c6 (by decide)) (fun c6 => ?_)
    refine v_aload_n ok 0 dX9_peek_8 rfl rfl ?_
    refine v_get (T := TX9) (N := 9) (f0 := (M 0)) (v := rf g 65) ok mi_X9_peek_9 (kd_lt (show kd 0 = 9 from rfl) (by decide)) rfl rfl (cellF_9 _ (by decide)) 8 (by decide) mk_X9_peek_63 rfl rfl dX9_peek_9 ?_
    refine v_iload_n ok 1 dX9_peek_12 rfl rfl ?_
    refine v_aald14 ok (by decide) (by omega) dX9_peek_13 (fun q7 eq7 kq7 kkq7 lnq7 => ?_)
    have hq : q7 = tpQ t := by rw [eq7]; unfold tpQ; omega
    have htq := htp q7 kq7
    refine v_iload_n ok 2 dX9_peek_14 rfl rfl ?_
    refine v_callV (na := 1) (i := q7) (C := RX8) (T := TX8) (N := 3) (f0 := (M q7)) ok (ct_X8_hasPlace z.2.1 g M q7 i kq7 ⟨by omega, by omega⟩ htq.2.1) gX9_peek_X8_hasPlace (kd_lt kq7 (by decide)) rfl rfl (cellF_8 _ kq7) rfl (by decide +kernel) rfl (by decide) [] rfl (Nat.le_of_ble_eq_true rfl) dX9_peek_15 (fun v9 M10 hp8 => ?_)
    rcases hp8 with ⟨rfl, eM10, h11⟩ | ⟨rfl, eM10, h12⟩
    · skip
      subst M10
      have h11 : 0 ≤ i ∧ i < (M q7) 2 := h11
      show V z g 3 M [(0, rf g 0), (1, iv t), (2, iv i)] [iv 1] 18
      refine v_if_ne (tgt := 25) ok (by decide) dX9_peek_18 (by decide) (fun c13 => ?_) (fun c13 => absurd c13 (by decide))
      refine v_aload_n ok 0 dX9_peek_25 rfl rfl ?_
      refine v_get (T := TX9) (N := 9) (f0 := (M 0)) (v := rf g 65) ok mi_X9_peek_9 (kd_lt (show kd 0 = 9 from rfl) (by decide)) rfl rfl (cellF_9 _ (by decide)) 8 (by decide) mk_X9_peek_63 rfl rfl dX9_peek_26 ?_
      refine v_iload_n ok 1 dX9_peek_29 rfl rfl ?_
      refine v_aald14 ok (by decide) (by omega) dX9_peek_30 (fun q14 eq14 kq14 kkq14 lnq14 => ?_)
      have hq2 : q14 = tpQ t := by rw [eq14]; unfold tpQ; omega
      have hqq := hq2.trans hq.symm
      refine v_get (T := TX8) (N := 3) (f0 := (M q14)) (v := rf g (q14 + 1)) ok mi_X9_peek_8 (kd_lt kq14 (by decide)) rfl rfl (cellF_8 _ kq14) 0 (by decide) mk_X9_peek_241 rfl rfl dX9_peek_31 ?_
      refine v_iload_n ok 2 dX9_peek_34 rfl rfl ?_
      refine v_lald (n := 60) (f0 := (M (q14 + 1))) ok kkq14 lnq14 (by (have h9 := htq.2.1; omega)) rfl dX9_peek_35 ?_
      exact v_lret ok rt dX9_peek_36 (Or.inr (⟨(congrArg (fun q : Int => some (jv q)) (show (M (q14 + 1) i) = (M (tpQ t + 1) i) from by (rw [hq2]))), rfl, (by omega), (by rw [← hq]; omega)⟩))
    · skip
      subst M10
      have h12 : ¬ (0 ≤ i ∧ i < (M q7) 2) := h12
      show V z g 3 M [(0, rf g 0), (1, iv t), (2, iv i)] [iv 0] 18
      refine v_if_ne (tgt := 25) ok (by decide) dX9_peek_18 (by decide) (fun c15 => absurd c15 (by decide)) (fun c15 => ?_)
      refine v_ldc2 (n := -9223372036854775808) ok mk_X9_peek_205 rfl dX9_peek_21 ?_
      exact v_lret ok rt dX9_peek_24 (Or.inl (⟨rfl, rfl, (by first | (rw [← hq]; omega) | omega)⟩))
  · skip
    subst M3
    show V z g 3 M [(0, rf g 0), (1, iv t), (2, iv i)] [iv 0] 5
    refine v_if_eq (tgt := 21) ok (by decide) dX9_peek_5 (by decide) (fun c16 => ?_) (fun c16 => absurd c16 (by decide))
    refine v_ldc2 (n := -9223372036854775808) ok mk_X9_peek_205 rfl dX9_peek_21 ?_
    exact v_lret ok rt dX9_peek_24 (Or.inl (⟨rfl, rfl, (by first | (rw [← hq]; omega) | omega)⟩))

theorem mk_X9_shift_63 : Cond.fieldLink RX9 63 "StormRunoff" "tapes" "[LStormRunoff$Tape;" ∈ wsX9_shift := by decide +kernel
theorem mi_X9_shift_9 : ∀ w ∈ wsX90, w ∈ wsX9_shift := by decide +kernel
theorem mk_X9_shift_235 : Cond.fieldLink RX9 235 "StormRunoff$Tape" "sort" "I" ∈ wsX9_shift := by decide +kernel
theorem mi_X9_shift_8 : ∀ w ∈ wsX80, w ∈ wsX9_shift := by decide +kernel
theorem mk_X9_shift_241 : Cond.fieldLink RX9 241 "StormRunoff$Tape" "items" "[J" ∈ wsX9_shift := by decide +kernel
theorem mk_X9_shift_262 : Cond.methodLink RX9 262 arraycopyName ∈ wsX9_shift := by decide +kernel
theorem mcn_X9_shift : Cond.native arraycopyName ∈ wsX9_shift := by decide +kernel
theorem mcs_X9_shift : Cond.static arraycopyName ∈ wsX9_shift := by decide +kernel
theorem mci_X9_shift : Cond.initialized "java/lang/System" ∈ wsX9_shift := by decide +kernel
set_option maxRecDepth 100000 in
set_option maxHeartbeats 400000 in
theorem ct_X9_shift (l : Launch) (g : Gl) (M : Mem) (t i o j n : Int) (ht : i32 t) (hi : i32 i) (ho : i32 o) (hj : i32 j) (hn : i32 n) (htp : TpsOk M) : Ct l g yX9_shift wsX9_shift 2 60 [rf g 0, iv t, iv i, iv o, iv j, iv n] M (fun rv M' => (rv = some (iv (-1)) ∧ M' = M ∧ (¬ (0 ≤ t ∧ t ≤ 5) ∨ ¬ (0 ≤ o ∧ o ≤ 5))) ∨ (rv = some (iv (-11)) ∧ M' = M ∧ (0 ≤ t ∧ t ≤ 5) ∧ (0 ≤ o ∧ o ≤ 5) ∧ (M (tpQ t) 1 = -1 ∨ M (tpQ o) 1 = -1)) ∨ (rv = some (iv (-12)) ∧ M' = M ∧ (0 ≤ t ∧ t ≤ 5) ∧ (0 ≤ o ∧ o ≤ 5) ∧ (M (tpQ t) 1 ≠ -1 ∧ M (tpQ o) 1 ≠ -1 ∧ M (tpQ t) 1 ≠ M (tpQ o) 1)) ∨ (rv = some (iv (-13)) ∧ M' = M ∧ (0 ≤ t ∧ t ≤ 5) ∧ (0 ≤ o ∧ o ≤ 5) ∧ (M (tpQ t) 1 ≠ -1 ∧ M (tpQ t) 1 = M (tpQ o) 1) ∧ (¬ (0 ≤ n ∧ 0 ≤ i ∧ i + n ≤ M (tpQ t) 2) ∨ ¬ (0 ≤ n ∧ 0 ≤ j ∧ j + n ≤ M (tpQ o) 2))) ∨ (rv = some (iv n) ∧ M' = (up1 M (tpQ o + 1) (cpy (M (tpQ t + 1)) (M (tpQ o + 1)) i j n)) ∧ (0 ≤ t ∧ t ≤ 5) ∧ (0 ≤ o ∧ o ≤ 5) ∧ (M (tpQ t) 1 ≠ -1 ∧ M (tpQ t) 1 = M (tpQ o) 1) ∧ ((0 ≤ n ∧ 0 ≤ i ∧ i + n ≤ M (tpQ t) 2) ∧ (0 ≤ n ∧ 0 ≤ j ∧ j + n ≤ M (tpQ o) 2)))) := by
  refine Ct.of (cc := cX9_shift) (nL := 8) (ret := (some .int)) (by decide) rfl (Nat.le_of_ble_eq_true rfl) (fun z hz ok rt => ?_)
  have ok : Ok z g cX9_shift 8 RX9 wsX9_shift 2 60 := ok
  show V z g 8 M [(0, rf g 0), (1, iv t), (2, iv i), (3, iv o), (4, iv j), (5, iv n)] [] 0
  refine v_aload_n ok 0 dX9_shift_0 rfl rfl ?_
  refine v_iload_n ok 1 dX9_shift_1 rfl rfl ?_
  refine v_callV (na := 1) (i := 0) (C := RX9) (T := TX9) (N := 9) (f0 := (M 0)) ok (ct_X9_isTape z.2.1 g M t ⟨by omega, by omega⟩) gX9_shift_X9_isTape (kd_lt (show kd 0 = 9 from rfl) (by decide)) rfl rfl (cellF_9 _ (by decide)) rfl (by decide +kernel) rfl (by decide) [] rfl (Nat.le_of_ble_eq_true rfl) dX9_shift_2 (fun v2 M3 hp1 => ?_)
  rcases hp1 with ⟨rfl, eM3, h4⟩ | ⟨rfl, eM3, h5⟩
  · skip
    subst M3
    show V z g 8 M [(0, rf g 0), (1, iv t), (2, iv i), (3, iv o), (4, iv j), (5, iv n)] [iv 1] 5
    refine v_if_eq (tgt := 16) ok (by decide) dX9_shift_5 (by decide) (fun c6 => absurd c6 (by decide)) (fun c6 => ?_)
    refine v_aload_n ok 0 dX9_shift_8 rfl rfl ?_
    refine v_iload_n ok 3 dX9_shift_9 rfl rfl ?_
    refine v_callV (na := 1) (i := 0) (C := RX9) (T := TX9) (N := 9) (f0 := (M 0)) ok (ct_X9_isTape z.2.1 g M o ⟨by omega, by omega⟩) gX9_shift_X9_isTape (kd_lt (show kd 0 = 9 from rfl) (by decide)) rfl rfl (cellF_9 _ (by decide)) rfl (by decide +kernel) rfl (by decide) [] rfl (Nat.le_of_ble_eq_true rfl) dX9_shift_10 (fun v8 M9 hp7 => ?_)
    rcases hp7 with ⟨rfl, eM9, h10⟩ | ⟨rfl, eM9, h11⟩
    · skip
      subst M9
      show V z g 8 M [(0, rf g 0), (1, iv t), (2, iv i), (3, iv o), (4, iv j), (5, iv n)] [iv 1] 13
      refine v_if_ne (tgt := 18) ok (by decide) dX9_shift_13 (by decide) (fun c12 => ?_) (fun c12 => absurd c12 (by decide))
      refine v_aload_n ok 0 dX9_shift_18 rfl rfl ?_
      refine v_get (T := TX9) (N := 9) (f0 := (M 0)) (v := rf g 65) ok mi_X9_shift_9 (kd_lt (show kd 0 = 9 from rfl) (by decide)) rfl rfl (cellF_9 _ (by decide)) 8 (by decide) mk_X9_shift_63 rfl rfl dX9_shift_19 ?_
      refine v_iload_n ok 1 dX9_shift_22 rfl rfl ?_
      refine v_aald14 ok (by decide) (by omega) dX9_shift_23 (fun q13 eq13 kq13 kkq13 lnq13 => ?_)
      have hq : q13 = tpQ t := by rw [eq13]; unfold tpQ; omega
      have htq := htp q13 kq13
      refine v_astore ok [(6, rf g q13), (0, rf g 0), (1, iv t), (2, iv i), (3, iv o), (4, iv j), (5, iv n)] dX9_shift_24 (by decide) rfl ?_
      refine v_aload_n ok 1 dX9_shift_26 rfl rfl ?_
      refine v_get (T := TX9) (N := 9) (f0 := (M 0)) (v := rf g 65) ok mi_X9_shift_9 (kd_lt (show kd 0 = 9 from rfl) (by decide)) rfl rfl (cellF_9 _ (by decide)) 8 (by decide) mk_X9_shift_63 rfl rfl dX9_shift_27 ?_
      refine v_iload_n ok 4 dX9_shift_30 rfl rfl ?_
      refine v_aald14 ok (by decide) (by omega) dX9_shift_31 (fun q14 eq14 kq14 kkq14 lnq14 => ?_)
      have hq2 : q14 = tpQ o := by rw [eq14]; unfold tpQ; omega
      have htq2 := htp q14 kq14
      refine v_astore ok [(7, rf g q14), (6, rf g q13), (0, rf g 0), (1, iv t), (2, iv i), (3, iv o), (4, iv j), (5, iv n)] dX9_shift_32 (by decide) rfl ?_
      refine v_aload ok 1 dX9_shift_34 rfl ?_
      refine v_get (T := TX8) (N := 3) (f0 := (M q13)) (v := iv (M q13 1)) ok mi_X9_shift_8 (kd_lt kq13 (by decide)) rfl rfl (cellF_8 _ kq13) 1 (by decide) mk_X9_shift_235 rfl rfl dX9_shift_36 ?_
      refine v_iconst (n := -1) ok dX9_shift_39 ?_
      refine v_icmp_eq (tgt := 52) ok ⟨by omega, by omega⟩ (by decide) dX9_shift_40 (by decide) (fun c15 => ?_) (fun c15 => ?_)
      · skip
        refine v_bipush (n := -11) ok rfl dX9_shift_52 ?_
        exact v_iret ok rt dX9_shift_54 (Or.inr (Or.inl (⟨rfl, rfl, (by omega), (by omega), (by rw [← hq, ← hq2]; omega)⟩)))
      · skip
        refine v_aload ok 0 dX9_shift_43 rfl ?_
        refine v_get (T := TX8) (N := 3) (f0 := (M q14)) (v := iv (M q14 1)) ok mi_X9_shift_8 (kd_lt kq14 (by decide)) rfl rfl (cellF_8 _ kq14) 1 (by decide) mk_X9_shift_235 rfl rfl dX9_shift_45 ?_
        refine v_iconst (n := -1) ok dX9_shift_48 ?_
        refine v_icmp_ne (tgt := 55) ok ⟨by omega, by omega⟩ (by decide) dX9_shift_49 (by decide) (fun c16 => ?_) (fun c16 => ?_)
        · skip
          refine v_aload ok 1 dX9_shift_55 rfl ?_
          refine v_get (T := TX8) (N := 3) (f0 := (M q13)) (v := iv (M q13 1)) ok mi_X9_shift_8 (kd_lt kq13 (by decide)) rfl rfl (cellF_8 _ kq13) 1 (by decide) mk_X9_shift_235 rfl rfl dX9_shift_57 ?_
          refine v_aload ok 0 dX9_shift_60 rfl ?_
          refine v_get (T := TX8) (N := 3) (f0 := (M q14)) (v := iv (M q14 1)) ok mi_X9_shift_8 (kd_lt kq14 (by decide)) rfl rfl (cellF_8 _ kq14) 1 (by decide) mk_X9_shift_235 rfl rfl dX9_shift_62 ?_
          refine v_icmp_eq (tgt := 71) ok ⟨by omega, by omega⟩ ⟨by omega, by omega⟩ dX9_shift_65 (by decide) (fun c17 => ?_) (fun c17 => ?_)
          · skip
            refine v_aload ok 1 dX9_shift_71 rfl ?_
            refine v_iload_n ok 4 dX9_shift_73 rfl rfl ?_
            refine v_iload ok 7 dX9_shift_74 rfl ?_
            refine v_callV (na := 2) (i := q13) (C := RX8) (T := TX8) (N := 3) (f0 := (M q13)) ok (ct_X8_hasStretch z.2.1 g M q13 i n kq13 ⟨by omega, by omega⟩ ⟨by omega, by omega⟩ htq.2.1) gX9_shift_X8_hasStretch (kd_lt kq13 (by decide)) rfl rfl (cellF_8 _ kq13) rfl (by decide +kernel) rfl (by decide) [] rfl (Nat.le_of_ble_eq_true rfl) dX9_shift_76 (fun v19 M20 hp18 => ?_)
            rcases hp18 with ⟨rfl, eM20, h21⟩ | ⟨rfl, eM20, h22⟩
            · skip
              subst M20
              have h21 : 0 ≤ n ∧ 0 ≤ i ∧ i + n ≤ (M q13) 2 := h21
              show V z g 8 M [(7, rf g q14), (6, rf g q13), (0, rf g 0), (1, iv t), (2, iv i), (3, iv o), (4, iv j), (5, iv n)] [iv 1] 79
              refine v_if_eq (tgt := 94) ok (by decide) dX9_shift_79 (by decide) (fun c23 => absurd c23 (by decide)) (fun c23 => ?_)
              refine v_aload ok 0 dX9_shift_82 rfl ?_
              refine v_iload ok 6 dX9_shift_84 rfl ?_
              refine v_iload ok 7 dX9_shift_86 rfl ?_
              refine v_callV (na := 2) (i := q14) (C := RX8) (T := TX8) (N := 3) (f0 := (M q14)) ok (ct_X8_hasStretch z.2.1 g M q14 j n kq14 ⟨by omega, by omega⟩ ⟨by omega, by omega⟩ htq2.2.1) gX9_shift_X8_hasStretch (kd_lt kq14 (by decide)) rfl rfl (cellF_8 _ kq14) rfl (by decide +kernel) rfl (by decide) [] rfl (Nat.le_of_ble_eq_true rfl) dX9_shift_88 (fun v25 M26 hp24 => ?_)
              rcases hp24 with ⟨rfl, eM26, h27⟩ | ⟨rfl, eM26, h28⟩
              · skip
                subst M26
                have h27 : 0 ≤ n ∧ 0 ≤ j ∧ j + n ≤ (M q14) 2 := h27
                show V z g 8 M [(7, rf g q14), (6, rf g q13), (0, rf g 0), (1, iv t), (2, iv i), (3, iv o), (4, iv j), (5, iv n)] [iv 1] 91
                refine v_if_ne (tgt := 97) ok (by decide) dX9_shift_91 (by decide) (fun c29 => ?_) (fun c29 => absurd c29 (by decide))
                refine v_aload ok 1 dX9_shift_97 rfl ?_
                refine v_get (T := TX8) (N := 3) (f0 := (M q13)) (v := rf g (q13 + 1)) ok mi_X9_shift_8 (kd_lt kq13 (by decide)) rfl rfl (cellF_8 _ kq13) 0 (by decide) mk_X9_shift_241 rfl rfl dX9_shift_99 ?_
                refine v_iload_n ok 4 dX9_shift_102 rfl rfl ?_
                refine v_aload ok 0 dX9_shift_103 rfl ?_
                refine v_get (T := TX8) (N := 3) (f0 := (M q14)) (v := rf g (q14 + 1)) ok mi_X9_shift_8 (kd_lt kq14 (by decide)) rfl rfl (cellF_8 _ kq14) 0 (by decide) mk_X9_shift_241 rfl rfl dX9_shift_105 ?_
                refine v_iload ok 6 dX9_shift_108 rfl ?_
                refine v_iload ok 7 dX9_shift_110 rfl ?_
                refine v_copyl ok kkq13 kkq14 (by omega) (by omega) (by omega) (by omega) (by omega) mk_X9_shift_262 mcn_X9_shift mcs_X9_shift mci_X9_shift ⟨by decide, by decide +kernel⟩ dX9_shift_112 ?_
                refine v_iload ok 7 dX9_shift_115 rfl ?_
                exact v_iret ok rt dX9_shift_117 (Or.inr (Or.inr (Or.inr (Or.inr (⟨rfl, (by rw [hq, hq2]), (by omega), (by omega), (by rw [← hq, ← hq2]; omega), (by rw [← hq, ← hq2]; omega)⟩)))))
              · skip
                subst M26
                have h28 : ¬ (0 ≤ n ∧ 0 ≤ j ∧ j + n ≤ (M q14) 2) := h28
                show V z g 8 M [(7, rf g q14), (6, rf g q13), (0, rf g 0), (1, iv t), (2, iv i), (3, iv o), (4, iv j), (5, iv n)] [iv 0] 91
                refine v_if_ne (tgt := 97) ok (by decide) dX9_shift_91 (by decide) (fun c30 => absurd c30 (by decide)) (fun c30 => ?_)
                refine v_bipush (n := -13) ok rfl dX9_shift_94 ?_
                exact v_iret ok rt dX9_shift_96 (Or.inr (Or.inr (Or.inr (Or.inl (⟨rfl, rfl, (by omega), (by omega), (by rw [← hq, ← hq2]; omega), (by rw [← hq, ← hq2]; omega)⟩)))))
            · skip
              subst M20
              have h22 : ¬ (0 ≤ n ∧ 0 ≤ i ∧ i + n ≤ (M q13) 2) := h22
              show V z g 8 M [(7, rf g q14), (6, rf g q13), (0, rf g 0), (1, iv t), (2, iv i), (3, iv o), (4, iv j), (5, iv n)] [iv 0] 79
              refine v_if_eq (tgt := 94) ok (by decide) dX9_shift_79 (by decide) (fun c31 => ?_) (fun c31 => absurd c31 (by decide))
              refine v_bipush (n := -13) ok rfl dX9_shift_94 ?_
              exact v_iret ok rt dX9_shift_96 (Or.inr (Or.inr (Or.inr (Or.inl (⟨rfl, rfl, (by omega), (by omega), (by rw [← hq, ← hq2]; omega), (by rw [← hq, ← hq2]; omega)⟩)))))
          · skip
            refine v_bipush (n := -12) ok rfl dX9_shift_68 ?_
            exact v_iret ok rt dX9_shift_70 (Or.inr (Or.inr (Or.inl (⟨rfl, rfl, (by omega), (by omega), (by rw [← hq, ← hq2]; omega)⟩))))
        · skip
          refine v_bipush (n := -11) ok rfl dX9_shift_52 ?_
          exact v_iret ok rt dX9_shift_54 (Or.inr (Or.inl (⟨rfl, rfl, (by omega), (by omega), (by rw [← hq, ← hq2]; omega)⟩)))
    · skip
      subst M9
      show V z g 8 M [(0, rf g 0), (1, iv t), (2, iv i), (3, iv o), (4, iv j), (5, iv n)] [iv 0] 13
      refine v_if_ne (tgt := 18) ok (by decide) dX9_shift_13 (by decide) (fun c32 => absurd c32 (by decide)) (fun c32 => ?_)
      refine v_iconst (n := -1) ok dX9_shift_16 ?_
      exact v_iret ok rt dX9_shift_17 (Or.inl (⟨rfl, rfl, (by omega)⟩))
  · skip
    subst M3
    show V z g 8 M [(0, rf g 0), (1, iv t), (2, iv i), (3, iv o), (4, iv j), (5, iv n)] [iv 0] 5
    refine v_if_eq (tgt := 16) ok (by decide) dX9_shift_5 (by decide) (fun c33 => ?_) (fun c33 => absurd c33 (by decide))
    refine v_iconst (n := -1) ok dX9_shift_16 ?_
    exact v_iret ok rt dX9_shift_17 (Or.inl (⟨rfl, rfl, (by omega)⟩))
