theorem mk_X10_see_229 : Cond.constantLong RX10 229 (9999) ∈ wsX10_see := by decide +kernel
theorem mk_X10_see_11 : Cond.fieldLink RX10 11 "StormRunoffModel" "w" "[I" ∈ wsX10_see := by decide +kernel
theorem mi_X10_see_10 : ∀ w ∈ wsX100, w ∈ wsX10_see := by decide +kernel
set_option maxRecDepth 100000 in
set_option maxHeartbeats 400000 in
theorem ct_X10_see (l : Launch) (g : Gl) (M : Mem) (h n : Int) (hh : i32 h) (hn : i32 n) (hrw : 0 ≤ M 79 45 ∧ M 79 45 ≤ 5) : Ct l g yX10_see wsX10_see 2 45 [rf g 78, iv h, iv n] M (fun rv M' => (rv = some (iv 0) ∧ M' = (up1 M 79 (up (M 79) 45 0)) ∧ (h = -1)) ∨ (rv = some (iv (-1)) ∧ M' = M ∧ (h ≠ -1) ∧ (¬ (0 ≤ h ∧ h ≤ 29))) ∨ (rv = some (iv (-2)) ∧ M' = M ∧ (0 ≤ h ∧ h ≤ 29) ∧ (¬ (0 ≤ n ∧ n ≤ 9999))) ∨ (rv = some (iv (-4)) ∧ M' = M ∧ (0 ≤ h ∧ h ≤ 29) ∧ (0 ≤ n ∧ n ≤ 9999) ∧ (M 79 45 = 5)) ∨ (rv = some (iv (M 79 45 + 1)) ∧ M' = (up1 M 79 (adW (M 79) 45 46 h n)) ∧ (0 ≤ h ∧ h ≤ 29) ∧ (0 ≤ n ∧ n ≤ 9999) ∧ (M 79 45 < 5))) := by
  refine Ct.of (cc := cX10_see) (nL := 4) (ret := (some .int)) (by decide) rfl (Nat.le_of_ble_eq_true rfl) (fun z hz ok rt => ?_)
  have ok : Ok z g cX10_see 4 RX10 wsX10_see 2 45 := ok
  show V z g 4 M [(0, rf g 78), (1, iv h), (2, iv n)] [] 0
  refine v_iload_n ok 1 dX10_see_0 rfl rfl ?_
  refine v_iconst (n := -1) ok dX10_see_1 ?_
  refine v_icmp_ne (tgt := 15) ok ⟨by omega, by omega⟩ (by decide) dX10_see_2 (by decide) (fun c1 => ?_) (fun c1 => ?_)
  · skip
    refine v_iload_n ok 1 dX10_see_15 rfl rfl ?_
    refine v_callS (na := 1) ok (ct_X10_isHour z.2.1 g M h ⟨by omega, by omega⟩) gX10_see_X10_isHour rfl (by decide +kernel) rfl (by decide) [] rfl (Nat.le_of_ble_eq_true rfl) dX10_see_16 (fun v3 M4 hp2 => ?_)
    rcases hp2 with ⟨rfl, eM4, h5⟩ | ⟨rfl, eM4, h6⟩
    · skip
      subst M4
      show V z g 4 M [(0, rf g 78), (1, iv h), (2, iv n)] [iv 1] 19
      refine v_if_ne (tgt := 24) ok (by decide) dX10_see_19 (by decide) (fun c7 => ?_) (fun c7 => absurd c7 (by decide))
      refine v_iload_n ok 2 dX10_see_24 rfl rfl ?_
      refine v_i2l ok ⟨by omega, by omega⟩ dX10_see_25 ?_
      refine v_lconst (n := 0) ok rfl dX10_see_26 ?_
      refine v_ldc2 (n := 9999) ok mk_X10_see_229 rfl dX10_see_27 ?_
      refine v_callS (na := 3) ok (ct_X10_in z.2.1 g M n 0 9999 ⟨by omega, by omega⟩ (by decide) (by decide)) gX10_see_X10_in rfl (by decide +kernel) rfl (by decide) [] rfl (Nat.le_of_ble_eq_true rfl) dX10_see_30 (fun v9 M10 hp8 => ?_)
      rcases hp8 with ⟨rfl, eM10, h11⟩ | ⟨rfl, eM10, h12⟩
      · skip
        subst M10
        show V z g 4 M [(0, rf g 78), (1, iv h), (2, iv n)] [iv 1] 33
        refine v_if_ne (tgt := 39) ok (by decide) dX10_see_33 (by decide) (fun c13 => ?_) (fun c13 => absurd c13 (by decide))
        refine v_aload_n ok 0 dX10_see_39 rfl rfl ?_
        refine v_get (T := TX10) (N := 22) (f0 := (M 78)) (v := rf g 79) ok mi_X10_see_10 (kd_lt (show kd 78 = 10 from rfl) (by decide)) rfl rfl (cellF_10 _ (by decide)) 0 (by decide) mk_X10_see_11 rfl rfl dX10_see_40 ?_
        refine v_bipush (n := 45) ok rfl dX10_see_43 ?_
        refine v_iald (n := 90) (f0 := (M 79)) ok (by decide) rfl (by omega) rfl dX10_see_45 ?_
        refine v_iconst (n := 5) ok dX10_see_46 ?_
        refine v_icmp_ne (tgt := 53) ok ⟨by omega, by omega⟩ (by decide) dX10_see_47 (by decide) (fun c14 => ?_) (fun c14 => ?_)
        · skip
          refine v_bipush (n := 46) ok rfl dX10_see_53 ?_
          refine v_iconst (n := 2) ok dX10_see_55 ?_
          refine v_aload_n ok 0 dX10_see_56 rfl rfl ?_
          refine v_get (T := TX10) (N := 22) (f0 := (M 78)) (v := rf g 79) ok mi_X10_see_10 (kd_lt (show kd 78 = 10 from rfl) (by decide)) rfl rfl (cellF_10 _ (by decide)) 0 (by decide) mk_X10_see_11 rfl rfl dX10_see_57 ?_
          refine v_bipush (n := 45) ok rfl dX10_see_60 ?_
          refine v_iald (n := 90) (f0 := (M 79)) ok (by decide) rfl (by omega) rfl dX10_see_62 ?_
          refine v_imul ok dX10_see_63 ?_
          refine v_iadd ok dX10_see_64 ?_
          refine v_istore_n ok [(3, iv (46 + (2 * (M 79 45)))), (0, rf g 78), (1, iv h), (2, iv n)] dX10_see_65 rfl (by decide) rfl ?_
          refine v_aload_n ok 1 dX10_see_66 rfl rfl ?_
          refine v_get (T := TX10) (N := 22) (f0 := (M 78)) (v := rf g 79) ok mi_X10_see_10 (kd_lt (show kd 78 = 10 from rfl) (by decide)) rfl rfl (cellF_10 _ (by decide)) 0 (by decide) mk_X10_see_11 rfl rfl dX10_see_67 ?_
          refine v_iload_n ok 0 dX10_see_70 rfl rfl ?_
          refine v_iload_n ok 2 dX10_see_71 rfl rfl ?_
          refine v_iast (n := 90) (f0 := (M 79)) ok (by decide) rfl (by omega) rfl dX10_see_72 ?_
          refine v_aload_n ok 1 dX10_see_73 rfl rfl ?_
          refine v_get (T := TX10) (N := 22) (f0 := (M 78)) (v := rf g 79) ok mi_X10_see_10 (kd_lt (show kd 78 = 10 from rfl) (by decide)) rfl rfl (cellF_10 _ (by decide)) 0 (by decide) mk_X10_see_11 rfl rfl dX10_see_74 ?_
          refine v_iload_n ok 0 dX10_see_77 rfl rfl ?_
          refine v_iconst (n := 1) ok dX10_see_78 ?_
          refine v_iadd ok dX10_see_79 ?_
          refine v_iload_n ok 3 dX10_see_80 rfl rfl ?_
          refine v_iast (n := 90) (f0 := up (M 79) (46 + (2 * (M 79 45))) h) ok (by decide) rfl (by omega) rfl dX10_see_81 ?_
          rw [up1_up1]
          refine v_aload_n ok 1 dX10_see_82 rfl rfl ?_
          refine v_get (T := TX10) (N := 22) (f0 := (M 78)) (v := rf g 79) ok mi_X10_see_10 (kd_lt (show kd 78 = 10 from rfl) (by decide)) rfl rfl (cellF_10 _ (by decide)) 0 (by decide) mk_X10_see_11 rfl rfl dX10_see_83 ?_
          refine v_bipush (n := 45) ok rfl dX10_see_86 ?_
          refine v_dup2 ok rfl rfl dX10_see_88 ?_
          refine v_iald (n := 90) (f0 := up (up (M 79) (46 + (2 * (M 79 45))) h) ((46 + (2 * (M 79 45))) + 1) n) ok (by decide) rfl (by omega) rfl dX10_see_89 ?_
          rw [show ((up (up (M 79) (46 + (2 * (M 79 45))) h) ((46 + (2 * (M 79 45))) + 1) n 45) : Int) = (M 79 45) from (by rw [up_ne (by omega), up_ne (by omega)])]
          refine v_iconst (n := 1) ok dX10_see_90 ?_
          refine v_iadd ok dX10_see_91 ?_
          refine v_iast (n := 90) (f0 := up (up (M 79) (46 + (2 * (M 79 45))) h) ((46 + (2 * (M 79 45))) + 1) n) ok (by decide) rfl (by omega) rfl dX10_see_92 ?_
          rw [up1_up1]
          refine v_cong (n := 90) (adW (M 79) 45 46 h n) (Or.inl (by decide)) rfl (fun j j0 j1 => rfl) ?_
          refine v_aload_n ok 1 dX10_see_93 rfl rfl ?_
          refine v_get (T := TX10) (N := 22) (f0 := (M 78)) (v := rf g 79) ok mi_X10_see_10 (kd_lt (show kd 78 = 10 from rfl) (by decide)) rfl rfl (cellF_10 _ (by decide)) 0 (by decide) mk_X10_see_11 rfl rfl dX10_see_94 ?_
          refine v_bipush (n := 45) ok rfl dX10_see_97 ?_
          refine v_iald (n := 90) (f0 := (adW (M 79) 45 46 h n)) ok (by decide) rfl (by omega) rfl dX10_see_99 ?_
          exact v_iret ok rt dX10_see_100 (Or.inr (Or.inr (Or.inr (Or.inr (⟨(congrArg (fun q : Int => some (iv q)) (show ((adW (M 79) 45 46 h n) 45) = (M 79 45 + 1) from by (unfold adW; rw [up_same]))), rfl, (by omega), (by omega), (by omega)⟩)))))
        · skip
          refine v_bipush (n := -4) ok rfl dX10_see_50 ?_
          exact v_iret ok rt dX10_see_52 (Or.inr (Or.inr (Or.inr (Or.inl (⟨rfl, rfl, (by omega), (by omega), (by omega)⟩)))))
      · skip
        subst M10
        show V z g 4 M [(0, rf g 78), (1, iv h), (2, iv n)] [iv 0] 33
        refine v_if_ne (tgt := 39) ok (by decide) dX10_see_33 (by decide) (fun c15 => absurd c15 (by decide)) (fun c15 => ?_)
        refine v_bipush (n := -2) ok rfl dX10_see_36 ?_
        exact v_iret ok rt dX10_see_38 (Or.inr (Or.inr (Or.inl (⟨rfl, rfl, (by omega), (by omega)⟩))))
    · skip
      subst M4
      show V z g 4 M [(0, rf g 78), (1, iv h), (2, iv n)] [iv 0] 19
      refine v_if_ne (tgt := 24) ok (by decide) dX10_see_19 (by decide) (fun c16 => absurd c16 (by decide)) (fun c16 => ?_)
      refine v_iconst (n := -1) ok dX10_see_22 ?_
      exact v_iret ok rt dX10_see_23 (Or.inr (Or.inl (⟨rfl, rfl, (by omega), (by omega)⟩)))
  · skip
    refine v_aload_n ok 0 dX10_see_5 rfl rfl ?_
    refine v_get (T := TX10) (N := 22) (f0 := (M 78)) (v := rf g 79) ok mi_X10_see_10 (kd_lt (show kd 78 = 10 from rfl) (by decide)) rfl rfl (cellF_10 _ (by decide)) 0 (by decide) mk_X10_see_11 rfl rfl dX10_see_6 ?_
    refine v_bipush (n := 45) ok rfl dX10_see_9 ?_
    refine v_iconst (n := 0) ok dX10_see_11 ?_
    refine v_iast (n := 90) (f0 := (M 79)) ok (by decide) rfl (by omega) rfl dX10_see_12 ?_
    refine v_iconst (n := 0) ok dX10_see_13 ?_
    exact v_iret ok rt dX10_see_14 (Or.inl (⟨rfl, rfl, (by omega)⟩))

theorem mk_X10_book_229 : Cond.constantLong RX10 229 (9999) ∈ wsX10_book := by decide +kernel
theorem mk_X10_book_11 : Cond.fieldLink RX10 11 "StormRunoffModel" "w" "[I" ∈ wsX10_book := by decide +kernel
theorem mi_X10_book_10 : ∀ w ∈ wsX100, w ∈ wsX10_book := by decide +kernel
set_option maxRecDepth 100000 in
set_option maxHeartbeats 400000 in
theorem ct_X10_book (l : Launch) (g : Gl) (M : Mem) (h n : Int) (hh : i32 h) (hn : i32 n) (hrw : 0 ≤ M 79 73 ∧ M 79 73 ≤ 8) : Ct l g yX10_book wsX10_book 2 45 [rf g 78, iv h, iv n] M (fun rv M' => (rv = some (iv 0) ∧ M' = (up1 M 79 (up (M 79) 73 0)) ∧ (h = -1)) ∨ (rv = some (iv (-1)) ∧ M' = M ∧ (h ≠ -1) ∧ (¬ (0 ≤ h ∧ h ≤ 29))) ∨ (rv = some (iv (-2)) ∧ M' = M ∧ (0 ≤ h ∧ h ≤ 29) ∧ (¬ (0 ≤ n ∧ n ≤ 9999))) ∨ (rv = some (iv (-4)) ∧ M' = M ∧ (0 ≤ h ∧ h ≤ 29) ∧ (0 ≤ n ∧ n ≤ 9999) ∧ (M 79 73 = 8)) ∨ (rv = some (iv (M 79 73 + 1)) ∧ M' = (up1 M 79 (adW (M 79) 73 74 h n)) ∧ (0 ≤ h ∧ h ≤ 29) ∧ (0 ≤ n ∧ n ≤ 9999) ∧ (M 79 73 < 8))) := by
  refine Ct.of (cc := cX10_book) (nL := 4) (ret := (some .int)) (by decide) rfl (Nat.le_of_ble_eq_true rfl) (fun z hz ok rt => ?_)
  have ok : Ok z g cX10_book 4 RX10 wsX10_book 2 45 := ok
  show V z g 4 M [(0, rf g 78), (1, iv h), (2, iv n)] [] 0
  refine v_iload_n ok 1 dX10_book_0 rfl rfl ?_
  refine v_iconst (n := -1) ok dX10_book_1 ?_
  refine v_icmp_ne (tgt := 15) ok ⟨by omega, by omega⟩ (by decide) dX10_book_2 (by decide) (fun c1 => ?_) (fun c1 => ?_)
  · skip
    refine v_iload_n ok 1 dX10_book_15 rfl rfl ?_
    refine v_callS (na := 1) ok (ct_X10_isHour z.2.1 g M h ⟨by omega, by omega⟩) gX10_book_X10_isHour rfl (by decide +kernel) rfl (by decide) [] rfl (Nat.le_of_ble_eq_true rfl) dX10_book_16 (fun v3 M4 hp2 => ?_)
    rcases hp2 with ⟨rfl, eM4, h5⟩ | ⟨rfl, eM4, h6⟩
    · skip
      subst M4
      show V z g 4 M [(0, rf g 78), (1, iv h), (2, iv n)] [iv 1] 19
      refine v_if_ne (tgt := 24) ok (by decide) dX10_book_19 (by decide) (fun c7 => ?_) (fun c7 => absurd c7 (by decide))
      refine v_iload_n ok 2 dX10_book_24 rfl rfl ?_
      refine v_i2l ok ⟨by omega, by omega⟩ dX10_book_25 ?_
      refine v_lconst (n := 0) ok rfl dX10_book_26 ?_
      refine v_ldc2 (n := 9999) ok mk_X10_book_229 rfl dX10_book_27 ?_
      refine v_callS (na := 3) ok (ct_X10_in z.2.1 g M n 0 9999 ⟨by omega, by omega⟩ (by decide) (by decide)) gX10_book_X10_in rfl (by decide +kernel) rfl (by decide) [] rfl (Nat.le_of_ble_eq_true rfl) dX10_book_30 (fun v9 M10 hp8 => ?_)
      rcases hp8 with ⟨rfl, eM10, h11⟩ | ⟨rfl, eM10, h12⟩
      · skip
        subst M10
        show V z g 4 M [(0, rf g 78), (1, iv h), (2, iv n)] [iv 1] 33
        refine v_if_ne (tgt := 39) ok (by decide) dX10_book_33 (by decide) (fun c13 => ?_) (fun c13 => absurd c13 (by decide))
        refine v_aload_n ok 0 dX10_book_39 rfl rfl ?_
        refine v_get (T := TX10) (N := 22) (f0 := (M 78)) (v := rf g 79) ok mi_X10_book_10 (kd_lt (show kd 78 = 10 from rfl) (by decide)) rfl rfl (cellF_10 _ (by decide)) 0 (by decide) mk_X10_book_11 rfl rfl dX10_book_40 ?_
        refine v_bipush (n := 73) ok rfl dX10_book_43 ?_
        refine v_iald (n := 90) (f0 := (M 79)) ok (by decide) rfl (by omega) rfl dX10_book_45 ?_
        refine v_bipush (n := 8) ok rfl dX10_book_46 ?_
        refine v_icmp_ne (tgt := 54) ok ⟨by omega, by omega⟩ (by decide) dX10_book_48 (by decide) (fun c14 => ?_) (fun c14 => ?_)
        · skip
          refine v_bipush (n := 74) ok rfl dX10_book_54 ?_
          refine v_iconst (n := 2) ok dX10_book_56 ?_
          refine v_aload_n ok 0 dX10_book_57 rfl rfl ?_
          refine v_get (T := TX10) (N := 22) (f0 := (M 78)) (v := rf g 79) ok mi_X10_book_10 (kd_lt (show kd 78 = 10 from rfl) (by decide)) rfl rfl (cellF_10 _ (by decide)) 0 (by decide) mk_X10_book_11 rfl rfl dX10_book_58 ?_
          refine v_bipush (n := 73) ok rfl dX10_book_61 ?_
          refine v_iald (n := 90) (f0 := (M 79)) ok (by decide) rfl (by omega) rfl dX10_book_63 ?_
          refine v_imul ok dX10_book_64 ?_
          refine v_iadd ok dX10_book_65 ?_
          refine v_istore_n ok [(3, iv (74 + (2 * (M 79 73)))), (0, rf g 78), (1, iv h), (2, iv n)] dX10_book_66 rfl (by decide) rfl ?_
          refine v_aload_n ok 1 dX10_book_67 rfl rfl ?_
          refine v_get (T := TX10) (N := 22) (f0 := (M 78)) (v := rf g 79) ok mi_X10_book_10 (kd_lt (show kd 78 = 10 from rfl) (by decide)) rfl rfl (cellF_10 _ (by decide)) 0 (by decide) mk_X10_book_11 rfl rfl dX10_book_68 ?_
          refine v_iload_n ok 0 dX10_book_71 rfl rfl ?_
          refine v_iload_n ok 2 dX10_book_72 rfl rfl ?_
          refine v_iast (n := 90) (f0 := (M 79)) ok (by decide) rfl (by omega) rfl dX10_book_73 ?_
          refine v_aload_n ok 1 dX10_book_74 rfl rfl ?_
          refine v_get (T := TX10) (N := 22) (f0 := (M 78)) (v := rf g 79) ok mi_X10_book_10 (kd_lt (show kd 78 = 10 from rfl) (by decide)) rfl rfl (cellF_10 _ (by decide)) 0 (by decide) mk_X10_book_11 rfl rfl dX10_book_75 ?_
          refine v_iload_n ok 0 dX10_book_78 rfl rfl ?_
          refine v_iconst (n := 1) ok dX10_book_79 ?_
          refine v_iadd ok dX10_book_80 ?_
          refine v_iload_n ok 3 dX10_book_81 rfl rfl ?_
          refine v_iast (n := 90) (f0 := up (M 79) (74 + (2 * (M 79 73))) h) ok (by decide) rfl (by omega) rfl dX10_book_82 ?_
          rw [up1_up1]
          refine v_aload_n ok 1 dX10_book_83 rfl rfl ?_
          refine v_get (T := TX10) (N := 22) (f0 := (M 78)) (v := rf g 79) ok mi_X10_book_10 (kd_lt (show kd 78 = 10 from rfl) (by decide)) rfl rfl (cellF_10 _ (by decide)) 0 (by decide) mk_X10_book_11 rfl rfl dX10_book_84 ?_
          refine v_bipush (n := 73) ok rfl dX10_book_87 ?_
          refine v_dup2 ok rfl rfl dX10_book_89 ?_
          refine v_iald (n := 90) (f0 := up (up (M 79) (74 + (2 * (M 79 73))) h) ((74 + (2 * (M 79 73))) + 1) n) ok (by decide) rfl (by omega) rfl dX10_book_90 ?_
          rw [show ((up (up (M 79) (74 + (2 * (M 79 73))) h) ((74 + (2 * (M 79 73))) + 1) n 73) : Int) = (M 79 73) from (by rw [up_ne (by omega), up_ne (by omega)])]
          refine v_iconst (n := 1) ok dX10_book_91 ?_
          refine v_iadd ok dX10_book_92 ?_
          refine v_iast (n := 90) (f0 := up (up (M 79) (74 + (2 * (M 79 73))) h) ((74 + (2 * (M 79 73))) + 1) n) ok (by decide) rfl (by omega) rfl dX10_book_93 ?_
          rw [up1_up1]
          refine v_cong (n := 90) (adW (M 79) 73 74 h n) (Or.inl (by decide)) rfl (fun j j0 j1 => rfl) ?_
          refine v_aload_n ok 1 dX10_book_94 rfl rfl ?_
          refine v_get (T := TX10) (N := 22) (f0 := (M 78)) (v := rf g 79) ok mi_X10_book_10 (kd_lt (show kd 78 = 10 from rfl) (by decide)) rfl rfl (cellF_10 _ (by decide)) 0 (by decide) mk_X10_book_11 rfl rfl dX10_book_95 ?_
          refine v_bipush (n := 73) ok rfl dX10_book_98 ?_
          refine v_iald (n := 90) (f0 := (adW (M 79) 73 74 h n)) ok (by decide) rfl (by omega) rfl dX10_book_100 ?_
          exact v_iret ok rt dX10_book_101 (Or.inr (Or.inr (Or.inr (Or.inr (⟨(congrArg (fun q : Int => some (iv q)) (show ((adW (M 79) 73 74 h n) 73) = (M 79 73 + 1) from by (unfold adW; rw [up_same]))), rfl, (by omega), (by omega), (by omega)⟩)))))
        · skip
          refine v_bipush (n := -4) ok rfl dX10_book_51 ?_
          exact v_iret ok rt dX10_book_53 (Or.inr (Or.inr (Or.inr (Or.inl (⟨rfl, rfl, (by omega), (by omega), (by omega)⟩)))))
      · skip
        subst M10
        show V z g 4 M [(0, rf g 78), (1, iv h), (2, iv n)] [iv 0] 33
        refine v_if_ne (tgt := 39) ok (by decide) dX10_book_33 (by decide) (fun c15 => absurd c15 (by decide)) (fun c15 => ?_)
        refine v_bipush (n := -2) ok rfl dX10_book_36 ?_
        exact v_iret ok rt dX10_book_38 (Or.inr (Or.inr (Or.inl (⟨rfl, rfl, (by omega), (by omega)⟩))))
    · skip
      subst M4
      show V z g 4 M [(0, rf g 78), (1, iv h), (2, iv n)] [iv 0] 19
      refine v_if_ne (tgt := 24) ok (by decide) dX10_book_19 (by decide) (fun c16 => absurd c16 (by decide)) (fun c16 => ?_)
      refine v_iconst (n := -1) ok dX10_book_22 ?_
      exact v_iret ok rt dX10_book_23 (Or.inr (Or.inl (⟨rfl, rfl, (by omega), (by omega)⟩)))
  · skip
    refine v_aload_n ok 0 dX10_book_5 rfl rfl ?_
    refine v_get (T := TX10) (N := 22) (f0 := (M 78)) (v := rf g 79) ok mi_X10_book_10 (kd_lt (show kd 78 = 10 from rfl) (by decide)) rfl rfl (cellF_10 _ (by decide)) 0 (by decide) mk_X10_book_11 rfl rfl dX10_book_6 ?_
    refine v_bipush (n := 73) ok rfl dX10_book_9 ?_
    refine v_iconst (n := 0) ok dX10_book_11 ?_
    refine v_iast (n := 90) (f0 := (M 79)) ok (by decide) rfl (by omega) rfl dX10_book_12 ?_
    refine v_iconst (n := 0) ok dX10_book_13 ?_
    exact v_iret ok rt dX10_book_14 (Or.inl (⟨rfl, rfl, (by omega)⟩))

theorem mk_X10_event_212 : Cond.constantLong RX10 212 (3) ∈ wsX10_event := by decide +kernel
theorem mk_X10_event_67 : Cond.constantLong RX10 67 (7) ∈ wsX10_event := by decide +kernel
theorem mk_X10_event_11 : Cond.fieldLink RX10 11 "StormRunoffModel" "w" "[I" ∈ wsX10_event := by decide +kernel
theorem mi_X10_event_10 : ∀ w ∈ wsX100, w ∈ wsX10_event := by decide +kernel
set_option maxRecDepth 100000 in
set_option maxHeartbeats 400000 in
theorem ct_X10_event (l : Launch) (g : Gl) (M : Mem) (w n : Int) (hwi : i32 w) (hn : i32 n) (hm : 0 ≤ M 79 20 ∧ M 79 20 ≤ 3) (hrw : 0 ≤ M 79 56 ∧ M 79 56 ≤ 8) : Ct l g yX10_event wsX10_event 2 46 [rf g 78, iv w, iv n] M (fun rv M' => (rv = some (iv 0) ∧ M' = (up1 M 79 (up (M 79) 56 0)) ∧ (w = -1)) ∨ (rv = some (iv (-1)) ∧ M' = M ∧ (w ≠ -1) ∧ (¬ (0 ≤ w ∧ w ≤ 3) ∨ (0 ≤ w ∧ w ≤ 1 ∧ ¬ (0 ≤ n ∧ n ≤ 7)) ∨ (w = 2 ∧ ¬ (0 ≤ n ∧ n < M 79 20)))) ∨ (rv = some (iv (-2)) ∧ M' = M ∧ (w = 3) ∧ (¬ (0 ≤ n ∧ n ≤ 7))) ∨ (rv = some (iv (-4)) ∧ M' = M ∧ ((0 ≤ w ∧ w ≤ 1 ∧ 0 ≤ n ∧ n ≤ 7) ∨ (w = 2 ∧ 0 ≤ n ∧ n < M 79 20) ∨ (w = 3 ∧ 0 ≤ n ∧ n ≤ 7)) ∧ (M 79 56 = 8)) ∨ (rv = some (iv (M 79 56 + 1)) ∧ M' = (up1 M 79 (adW (M 79) 56 57 w n)) ∧ ((0 ≤ w ∧ w ≤ 1 ∧ 0 ≤ n ∧ n ≤ 7) ∨ (w = 2 ∧ 0 ≤ n ∧ n < M 79 20) ∨ (w = 3 ∧ 0 ≤ n ∧ n ≤ 7)) ∧ (M 79 56 < 8))) := by
  refine Ct.of (cc := cX10_event) (nL := 4) (ret := (some .int)) (by decide) rfl (Nat.le_of_ble_eq_true rfl) (fun z hz ok rt => ?_)
  have ok : Ok z g cX10_event 4 RX10 wsX10_event 2 46 := ok
  show V z g 4 M [(0, rf g 78), (1, iv w), (2, iv n)] [] 0
  refine v_iload_n ok 1 dX10_event_0 rfl rfl ?_
  refine v_iconst (n := -1) ok dX10_event_1 ?_
  refine v_icmp_ne (tgt := 15) ok ⟨by omega, by omega⟩ (by decide) dX10_event_2 (by decide) (fun c1 => ?_) (fun c1 => ?_)
  · skip
    refine v_iload_n ok 1 dX10_event_15 rfl rfl ?_
    refine v_i2l ok ⟨by omega, by omega⟩ dX10_event_16 ?_
    refine v_lconst (n := 0) ok rfl dX10_event_17 ?_
    refine v_ldc2 (n := 3) ok mk_X10_event_212 rfl dX10_event_18 ?_
    refine v_callS (na := 3) ok (ct_X10_in z.2.1 g M w 0 3 ⟨by omega, by omega⟩ (by decide) (by decide)) gX10_event_X10_in rfl (by decide +kernel) rfl (by decide) [] rfl (Nat.le_of_ble_eq_true rfl) dX10_event_21 (fun v3 M4 hp2 => ?_)
    rcases hp2 with ⟨rfl, eM4, h5⟩ | ⟨rfl, eM4, h6⟩
    · skip
      subst M4
      show V z g 4 M [(0, rf g 78), (1, iv w), (2, iv n)] [iv 1] 24
      refine v_if_eq (tgt := 52) ok (by decide) dX10_event_24 (by decide) (fun c7 => absurd c7 (by decide)) (fun c7 => ?_)
      refine v_iload_n ok 1 dX10_event_27 rfl rfl ?_
      refine v_iconst (n := 2) ok dX10_event_28 ?_
      refine v_icmp_ge (tgt := 39) ok ⟨by omega, by omega⟩ (by decide) dX10_event_29 (by decide) (fun c8 => ?_) (fun c8 => ?_)
      · skip
        refine v_iload_n ok 1 dX10_event_39 rfl rfl ?_
        refine v_iconst (n := 2) ok dX10_event_40 ?_
        refine v_icmp_ne (tgt := 54) ok ⟨by omega, by omega⟩ (by decide) dX10_event_41 (by decide) (fun c9 => ?_) (fun c9 => ?_)
        · skip
          refine v_iload_n ok 2 dX10_event_54 rfl rfl ?_
          refine v_i2l ok ⟨by omega, by omega⟩ dX10_event_55 ?_
          refine v_lconst (n := 0) ok rfl dX10_event_56 ?_
          refine v_ldc2 (n := 7) ok mk_X10_event_67 rfl dX10_event_57 ?_
          refine v_callS (na := 3) ok (ct_X10_in z.2.1 g M n 0 7 ⟨by omega, by omega⟩ (by decide) (by decide)) gX10_event_X10_in rfl (by decide +kernel) rfl (by decide) [] rfl (Nat.le_of_ble_eq_true rfl) dX10_event_60 (fun v11 M12 hp10 => ?_)
          rcases hp10 with ⟨rfl, eM12, h13⟩ | ⟨rfl, eM12, h14⟩
          · skip
            subst M12
            show V z g 4 M [(0, rf g 78), (1, iv w), (2, iv n)] [iv 1] 63
            refine v_if_ne (tgt := 69) ok (by decide) dX10_event_63 (by decide) (fun c15 => ?_) (fun c15 => absurd c15 (by decide))
            refine v_aload_n ok 0 dX10_event_69 rfl rfl ?_
            refine v_get (T := TX10) (N := 22) (f0 := (M 78)) (v := rf g 79) ok mi_X10_event_10 (kd_lt (show kd 78 = 10 from rfl) (by decide)) rfl rfl (cellF_10 _ (by decide)) 0 (by decide) mk_X10_event_11 rfl rfl dX10_event_70 ?_
            refine v_bipush (n := 56) ok rfl dX10_event_73 ?_
            refine v_iald (n := 90) (f0 := (M 79)) ok (by decide) rfl (by omega) rfl dX10_event_75 ?_
            refine v_bipush (n := 8) ok rfl dX10_event_76 ?_
            refine v_icmp_ne (tgt := 84) ok ⟨by omega, by omega⟩ (by decide) dX10_event_78 (by decide) (fun c16 => ?_) (fun c16 => ?_)
            · skip
              refine v_bipush (n := 57) ok rfl dX10_event_84 ?_
              refine v_iconst (n := 2) ok dX10_event_86 ?_
              refine v_aload_n ok 0 dX10_event_87 rfl rfl ?_
              refine v_get (T := TX10) (N := 22) (f0 := (M 78)) (v := rf g 79) ok mi_X10_event_10 (kd_lt (show kd 78 = 10 from rfl) (by decide)) rfl rfl (cellF_10 _ (by decide)) 0 (by decide) mk_X10_event_11 rfl rfl dX10_event_88 ?_
              refine v_bipush (n := 56) ok rfl dX10_event_91 ?_
              refine v_iald (n := 90) (f0 := (M 79)) ok (by decide) rfl (by omega) rfl dX10_event_93 ?_
              refine v_imul ok dX10_event_94 ?_
              refine v_iadd ok dX10_event_95 ?_
              refine v_istore_n ok [(3, iv (57 + (2 * (M 79 56)))), (0, rf g 78), (1, iv w), (2, iv n)] dX10_event_96 rfl (by decide) rfl ?_
              refine v_aload_n ok 1 dX10_event_97 rfl rfl ?_
              refine v_get (T := TX10) (N := 22) (f0 := (M 78)) (v := rf g 79) ok mi_X10_event_10 (kd_lt (show kd 78 = 10 from rfl) (by decide)) rfl rfl (cellF_10 _ (by decide)) 0 (by decide) mk_X10_event_11 rfl rfl dX10_event_98 ?_
              refine v_iload_n ok 0 dX10_event_101 rfl rfl ?_
              refine v_iload_n ok 2 dX10_event_102 rfl rfl ?_
              refine v_iast (n := 90) (f0 := (M 79)) ok (by decide) rfl (by omega) rfl dX10_event_103 ?_
              refine v_aload_n ok 1 dX10_event_104 rfl rfl ?_
              refine v_get (T := TX10) (N := 22) (f0 := (M 78)) (v := rf g 79) ok mi_X10_event_10 (kd_lt (show kd 78 = 10 from rfl) (by decide)) rfl rfl (cellF_10 _ (by decide)) 0 (by decide) mk_X10_event_11 rfl rfl dX10_event_105 ?_
              refine v_iload_n ok 0 dX10_event_108 rfl rfl ?_
              refine v_iconst (n := 1) ok dX10_event_109 ?_
              refine v_iadd ok dX10_event_110 ?_
              refine v_iload_n ok 3 dX10_event_111 rfl rfl ?_
              refine v_iast (n := 90) (f0 := up (M 79) (57 + (2 * (M 79 56))) w) ok (by decide) rfl (by omega) rfl dX10_event_112 ?_
              rw [up1_up1]
              refine v_aload_n ok 1 dX10_event_113 rfl rfl ?_
              refine v_get (T := TX10) (N := 22) (f0 := (M 78)) (v := rf g 79) ok mi_X10_event_10 (kd_lt (show kd 78 = 10 from rfl) (by decide)) rfl rfl (cellF_10 _ (by decide)) 0 (by decide) mk_X10_event_11 rfl rfl dX10_event_114 ?_
              refine v_bipush (n := 56) ok rfl dX10_event_117 ?_
              refine v_dup2 ok rfl rfl dX10_event_119 ?_
              refine v_iald (n := 90) (f0 := up (up (M 79) (57 + (2 * (M 79 56))) w) ((57 + (2 * (M 79 56))) + 1) n) ok (by decide) rfl (by omega) rfl dX10_event_120 ?_
              rw [show ((up (up (M 79) (57 + (2 * (M 79 56))) w) ((57 + (2 * (M 79 56))) + 1) n 56) : Int) = (M 79 56) from (by rw [up_ne (by omega), up_ne (by omega)])]
              refine v_iconst (n := 1) ok dX10_event_121 ?_
              refine v_iadd ok dX10_event_122 ?_
              refine v_iast (n := 90) (f0 := up (up (M 79) (57 + (2 * (M 79 56))) w) ((57 + (2 * (M 79 56))) + 1) n) ok (by decide) rfl (by omega) rfl dX10_event_123 ?_
              rw [up1_up1]
              refine v_cong (n := 90) (adW (M 79) 56 57 w n) (Or.inl (by decide)) rfl (fun j j0 j1 => rfl) ?_
              refine v_aload_n ok 1 dX10_event_124 rfl rfl ?_
              refine v_get (T := TX10) (N := 22) (f0 := (M 78)) (v := rf g 79) ok mi_X10_event_10 (kd_lt (show kd 78 = 10 from rfl) (by decide)) rfl rfl (cellF_10 _ (by decide)) 0 (by decide) mk_X10_event_11 rfl rfl dX10_event_125 ?_
              refine v_bipush (n := 56) ok rfl dX10_event_128 ?_
              refine v_iald (n := 90) (f0 := (adW (M 79) 56 57 w n)) ok (by decide) rfl (by omega) rfl dX10_event_130 ?_
              exact v_iret ok rt dX10_event_131 (Or.inr (Or.inr (Or.inr (Or.inr (⟨(congrArg (fun q : Int => some (iv q)) (show ((adW (M 79) 56 57 w n) 56) = (M 79 56 + 1) from by (unfold adW; rw [up_same]))), rfl, (by omega), (by omega)⟩)))))
            · skip
              refine v_bipush (n := -4) ok rfl dX10_event_81 ?_
              exact v_iret ok rt dX10_event_83 (Or.inr (Or.inr (Or.inr (Or.inl (⟨rfl, rfl, (by omega), (by omega)⟩)))))
          · skip
            subst M12
            show V z g 4 M [(0, rf g 78), (1, iv w), (2, iv n)] [iv 0] 63
            refine v_if_ne (tgt := 69) ok (by decide) dX10_event_63 (by decide) (fun c17 => absurd c17 (by decide)) (fun c17 => ?_)
            refine v_bipush (n := -2) ok rfl dX10_event_66 ?_
            exact v_iret ok rt dX10_event_68 (Or.inr (Or.inr (Or.inl (⟨rfl, rfl, (by omega), (by omega)⟩))))
        · skip
          refine v_aload_n ok 0 dX10_event_44 rfl rfl ?_
          refine v_iload_n ok 2 dX10_event_45 rfl rfl ?_
          refine v_callV (na := 1) (i := 78) (C := RX10) (T := TX10) (N := 22) (f0 := (M 78)) ok (ct_X10_isBasin z.2.1 g M n ⟨by omega, by omega⟩ (by first | omega | assumption)) gX10_event_X10_isBasin (kd_lt (show kd 78 = 10 from rfl) (by decide)) rfl rfl (cellF_10 _ (by decide)) rfl (by decide +kernel) rfl (by decide) [] rfl (Nat.le_of_ble_eq_true rfl) dX10_event_46 (fun v19 M20 hp18 => ?_)
          rcases hp18 with ⟨rfl, eM20, h21⟩ | ⟨rfl, eM20, h22⟩
          · skip
            subst M20
            have h21 : 0 ≤ n ∧ n < (M 79) 20 := h21
            show V z g 4 M [(0, rf g 78), (1, iv w), (2, iv n)] [iv 1] 49
            refine v_if_ne (tgt := 54) ok (by decide) dX10_event_49 (by decide) (fun c23 => ?_) (fun c23 => absurd c23 (by decide))
            refine v_iload_n ok 2 dX10_event_54 rfl rfl ?_
            refine v_i2l ok ⟨by omega, by omega⟩ dX10_event_55 ?_
            refine v_lconst (n := 0) ok rfl dX10_event_56 ?_
            refine v_ldc2 (n := 7) ok mk_X10_event_67 rfl dX10_event_57 ?_
            refine v_callS (na := 3) ok (ct_X10_in z.2.1 g M n 0 7 ⟨by omega, by omega⟩ (by decide) (by decide)) gX10_event_X10_in rfl (by decide +kernel) rfl (by decide) [] rfl (Nat.le_of_ble_eq_true rfl) dX10_event_60 (fun v25 M26 hp24 => ?_)
            rcases hp24 with ⟨rfl, eM26, h27⟩ | ⟨rfl, eM26, h28⟩
            · skip
              subst M26
              show V z g 4 M [(0, rf g 78), (1, iv w), (2, iv n)] [iv 1] 63
              refine v_if_ne (tgt := 69) ok (by decide) dX10_event_63 (by decide) (fun c29 => ?_) (fun c29 => absurd c29 (by decide))
              refine v_aload_n ok 0 dX10_event_69 rfl rfl ?_
              refine v_get (T := TX10) (N := 22) (f0 := (M 78)) (v := rf g 79) ok mi_X10_event_10 (kd_lt (show kd 78 = 10 from rfl) (by decide)) rfl rfl (cellF_10 _ (by decide)) 0 (by decide) mk_X10_event_11 rfl rfl dX10_event_70 ?_
              refine v_bipush (n := 56) ok rfl dX10_event_73 ?_
              refine v_iald (n := 90) (f0 := (M 79)) ok (by decide) rfl (by omega) rfl dX10_event_75 ?_
              refine v_bipush (n := 8) ok rfl dX10_event_76 ?_
              refine v_icmp_ne (tgt := 84) ok ⟨by omega, by omega⟩ (by decide) dX10_event_78 (by decide) (fun c30 => ?_) (fun c30 => ?_)
              · skip
                refine v_bipush (n := 57) ok rfl dX10_event_84 ?_
                refine v_iconst (n := 2) ok dX10_event_86 ?_
                refine v_aload_n ok 0 dX10_event_87 rfl rfl ?_
                refine v_get (T := TX10) (N := 22) (f0 := (M 78)) (v := rf g 79) ok mi_X10_event_10 (kd_lt (show kd 78 = 10 from rfl) (by decide)) rfl rfl (cellF_10 _ (by decide)) 0 (by decide) mk_X10_event_11 rfl rfl dX10_event_88 ?_
                refine v_bipush (n := 56) ok rfl dX10_event_91 ?_
                refine v_iald (n := 90) (f0 := (M 79)) ok (by decide) rfl (by omega) rfl dX10_event_93 ?_
                refine v_imul ok dX10_event_94 ?_
                refine v_iadd ok dX10_event_95 ?_
                refine v_istore_n ok [(3, iv (57 + (2 * (M 79 56)))), (0, rf g 78), (1, iv w), (2, iv n)] dX10_event_96 rfl (by decide) rfl ?_
                refine v_aload_n ok 1 dX10_event_97 rfl rfl ?_
                refine v_get (T := TX10) (N := 22) (f0 := (M 78)) (v := rf g 79) ok mi_X10_event_10 (kd_lt (show kd 78 = 10 from rfl) (by decide)) rfl rfl (cellF_10 _ (by decide)) 0 (by decide) mk_X10_event_11 rfl rfl dX10_event_98 ?_
                refine v_iload_n ok 0 dX10_event_101 rfl rfl ?_
                refine v_iload_n ok 2 dX10_event_102 rfl rfl ?_
                refine v_iast (n := 90) (f0 := (M 79)) ok (by decide) rfl (by omega) rfl dX10_event_103 ?_
                refine v_aload_n ok 1 dX10_event_104 rfl rfl ?_
                refine v_get (T := TX10) (N := 22) (f0 := (M 78)) (v := rf g 79) ok mi_X10_event_10 (kd_lt (show kd 78 = 10 from rfl) (by decide)) rfl rfl (cellF_10 _ (by decide)) 0 (by decide) mk_X10_event_11 rfl rfl dX10_event_105 ?_
                refine v_iload_n ok 0 dX10_event_108 rfl rfl ?_
                refine v_iconst (n := 1) ok dX10_event_109 ?_
                refine v_iadd ok dX10_event_110 ?_
                refine v_iload_n ok 3 dX10_event_111 rfl rfl ?_
                refine v_iast (n := 90) (f0 := up (M 79) (57 + (2 * (M 79 56))) w) ok (by decide) rfl (by omega) rfl dX10_event_112 ?_
                rw [up1_up1]
                refine v_aload_n ok 1 dX10_event_113 rfl rfl ?_
                refine v_get (T := TX10) (N := 22) (f0 := (M 78)) (v := rf g 79) ok mi_X10_event_10 (kd_lt (show kd 78 = 10 from rfl) (by decide)) rfl rfl (cellF_10 _ (by decide)) 0 (by decide) mk_X10_event_11 rfl rfl dX10_event_114 ?_
                refine v_bipush (n := 56) ok rfl dX10_event_117 ?_
                refine v_dup2 ok rfl rfl dX10_event_119 ?_
                refine v_iald (n := 90) (f0 := up (up (M 79) (57 + (2 * (M 79 56))) w) ((57 + (2 * (M 79 56))) + 1) n) ok (by decide) rfl (by omega) rfl dX10_event_120 ?_
                rw [show ((up (up (M 79) (57 + (2 * (M 79 56))) w) ((57 + (2 * (M 79 56))) + 1) n 56) : Int) = (M 79 56) from (by rw [up_ne (by omega), up_ne (by omega)])]
                refine v_iconst (n := 1) ok dX10_event_121 ?_
                refine v_iadd ok dX10_event_122 ?_
                refine v_iast (n := 90) (f0 := up (up (M 79) (57 + (2 * (M 79 56))) w) ((57 + (2 * (M 79 56))) + 1) n) ok (by decide) rfl (by omega) rfl dX10_event_123 ?_
                rw [up1_up1]
                refine v_cong (n := 90) (adW (M 79) 56 57 w n) (Or.inl (by decide)) rfl (fun j j0 j1 => rfl) ?_
                refine v_aload_n ok 1 dX10_event_124 rfl rfl ?_
                refine v_get (T := TX10) (N := 22) (f0 := (M 78)) (v := rf g 79) ok mi_X10_event_10 (kd_lt (show kd 78 = 10 from rfl) (by decide)) rfl rfl (cellF_10 _ (by decide)) 0 (by decide) mk_X10_event_11 rfl rfl dX10_event_125 ?_
                refine v_bipush (n := 56) ok rfl dX10_event_128 ?_
                refine v_iald (n := 90) (f0 := (adW (M 79) 56 57 w n)) ok (by decide) rfl (by omega) rfl dX10_event_130 ?_
                exact v_iret ok rt dX10_event_131 (Or.inr (Or.inr (Or.inr (Or.inr (⟨(congrArg (fun q : Int => some (iv q)) (show ((adW (M 79) 56 57 w n) 56) = (M 79 56 + 1) from by (unfold adW; rw [up_same]))), rfl, (by omega), (by omega)⟩)))))
              · skip
                refine v_bipush (n := -4) ok rfl dX10_event_81 ?_
                exact v_iret ok rt dX10_event_83 (Or.inr (Or.inr (Or.inr (Or.inl (⟨rfl, rfl, (by omega), (by omega)⟩)))))
            · skip
              subst M26
              show V z g 4 M [(0, rf g 78), (1, iv w), (2, iv n)] [iv 0] 63
              refine v_if_ne (tgt := 69) ok (by decide) dX10_event_63 (by decide) (fun c31 => absurd c31 (by decide)) (fun c31 => ?_)
              refine v_bipush (n := -2) ok rfl dX10_event_66 ?_
              exact v_iret ok rt dX10_event_68 (Or.inr (Or.inr (Or.inl (⟨rfl, rfl, (by omega), (by omega)⟩))))
          · skip
            subst M20
            have h22 : ¬ (0 ≤ n ∧ n < (M 79) 20) := h22
            show V z g 4 M [(0, rf g 78), (1, iv w), (2, iv n)] [iv 0] 49
            refine v_if_ne (tgt := 54) ok (by decide) dX10_event_49 (by decide) (fun c32 => absurd c32 (by decide)) (fun c32 => ?_)
            refine v_iconst (n := -1) ok dX10_event_52 ?_
            exact v_iret ok rt dX10_event_53 (Or.inr (Or.inl (⟨rfl, rfl, (by omega), (by omega)⟩)))
      · skip
        refine v_iload_n ok 2 dX10_event_32 rfl rfl ?_
        refine v_callS (na := 1) ok (ct_X10_isRain z.2.1 g M n ⟨by omega, by omega⟩) gX10_event_X10_isRain rfl (by decide +kernel) rfl (by decide) [] rfl (Nat.le_of_ble_eq_true rfl) dX10_event_33 (fun v34 M35 hp33 => ?_)
        rcases hp33 with ⟨rfl, eM35, h36⟩ | ⟨rfl, eM35, h37⟩
        · skip
          subst M35
          show V z g 4 M [(0, rf g 78), (1, iv w), (2, iv n)] [iv 1] 36
          refine v_if_eq (tgt := 52) ok (by decide) dX10_event_36 (by decide) (fun c38 => absurd c38 (by decide)) (fun c38 => ?_)
          refine v_iload_n ok 1 dX10_event_39 rfl rfl ?_
          refine v_iconst (n := 2) ok dX10_event_40 ?_
          refine v_icmp_ne (tgt := 54) ok ⟨by omega, by omega⟩ (by decide) dX10_event_41 (by decide) (fun c39 => ?_) (fun c39 => ?_)
          · skip
            refine v_iload_n ok 2 dX10_event_54 rfl rfl ?_
            refine v_i2l ok ⟨by omega, by omega⟩ dX10_event_55 ?_
            refine v_lconst (n := 0) ok rfl dX10_event_56 ?_
            refine v_ldc2 (n := 7) ok mk_X10_event_67 rfl dX10_event_57 ?_
            refine v_callS (na := 3) ok (ct_X10_in z.2.1 g M n 0 7 ⟨by omega, by omega⟩ (by decide) (by decide)) gX10_event_X10_in rfl (by decide +kernel) rfl (by decide) [] rfl (Nat.le_of_ble_eq_true rfl) dX10_event_60 (fun v41 M42 hp40 => ?_)
            rcases hp40 with ⟨rfl, eM42, h43⟩ | ⟨rfl, eM42, h44⟩
            · skip
              subst M42
              show V z g 4 M [(0, rf g 78), (1, iv w), (2, iv n)] [iv 1] 63
              refine v_if_ne (tgt := 69) ok (by decide) dX10_event_63 (by decide) (fun c45 => ?_) (fun c45 => absurd c45 (by decide))
              refine v_aload_n ok 0 dX10_event_69 rfl rfl ?_
              refine v_get (T := TX10) (N := 22) (f0 := (M 78)) (v := rf g 79) ok mi_X10_event_10 (kd_lt (show kd 78 = 10 from rfl) (by decide)) rfl rfl (cellF_10 _ (by decide)) 0 (by decide) mk_X10_event_11 rfl rfl dX10_event_70 ?_
              refine v_bipush (n := 56) ok rfl dX10_event_73 ?_
              refine v_iald (n := 90) (f0 := (M 79)) ok (by decide) rfl (by omega) rfl dX10_event_75 ?_
              refine v_bipush (n := 8) ok rfl dX10_event_76 ?_
              refine v_icmp_ne (tgt := 84) ok ⟨by omega, by omega⟩ (by decide) dX10_event_78 (by decide) (fun c46 => ?_) (fun c46 => ?_)
              · skip
                refine v_bipush (n := 57) ok rfl dX10_event_84 ?_
                refine v_iconst (n := 2) ok dX10_event_86 ?_
                refine v_aload_n ok 0 dX10_event_87 rfl rfl ?_
                refine v_get (T := TX10) (N := 22) (f0 := (M 78)) (v := rf g 79) ok mi_X10_event_10 (kd_lt (show kd 78 = 10 from rfl) (by decide)) rfl rfl (cellF_10 _ (by decide)) 0 (by decide) mk_X10_event_11 rfl rfl dX10_event_88 ?_
                refine v_bipush (n := 56) ok rfl dX10_event_91 ?_
                refine v_iald (n := 90) (f0 := (M 79)) ok (by decide) rfl (by omega) rfl dX10_event_93 ?_
                refine v_imul ok dX10_event_94 ?_
                refine v_iadd ok dX10_event_95 ?_
                refine v_istore_n ok [(3, iv (57 + (2 * (M 79 56)))), (0, rf g 78), (1, iv w), (2, iv n)] dX10_event_96 rfl (by decide) rfl ?_
                refine v_aload_n ok 1 dX10_event_97 rfl rfl ?_
                refine v_get (T := TX10) (N := 22) (f0 := (M 78)) (v := rf g 79) ok mi_X10_event_10 (kd_lt (show kd 78 = 10 from rfl) (by decide)) rfl rfl (cellF_10 _ (by decide)) 0 (by decide) mk_X10_event_11 rfl rfl dX10_event_98 ?_
                refine v_iload_n ok 0 dX10_event_101 rfl rfl ?_
                refine v_iload_n ok 2 dX10_event_102 rfl rfl ?_
                refine v_iast (n := 90) (f0 := (M 79)) ok (by decide) rfl (by omega) rfl dX10_event_103 ?_
                refine v_aload_n ok 1 dX10_event_104 rfl rfl ?_
                refine v_get (T := TX10) (N := 22) (f0 := (M 78)) (v := rf g 79) ok mi_X10_event_10 (kd_lt (show kd 78 = 10 from rfl) (by decide)) rfl rfl (cellF_10 _ (by decide)) 0 (by decide) mk_X10_event_11 rfl rfl dX10_event_105 ?_
                refine v_iload_n ok 0 dX10_event_108 rfl rfl ?_
                refine v_iconst (n := 1) ok dX10_event_109 ?_
                refine v_iadd ok dX10_event_110 ?_
                refine v_iload_n ok 3 dX10_event_111 rfl rfl ?_
                refine v_iast (n := 90) (f0 := up (M 79) (57 + (2 * (M 79 56))) w) ok (by decide) rfl (by omega) rfl dX10_event_112 ?_
                rw [up1_up1]
                refine v_aload_n ok 1 dX10_event_113 rfl rfl ?_
                refine v_get (T := TX10) (N := 22) (f0 := (M 78)) (v := rf g 79) ok mi_X10_event_10 (kd_lt (show kd 78 = 10 from rfl) (by decide)) rfl rfl (cellF_10 _ (by decide)) 0 (by decide) mk_X10_event_11 rfl rfl dX10_event_114 ?_
                refine v_bipush (n := 56) ok rfl dX10_event_117 ?_
                refine v_dup2 ok rfl rfl dX10_event_119 ?_
                refine v_iald (n := 90) (f0 := up (up (M 79) (57 + (2 * (M 79 56))) w) ((57 + (2 * (M 79 56))) + 1) n) ok (by decide) rfl (by omega) rfl dX10_event_120 ?_
                rw [show ((up (up (M 79) (57 + (2 * (M 79 56))) w) ((57 + (2 * (M 79 56))) + 1) n 56) : Int) = (M 79 56) from (by rw [up_ne (by omega), up_ne (by omega)])]
                refine v_iconst (n := 1) ok dX10_event_121 ?_
                refine v_iadd ok dX10_event_122 ?_
                refine v_iast (n := 90) (f0 := up (up (M 79) (57 + (2 * (M 79 56))) w) ((57 + (2 * (M 79 56))) + 1) n) ok (by decide) rfl (by omega) rfl dX10_event_123 ?_
                rw [up1_up1]
                refine v_cong (n := 90) (adW (M 79) 56 57 w n) (Or.inl (by decide)) rfl (fun j j0 j1 => rfl) ?_
                refine v_aload_n ok 1 dX10_event_124 rfl rfl ?_
                refine v_get (T := TX10) (N := 22) (f0 := (M 78)) (v := rf g 79) ok mi_X10_event_10 (kd_lt (show kd 78 = 10 from rfl) (by decide)) rfl rfl (cellF_10 _ (by decide)) 0 (by decide) mk_X10_event_11 rfl rfl dX10_event_125 ?_
                refine v_bipush (n := 56) ok rfl dX10_event_128 ?_
                refine v_iald (n := 90) (f0 := (adW (M 79) 56 57 w n)) ok (by decide) rfl (by omega) rfl dX10_event_130 ?_
                exact v_iret ok rt dX10_event_131 (Or.inr (Or.inr (Or.inr (Or.inr (⟨(congrArg (fun q : Int => some (iv q)) (show ((adW (M 79) 56 57 w n) 56) = (M 79 56 + 1) from by (unfold adW; rw [up_same]))), rfl, (by omega), (by omega)⟩)))))
              · skip
                refine v_bipush (n := -4) ok rfl dX10_event_81 ?_
                exact v_iret ok rt dX10_event_83 (Or.inr (Or.inr (Or.inr (Or.inl (⟨rfl, rfl, (by omega), (by omega)⟩)))))
            · skip
              subst M42
              show V z g 4 M [(0, rf g 78), (1, iv w), (2, iv n)] [iv 0] 63
              refine v_if_ne (tgt := 69) ok (by decide) dX10_event_63 (by decide) (fun c47 => absurd c47 (by decide)) (fun c47 => ?_)
              refine v_bipush (n := -2) ok rfl dX10_event_66 ?_
              exact v_iret ok rt dX10_event_68 (Or.inr (Or.inr (Or.inl (⟨rfl, rfl, (by omega), (by omega)⟩))))
          · skip
            refine v_aload_n ok 0 dX10_event_44 rfl rfl ?_
            refine v_iload_n ok 2 dX10_event_45 rfl rfl ?_
            refine v_callV (na := 1) (i := 78) (C := RX10) (T := TX10) (N := 22) (f0 := (M 78)) ok (ct_X10_isBasin z.2.1 g M n ⟨by omega, by omega⟩ (by first | omega | assumption)) gX10_event_X10_isBasin (kd_lt (show kd 78 = 10 from rfl) (by decide)) rfl rfl (cellF_10 _ (by decide)) rfl (by decide +kernel) rfl (by decide) [] rfl (Nat.le_of_ble_eq_true rfl) dX10_event_46 (fun v49 M50 hp48 => ?_)
            rcases hp48 with ⟨rfl, eM50, h51⟩ | ⟨rfl, eM50, h52⟩
            · skip
              subst M50
              have h51 : 0 ≤ n ∧ n < (M 79) 20 := h51
              show V z g 4 M [(0, rf g 78), (1, iv w), (2, iv n)] [iv 1] 49
              refine v_if_ne (tgt := 54) ok (by decide) dX10_event_49 (by decide) (fun c53 => ?_) (fun c53 => absurd c53 (by decide))
              refine v_iload_n ok 2 dX10_event_54 rfl rfl ?_
              refine v_i2l ok ⟨by omega, by omega⟩ dX10_event_55 ?_
              refine v_lconst (n := 0) ok rfl dX10_event_56 ?_
              refine v_ldc2 (n := 7) ok mk_X10_event_67 rfl dX10_event_57 ?_
              refine v_callS (na := 3) ok (ct_X10_in z.2.1 g M n 0 7 ⟨by omega, by omega⟩ (by decide) (by decide)) gX10_event_X10_in rfl (by decide +kernel) rfl (by decide) [] rfl (Nat.le_of_ble_eq_true rfl) dX10_event_60 (fun v55 M56 hp54 => ?_)
              rcases hp54 with ⟨rfl, eM56, h57⟩ | ⟨rfl, eM56, h58⟩
              · skip
                subst M56
                show V z g 4 M [(0, rf g 78), (1, iv w), (2, iv n)] [iv 1] 63
                refine v_if_ne (tgt := 69) ok (by decide) dX10_event_63 (by decide) (fun c59 => ?_) (fun c59 => absurd c59 (by decide))
                refine v_aload_n ok 0 dX10_event_69 rfl rfl ?_
                refine v_get (T := TX10) (N := 22) (f0 := (M 78)) (v := rf g 79) ok mi_X10_event_10 (kd_lt (show kd 78 = 10 from rfl) (by decide)) rfl rfl (cellF_10 _ (by decide)) 0 (by decide) mk_X10_event_11 rfl rfl dX10_event_70 ?_
                refine v_bipush (n := 56) ok rfl dX10_event_73 ?_
                refine v_iald (n := 90) (f0 := (M 79)) ok (by decide) rfl (by omega) rfl dX10_event_75 ?_
                refine v_bipush (n := 8) ok rfl dX10_event_76 ?_
                refine v_icmp_ne (tgt := 84) ok ⟨by omega, by omega⟩ (by decide) dX10_event_78 (by decide) (fun c60 => ?_) (fun c60 => ?_)
                · skip
                  refine v_bipush (n := 57) ok rfl dX10_event_84 ?_
                  refine v_iconst (n := 2) ok dX10_event_86 ?_
                  refine v_aload_n ok 0 dX10_event_87 rfl rfl ?_
                  refine v_get (T := TX10) (N := 22) (f0 := (M 78)) (v := rf g 79) ok mi_X10_event_10 (kd_lt (show kd 78 = 10 from rfl) (by decide)) rfl rfl (cellF_10 _ (by decide)) 0 (by decide) mk_X10_event_11 rfl rfl dX10_event_88 ?_
                  refine v_bipush (n := 56) ok rfl dX10_event_91 ?_
                  refine v_iald (n := 90) (f0 := (M 79)) ok (by decide) rfl (by omega) rfl dX10_event_93 ?_
                  refine v_imul ok dX10_event_94 ?_
                  refine v_iadd ok dX10_event_95 ?_
                  refine v_istore_n ok [(3, iv (57 + (2 * (M 79 56)))), (0, rf g 78), (1, iv w), (2, iv n)] dX10_event_96 rfl (by decide) rfl ?_
                  refine v_aload_n ok 1 dX10_event_97 rfl rfl ?_
                  refine v_get (T := TX10) (N := 22) (f0 := (M 78)) (v := rf g 79) ok mi_X10_event_10 (kd_lt (show kd 78 = 10 from rfl) (by decide)) rfl rfl (cellF_10 _ (by decide)) 0 (by decide) mk_X10_event_11 rfl rfl dX10_event_98 ?_
                  refine v_iload_n ok 0 dX10_event_101 rfl rfl ?_
                  refine v_iload_n ok 2 dX10_event_102 rfl rfl ?_
                  refine v_iast (n := 90) (f0 := (M 79)) ok (by decide) rfl (by omega) rfl dX10_event_103 ?_
                  refine v_aload_n ok 1 dX10_event_104 rfl rfl ?_
                  refine v_get (T := TX10) (N := 22) (f0 := (M 78)) (v := rf g 79) ok mi_X10_event_10 (kd_lt (show kd 78 = 10 from rfl) (by decide)) rfl rfl (cellF_10 _ (by decide)) 0 (by decide) mk_X10_event_11 rfl rfl dX10_event_105 ?_
                  refine v_iload_n ok 0 dX10_event_108 rfl rfl ?_
                  refine v_iconst (n := 1) ok dX10_event_109 ?_
                  refine v_iadd ok dX10_event_110 ?_
                  refine v_iload_n ok 3 dX10_event_111 rfl rfl ?_
                  refine v_iast (n := 90) (f0 := up (M 79) (57 + (2 * (M 79 56))) w) ok (by decide) rfl (by omega) rfl dX10_event_112 ?_
                  rw [up1_up1]
                  refine v_aload_n ok 1 dX10_event_113 rfl rfl ?_
                  refine v_get (T := TX10) (N := 22) (f0 := (M 78)) (v := rf g 79) ok mi_X10_event_10 (kd_lt (show kd 78 = 10 from rfl) (by decide)) rfl rfl (cellF_10 _ (by decide)) 0 (by decide) mk_X10_event_11 rfl rfl dX10_event_114 ?_
                  refine v_bipush (n := 56) ok rfl dX10_event_117 ?_
                  refine v_dup2 ok rfl rfl dX10_event_119 ?_
                  refine v_iald (n := 90) (f0 := up (up (M 79) (57 + (2 * (M 79 56))) w) ((57 + (2 * (M 79 56))) + 1) n) ok (by decide) rfl (by omega) rfl dX10_event_120 ?_
                  rw [show ((up (up (M 79) (57 + (2 * (M 79 56))) w) ((57 + (2 * (M 79 56))) + 1) n 56) : Int) = (M 79 56) from (by rw [up_ne (by omega), up_ne (by omega)])]
                  refine v_iconst (n := 1) ok dX10_event_121 ?_
                  refine v_iadd ok dX10_event_122 ?_
                  refine v_iast (n := 90) (f0 := up (up (M 79) (57 + (2 * (M 79 56))) w) ((57 + (2 * (M 79 56))) + 1) n) ok (by decide) rfl (by omega) rfl dX10_event_123 ?_
                  rw [up1_up1]
                  refine v_cong (n := 90) (adW (M 79) 56 57 w n) (Or.inl (by decide)) rfl (fun j j0 j1 => rfl) ?_
                  refine v_aload_n ok 1 dX10_event_124 rfl rfl ?_
                  refine v_get (T := TX10) (N := 22) (f0 := (M 78)) (v := rf g 79) ok mi_X10_event_10 (kd_lt (show kd 78 = 10 from rfl) (by decide)) rfl rfl (cellF_10 _ (by decide)) 0 (by decide) mk_X10_event_11 rfl rfl dX10_event_125 ?_
                  refine v_bipush (n := 56) ok rfl dX10_event_128 ?_
                  refine v_iald (n := 90) (f0 := (adW (M 79) 56 57 w n)) ok (by decide) rfl (by omega) rfl dX10_event_130 ?_
                  exact v_iret ok rt dX10_event_131 (Or.inr (Or.inr (Or.inr (Or.inr (⟨(congrArg (fun q : Int => some (iv q)) (show ((adW (M 79) 56 57 w n) 56) = (M 79 56 + 1) from by (unfold adW; rw [up_same]))), rfl, (by omega), (by omega)⟩)))))
                · skip
                  refine v_bipush (n := -4) ok rfl dX10_event_81 ?_
                  exact v_iret ok rt dX10_event_83 (Or.inr (Or.inr (Or.inr (Or.inl (⟨rfl, rfl, (by omega), (by omega)⟩)))))
              · skip
                subst M56
                show V z g 4 M [(0, rf g 78), (1, iv w), (2, iv n)] [iv 0] 63
                refine v_if_ne (tgt := 69) ok (by decide) dX10_event_63 (by decide) (fun c61 => absurd c61 (by decide)) (fun c61 => ?_)
                refine v_bipush (n := -2) ok rfl dX10_event_66 ?_
                exact v_iret ok rt dX10_event_68 (Or.inr (Or.inr (Or.inl (⟨rfl, rfl, (by omega), (by omega)⟩))))
            · skip
              subst M50
              have h52 : ¬ (0 ≤ n ∧ n < (M 79) 20) := h52
              show V z g 4 M [(0, rf g 78), (1, iv w), (2, iv n)] [iv 0] 49
              refine v_if_ne (tgt := 54) ok (by decide) dX10_event_49 (by decide) (fun c62 => absurd c62 (by decide)) (fun c62 => ?_)
              refine v_iconst (n := -1) ok dX10_event_52 ?_
              exact v_iret ok rt dX10_event_53 (Or.inr (Or.inl (⟨rfl, rfl, (by omega), (by omega)⟩)))
        · skip
          subst M35
          show V z g 4 M [(0, rf g 78), (1, iv w), (2, iv n)] [iv 0] 36
          refine v_if_eq (tgt := 52) ok (by decide) dX10_event_36 (by decide) (fun c63 => ?_) (fun c63 => absurd c63 (by decide))
          refine v_iconst (n := -1) ok dX10_event_52 ?_
          exact v_iret ok rt dX10_event_53 (Or.inr (Or.inl (⟨rfl, rfl, (by omega), (by omega)⟩)))
    · skip
      subst M4
      show V z g 4 M [(0, rf g 78), (1, iv w), (2, iv n)] [iv 0] 24
      refine v_if_eq (tgt := 52) ok (by decide) dX10_event_24 (by decide) (fun c64 => ?_) (fun c64 => absurd c64 (by decide))
      refine v_iconst (n := -1) ok dX10_event_52 ?_
      exact v_iret ok rt dX10_event_53 (Or.inr (Or.inl (⟨rfl, rfl, (by omega), (by omega)⟩)))
  · skip
    refine v_aload_n ok 0 dX10_event_5 rfl rfl ?_
    refine v_get (T := TX10) (N := 22) (f0 := (M 78)) (v := rf g 79) ok mi_X10_event_10 (kd_lt (show kd 78 = 10 from rfl) (by decide)) rfl rfl (cellF_10 _ (by decide)) 0 (by decide) mk_X10_event_11 rfl rfl dX10_event_6 ?_
    refine v_bipush (n := 56) ok rfl dX10_event_9 ?_
    refine v_iconst (n := 0) ok dX10_event_11 ?_
    refine v_iast (n := 90) (f0 := (M 79)) ok (by decide) rfl (by omega) rfl dX10_event_12 ?_
    refine v_iconst (n := 0) ok dX10_event_13 ?_
    exact v_iret ok rt dX10_event_14 (Or.inl (⟨rfl, rfl, (by omega)⟩))
