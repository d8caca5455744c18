theorem mk_X0_flowBy_9 : Cond.fieldLink RX0 9 "StormRunoff$Basin" "answer" "[I" ∈ wsX0_flowBy := by decide +kernel
theorem mi_X0_flowBy_0 : ∀ w ∈ wsX00, w ∈ wsX0_flowBy := by decide +kernel
set_option maxRecDepth 100000 in
set_option maxHeartbeats 400000 in
theorem ct_X0_flowBy (l : Launch) (g : Gl) (M : Mem) (b r f : Nat) (n m : Int) (hb : kd b = 0) (hr : kd r = 11) (hf : kd f = 11) (hrn : (ln r : Int) = n) (hfm : (ln f : Int) = m) (hrf : r ≠ f) (hbf : (b + 1) ≠ f) : Ct l g yX0_flowBy wsX0_flowBy 1 23 [rf g b, rf g r, rf g f] M (fun rv M' => rv = none ∧ M' = (up1 M f (fl (M r) (M (b + 1)) n))) := by
  refine Ct.of (cc := cX0_flowBy) (nL := 5) (ret := none) (by decide) rfl (Nat.le_of_ble_eq_true rfl) (fun z hz ok rt => ?_)
  have ok : Ok z g cX0_flowBy 5 RX0 wsX0_flowBy 1 23 := ok
  show V z g 5 M [(0, rf g b), (1, rf g r), (2, rf g f)] [] 0
  have hn0 := ln_le r
  have hm0 := ln_le f
  have hbn : b ≠ f := kd_ne hb hf (by decide)
  refine v_aload_n ok 2 dX0_flowBy_0 rfl rfl ?_
  refine v_iconst (n := 0) ok dX0_flowBy_1 ?_
  refine v_callS (na := 2) ok (ct_J7_fill_53178 z.2.1 g M f m 0 hf hfm) gX0_flowBy_J7_fill_53178 rfl (by decide +kernel) rfl (by decide) [] rfl (Nat.le_of_ble_eq_true rfl) dX0_flowBy_2 (fun v2 M3 hp1 => ?_)
  obtain ⟨rfl, rfl⟩ := hp1
  show V z g 5 (up1 M f (fun _ => 0)) [(0, rf g b), (1, rf g r), (2, rf g f)] [] 5
  refine v_iconst (n := 0) ok dX0_flowBy_5 ?_
  refine v_istore_n ok [(3, iv 0), (0, rf g b), (1, rf g r), (2, rf g f)] dX0_flowBy_6 rfl (by decide) rfl ?_
  have lp7 : ∀ (fu : Nat) (s : Int) (F : Int → Int), (0 ≤ s ∧ s ≤ n) → (∀ h : Int, 0 ≤ h → h < m → F h = flw (M r) (M (b + 1)) h s.toNat) → (n - s).toNat < fu → V z g 5 (up1 M f F) [(0, rf g b), (1, rf g r), (2, rf g f), (3, iv s)] [] 7 := by
    intro fu
    induction fu with
    | zero => intro s F _ _ hm; exact absurd hm (Nat.not_lt_zero _)
    | succ fu ih7 =>
      intro s F i7_0 i7_1 hm7
      refine v_iload_n ok 3 dX0_flowBy_7 rfl rfl ?_
      refine v_aload_n ok 1 dX0_flowBy_8 rfl rfl ?_
      refine v_alen (n := n) ok (Or.inl hr) hrn dX0_flowBy_9 ?_
      refine v_icmp_ge (tgt := 67) ok ⟨by omega, by omega⟩ ⟨by omega, by omega⟩ dX0_flowBy_10 (by decide) (fun c4 => ?_) (fun c4 => ?_)
      · skip
        refine v_cong (n := m) (fl (M r) (M (b + 1)) n) (Or.inl hf) hfm (fun h h0 h1 => by rw [i7_1 h h0 h1, show s = n by omega]; rfl) ?_
        exact v_vret ok rt dX0_flowBy_67 (⟨rfl, rfl⟩)
      · skip
        refine v_iconst (n := 0) ok dX0_flowBy_13 ?_
        refine v_istore ok [(4, iv 0), (0, rf g b), (1, rf g r), (2, rf g f), (3, iv s)] dX0_flowBy_14 (by decide) rfl ?_
        have lp16 : ∀ (fu : Nat) (a : Int) (G : Int → Int), (0 ≤ a ∧ a ≤ 5) → (∀ h : Int, 0 ≤ h → h < m → G h = flw (M r) (M (b + 1)) h s.toNat + (if 0 ≤ h - s ∧ h - s < a then M r s * M (b + 1) (h - s) else 0)) → (5 - a).toNat < fu → V z g 5 (up1 M f G) [(0, rf g b), (1, rf g r), (2, rf g f), (3, iv s), (4, iv a)] [] 16 := by
          intro fu
          induction fu with
          | zero => intro a G _ _ hm; exact absurd hm (Nat.not_lt_zero _)
          | succ fu ih16 =>
            intro a G i16_0 i16_1 hm16
            refine v_iload ok 4 dX0_flowBy_16 rfl ?_
            refine v_aload_n ok 0 dX0_flowBy_18 rfl rfl ?_
            refine v_get (T := TX0) (N := 4) (f0 := (M b)) (v := rf g (b + 1)) ok mi_X0_flowBy_0 (kd_lt hb (by decide)) rfl (by rw [up1_ne hbn]) (cellF_0 _ hb) 0 (by decide) mk_X0_flowBy_9 rfl rfl dX0_flowBy_19 ?_
            refine v_alen (n := 5) ok (Or.inl (kd_c0_1 hb)) (ln_c0_1 hb) dX0_flowBy_22 ?_
            refine v_icmp_ge (tgt := 61) ok ⟨by omega, by omega⟩ (by decide) dX0_flowBy_23 (by decide) (fun c5 => ?_) (fun c5 => ?_)
            · skip
              refine v_iinc ok 3 [(3, iv (s + 1)), (0, rf g b), (1, rf g r), (2, rf g f), (4, iv a)] dX0_flowBy_61 rfl (by decide) rfl ?_
              refine v_goto (tgt := 7) ok dX0_flowBy_64 (by decide) ?_
              refine v_lv (ls' := [(0, rf g b), (1, rf g r), (2, rf g f), (3, iv (s + 1))]) ok [1, 2, 3, 0] rfl ?_
              exact ih7 (s + 1) G (by omega) (flw_out i7_0.1 i16_1 i16_0.2 (by omega)) (by omega)
            · skip
              refine v_iload_n ok 3 dX0_flowBy_26 rfl rfl ?_
              refine v_iload ok 4 dX0_flowBy_27 rfl ?_
              refine v_iadd ok dX0_flowBy_29 ?_
              refine v_aload_n ok 2 dX0_flowBy_30 rfl rfl ?_
              refine v_alen (n := m) ok (Or.inl hf) hfm dX0_flowBy_31 ?_
              refine v_icmp_ge (tgt := 61) ok ⟨by omega, by omega⟩ ⟨by omega, by omega⟩ dX0_flowBy_32 (by decide) (fun c6 => ?_) (fun c6 => ?_)
              · skip
                refine v_iinc ok 3 [(3, iv (s + 1)), (0, rf g b), (1, rf g r), (2, rf g f), (4, iv a)] dX0_flowBy_61 rfl (by decide) rfl ?_
                refine v_goto (tgt := 7) ok dX0_flowBy_64 (by decide) ?_
                refine v_lv (ls' := [(0, rf g b), (1, rf g r), (2, rf g f), (3, iv (s + 1))]) ok [1, 2, 3, 0] rfl ?_
                exact ih7 (s + 1) G (by omega) (flw_out i7_0.1 i16_1 i16_0.2 (by omega)) (by omega)
              · skip
                refine v_aload_n ok 2 dX0_flowBy_35 rfl rfl ?_
                refine v_iload_n ok 3 dX0_flowBy_36 rfl rfl ?_
                refine v_iload ok 4 dX0_flowBy_37 rfl ?_
                refine v_iadd ok dX0_flowBy_39 ?_
                refine v_dup2 ok rfl rfl dX0_flowBy_40 ?_
                refine v_iald (n := m) (f0 := G) ok hf hfm (by omega) (by rw [up1_same]) dX0_flowBy_41 ?_
                refine v_aload_n ok 1 dX0_flowBy_42 rfl rfl ?_
                refine v_iload_n ok 3 dX0_flowBy_43 rfl rfl ?_
                refine v_iald (n := n) (f0 := (M r)) ok hr hrn (by omega) (by rw [up1_ne hrf]) dX0_flowBy_44 ?_
                refine v_aload_n ok 0 dX0_flowBy_45 rfl rfl ?_
                refine v_get (T := TX0) (N := 4) (f0 := (M b)) (v := rf g (b + 1)) ok mi_X0_flowBy_0 (kd_lt hb (by decide)) rfl (by rw [up1_ne hbn]) (cellF_0 _ hb) 0 (by decide) mk_X0_flowBy_9 rfl rfl dX0_flowBy_46 ?_
                refine v_iload ok 4 dX0_flowBy_49 rfl ?_
                refine v_iald (n := 5) (f0 := (M (b + 1))) ok (kd_c0_1 hb) (ln_c0_1 hb) (by omega) (by rw [up1_ne hbf]) dX0_flowBy_51 ?_
                refine v_imul ok dX0_flowBy_52 ?_
                refine v_iadd ok dX0_flowBy_53 ?_
                refine v_iast (n := m) (f0 := G) ok hf hfm (by omega) (by rw [up1_same]) dX0_flowBy_54 ?_
                rw [up1_up1]
                refine v_iinc ok 4 [(4, iv (a + 1)), (0, rf g b), (1, rf g r), (2, rf g f), (3, iv s)] dX0_flowBy_55 rfl (by decide) rfl ?_
                refine v_goto (tgt := 16) ok dX0_flowBy_58 (by decide) ?_
                refine v_lv (ls' := [(0, rf g b), (1, rf g r), (2, rf g f), (3, iv s), (4, iv (a + 1))]) ok [1, 2, 3, 4, 0] rfl ?_
                exact ih16 (a + 1) (up G (s + a) ((G (s + a)) + ((M r s) * (M (b + 1) a)))) (by omega) (flw_in i16_0.1 i16_1 (by omega) (by omega)) (by omega)
        refine v_lv (ls' := [(0, rf g b), (1, rf g r), (2, rf g f), (3, iv s), (4, iv 0)]) ok [1, 2, 3, 4, 0] rfl ?_
        exact lp16 _ 0 F (by omega) (fun h h0 h1 => by rw [if_neg (by omega), i7_1 h h0 h1]; omega) (Nat.lt_succ_self _)
  refine v_lv (ls' := [(0, rf g b), (1, rf g r), (2, rf g f), (3, iv 0)]) ok [1, 2, 3, 0] rfl ?_
  exact lp7 _ 0 (fun _ => 0) (by omega) (fun h _ _ => rfl) (Nat.lt_succ_self _)

theorem mk_X0_outOfStore_19 : Cond.fieldLink RX0 19 "StormRunoff$Basin" "kind" "I" ∈ wsX0_outOfStore := by decide +kernel
theorem mi_X0_outOfStore_0 : ∀ w ∈ wsX00, w ∈ wsX0_outOfStore := by decide +kernel
theorem mk_X0_outOfStore_22 : Cond.fieldLink RX0 22 "StormRunoff$Basin" "number" "I" ∈ wsX0_outOfStore := by decide +kernel
theorem mk_X0_outOfStore_43 : Cond.methodLink RX0 43 Lib.Math.min.name ∈ wsX0_outOfStore := by decide +kernel
theorem mmins_X0_outOfStore : Cond.static Lib.Math.min.name ∈ wsX0_outOfStore := by decide +kernel
theorem mmi_X0_outOfStore : Cond.initialized "java/lang/Math" ∈ wsX0_outOfStore := by decide +kernel
theorem mminc_X0_outOfStore : Cond.code Lib.Math.min.name Lib.Math.min.code 2 (some .int) ∈ wsX0_outOfStore := by decide +kernel
theorem mk_X0_outOfStore_49 : Cond.methodLink RX0 49 Lib.Math.max.name ∈ wsX0_outOfStore := by decide +kernel
theorem mmaxs_X0_outOfStore : Cond.static Lib.Math.max.name ∈ wsX0_outOfStore := by decide +kernel
theorem mmaxc_X0_outOfStore : Cond.code Lib.Math.max.name Lib.Math.max.code 2 (some .int) ∈ wsX0_outOfStore := by decide +kernel
set_option maxRecDepth 100000 in
set_option maxHeartbeats 400000 in
theorem ct_X0_outOfStore (l : Launch) (g : Gl) (M : Mem) (b : Nat) (x : Int) (hb : kd b = 0) (hk : 0 ≤ M b 2 ∧ M b 2 ≤ 4) (hn : 0 ≤ M b 3 ∧ M b 3 ≤ 9) (hx : 0 ≤ x ∧ x ≤ 1000000) : Ct l g yX0_outOfStore wsX0_outOfStore 1 21 [rf g b, iv x] M (fun rv M' => rv = some (iv (ofs (M b 2) (M b 3) x)) ∧ M' = M) := by
  refine Ct.of (cc := cX0_outOfStore) (nL := 2) (ret := (some .int)) (by decide) rfl (Nat.le_of_ble_eq_true rfl) (fun z hz ok rt => ?_)
  have ok : Ok z g cX0_outOfStore 2 RX0 wsX0_outOfStore 1 21 := ok
  show V z g 2 M [(0, rf g b), (1, iv x)] [] 0
  refine v_aload_n ok 0 dX0_outOfStore_0 rfl rfl ?_
  refine v_get (T := TX0) (N := 4) (f0 := (M b)) (v := iv (M b 2)) ok mi_X0_outOfStore_0 (kd_lt hb (by decide)) rfl rfl (cellF_0 _ hb) 2 (by decide) mk_X0_outOfStore_19 rfl rfl dX0_outOfStore_1 ?_
  by_cases e1 : (M b 2) = 2
  · skip
    refine v_tblIn (off := 28) (tgt := 32) ok ⟨by omega, by omega⟩ (by omega) (by omega) (by rw [e1]; rfl) dX0_outOfStore_4 (by decide) ?_
    refine v_aload_n ok 0 dX0_outOfStore_32 rfl rfl ?_
    refine v_get (T := TX0) (N := 4) (f0 := (M b)) (v := iv (M b 3)) ok mi_X0_outOfStore_0 (kd_lt hb (by decide)) rfl rfl (cellF_0 _ hb) 3 (by decide) mk_X0_outOfStore_22 rfl rfl dX0_outOfStore_33 ?_
    refine v_if_le (tgt := 48) ok ⟨by omega, by omega⟩ dX0_outOfStore_36 (by decide) (fun c2 => ?_) (fun c2 => ?_)
    · skip
      refine v_iconst (n := 0) ok dX0_outOfStore_48 ?_
      exact v_iret ok rt dX0_outOfStore_49 (⟨(congrArg (fun q : Int => some (iv q)) (show 0 = (ofs (M b 2) (M b 3) x) from by (unfold ofs; (repeat' split) <;> omega))), rfl⟩)
    · skip
      refine v_iload_n ok 1 dX0_outOfStore_39 rfl rfl ?_
      refine v_aload_n ok 0 dX0_outOfStore_40 rfl rfl ?_
      refine v_get (T := TX0) (N := 4) (f0 := (M b)) (v := iv (M b 3)) ok mi_X0_outOfStore_0 (kd_lt hb (by decide)) rfl rfl (cellF_0 _ hb) 3 (by decide) mk_X0_outOfStore_22 rfl rfl dX0_outOfStore_41 ?_
      refine v_idiv ok (by omega) (by omega) dX0_outOfStore_44 ?_
      refine v_goto (tgt := 49) ok dX0_outOfStore_45 (by decide) ?_
      exact v_iret ok rt dX0_outOfStore_49 (⟨(congrArg (fun q : Int => some (iv q)) (show (x / (M b 3)) = (ofs (M b 2) (M b 3) x) from by (unfold ofs; (repeat' split) <;> omega))), rfl⟩)
  · skip
    by_cases e3 : (M b 2) = 3
    · skip
      refine v_tblIn (off := 46) (tgt := 50) ok ⟨by omega, by omega⟩ (by omega) (by omega) (by rw [e3]; rfl) dX0_outOfStore_4 (by decide) ?_
      refine v_iload_n ok 1 dX0_outOfStore_50 rfl rfl ?_
      refine v_aload_n ok 0 dX0_outOfStore_51 rfl rfl ?_
      refine v_get (T := TX0) (N := 4) (f0 := (M b)) (v := iv (M b 3)) ok mi_X0_outOfStore_0 (kd_lt hb (by decide)) rfl rfl (cellF_0 _ hb) 3 (by decide) mk_X0_outOfStore_22 rfl rfl dX0_outOfStore_52 ?_
      refine v_mmin ok ⟨by omega, by omega⟩ ⟨by omega, by omega⟩ mk_X0_outOfStore_43 mmins_X0_outOfStore mmi_X0_outOfStore mminc_X0_outOfStore ⟨by decide, Nat.le_of_ble_eq_true rfl⟩ dX0_outOfStore_55 ?_
      exact v_iret ok rt dX0_outOfStore_58 (⟨(congrArg (fun q : Int => some (iv q)) (show (min x (M b 3)) = (ofs (M b 2) (M b 3) x) from by (unfold ofs; (repeat' split) <;> omega))), rfl⟩)
    · skip
      by_cases e4 : (M b 2) = 4
      · skip
        refine v_tblIn (off := 55) (tgt := 59) ok ⟨by omega, by omega⟩ (by omega) (by omega) (by rw [e4]; rfl) dX0_outOfStore_4 (by decide) ?_
        refine v_iload_n ok 1 dX0_outOfStore_59 rfl rfl ?_
        refine v_aload_n ok 0 dX0_outOfStore_60 rfl rfl ?_
        refine v_get (T := TX0) (N := 4) (f0 := (M b)) (v := iv (M b 3)) ok mi_X0_outOfStore_0 (kd_lt hb (by decide)) rfl rfl (cellF_0 _ hb) 3 (by decide) mk_X0_outOfStore_22 rfl rfl dX0_outOfStore_61 ?_
        refine v_isub ok dX0_outOfStore_64 ?_
        refine v_iconst (n := 0) ok dX0_outOfStore_65 ?_
        refine v_mmax ok ⟨by omega, by omega⟩ (by decide) mk_X0_outOfStore_49 mmaxs_X0_outOfStore mmi_X0_outOfStore mmaxc_X0_outOfStore ⟨by decide, Nat.le_of_ble_eq_true rfl⟩ dX0_outOfStore_66 ?_
        exact v_iret ok rt dX0_outOfStore_69 (⟨(congrArg (fun q : Int => some (iv q)) (show (max (x - (M b 3)) 0) = (ofs (M b 2) (M b 3) x) from by (unfold ofs; (repeat' split) <;> omega))), rfl⟩)
      · skip
        refine v_tblOut (tgt := 70) ok ⟨by omega, by omega⟩ (by omega) dX0_outOfStore_4 (by decide) ?_
        refine v_iload_n ok 1 dX0_outOfStore_70 rfl rfl ?_
        exact v_iret ok rt dX0_outOfStore_71 (⟨(congrArg (fun q : Int => some (iv q)) (show x = (ofs (M b 2) (M b 3) x) from by (unfold ofs; (repeat' split) <;> omega))), rfl⟩)

theorem mk_X0_letThrough_19 : Cond.fieldLink RX0 19 "StormRunoff$Basin" "kind" "I" ∈ wsX0_letThrough := by decide +kernel
theorem mi_X0_letThrough_0 : ∀ w ∈ wsX00, w ∈ wsX0_letThrough := by decide +kernel
theorem mk_X0_letThrough_22 : Cond.fieldLink RX0 22 "StormRunoff$Basin" "number" "I" ∈ wsX0_letThrough := by decide +kernel
theorem ms_X0_letThrough_X9_between : Cond.static yX9_between ∈ wsX0_letThrough := by decide +kernel
theorem mn_X0_letThrough_X9_between : Cond.initialized yX9_between.cls ∈ wsX0_letThrough := by decide +kernel
theorem mq_X0_letThrough_X9_between : (RX0, 35, yX9_between) ∈ nestW := by decide +kernel
set_option maxRecDepth 100000 in
set_option maxHeartbeats 400000 in
theorem ct_X0_letThrough (l : Launch) (g : Gl) (M : Mem) (b : Nat) (hb : kd b = 0) (hk : 0 ≤ M b 2 ∧ M b 2 ≤ 4) (hn : 0 ≤ M b 3 ∧ M b 3 ≤ 9) (hF : bdf (M 51) 30 0 1440) : Ct l g yX0_letThrough wsX0_letThrough 2 42 [rf g b, rf g 51, rf g 52] M (fun rv M' => rv = some (iv (sto (M b 2) (M b 3) (M 51) 30)) ∧ M' = (up1 M 52 (otp (M b 2) (M b 3) (M 51)))) := by
  refine Ct.of (cc := cX0_letThrough) (nL := 5) (ret := (some .int)) (by decide) rfl (Nat.le_of_ble_eq_true rfl) (fun z hz ok rt => ?_)
  have ok : Ok z g cX0_letThrough 5 RX0 wsX0_letThrough 2 42 := ok
  show V z g 5 M [(0, rf g b), (1, rf g 51), (2, rf g 52)] [] 0
  refine v_iconst (n := 0) ok dX0_letThrough_0 ?_
  refine v_istore_n ok [(3, iv 0), (0, rf g b), (1, rf g 51), (2, rf g 52)] dX0_letThrough_1 rfl (by decide) rfl ?_
  refine v_iconst (n := 0) ok dX0_letThrough_2 ?_
  refine v_istore ok [(4, iv 0), (3, iv 0), (0, rf g b), (1, rf g 51), (2, rf g 52)] dX0_letThrough_3 (by decide) rfl ?_
  have lp5 : ∀ (fu : Nat) (i S : Int) (O : Int → Int), (0 ≤ i ∧ i ≤ 30) → (S = sto (M b 2) (M b 3) (M 51) i.toNat) → (∀ j : Int, 0 ≤ j → j < i → O j = otp (M b 2) (M b 3) (M 51) j) → (30 - i).toNat < fu → V z g 5 (up1 M 52 O) [(0, rf g b), (1, rf g 51), (2, rf g 52), (3, iv S), (4, iv i)] [] 5 := by
    intro fu
    induction fu with
    | zero => intro i S O _ _ _ hm; exact absurd hm (Nat.not_lt_zero _)
    | succ fu ih5 =>
      intro i S O i5_0 i5_1 i5_2 hm5
      have hS := sto_rng (k := M b 2) hn.1 hF i.toNat (by omega)
      refine v_iload ok 4 dX0_letThrough_5 rfl ?_
      refine v_aload_n ok 1 dX0_letThrough_7 rfl rfl ?_
      refine v_alen (n := 30) ok (Or.inl (by decide)) rfl dX0_letThrough_8 ?_
      refine v_icmp_ge (tgt := 94) ok ⟨by omega, by omega⟩ (by decide) dX0_letThrough_9 (by decide) (fun c1 => ?_) (fun c1 => ?_)
      · skip
        have e30 : i = 30 := by omega
        subst e30
        refine v_cong (n := 30) (otp (M b 2) (M b 3) (M 51)) (Or.inl (by decide)) rfl (fun j h0 h1 => i5_2 j h0 h1) ?_
        refine v_iload_n ok 3 dX0_letThrough_94 rfl rfl ?_
        exact v_iret ok rt dX0_letThrough_95 (⟨(by rw [i5_1]; rfl), rfl⟩)
      · skip
        refine v_iload ok 4 dX0_letThrough_12 rfl ?_
        refine v_aload_n ok 2 dX0_letThrough_14 rfl rfl ?_
        refine v_alen (n := 30) ok (Or.inl (by decide)) rfl dX0_letThrough_15 ?_
        refine v_icmp_ge (tgt := 94) ok ⟨by omega, by omega⟩ (by decide) dX0_letThrough_16 (by decide) (fun c2 => absurd c2 (by omega)) (fun c2 => ?_)
        refine v_aload_n ok 0 dX0_letThrough_19 rfl rfl ?_
        refine v_get (T := TX0) (N := 4) (f0 := (M b)) (v := iv (M b 2)) ok mi_X0_letThrough_0 (kd_lt hb (by decide)) rfl (by rw [up1_ne (kd_ne (show kd b = 0 from hb) (show kd 52 = 11 from rfl) (by decide))]) (cellF_0 _ hb) 2 (by decide) mk_X0_letThrough_19 rfl rfl dX0_letThrough_20 ?_
        refine v_iconst (n := 1) ok dX0_letThrough_23 ?_
        refine v_icmp_ne (tgt := 65) ok ⟨by omega, by omega⟩ (by decide) dX0_letThrough_24 (by decide) (fun c3 => ?_) (fun c3 => ?_)
        · skip
          have hk1 : ¬ M b 2 = 1 := by omega
          have hF5 := hF i (by omega) (by omega)
          have hof := ofs_rng (k := M b 2) (n := M b 3) (x := S + M 51 i) (by omega) hn.1
          refine v_iload_n ok 3 dX0_letThrough_65 rfl rfl ?_
          refine v_aload_n ok 1 dX0_letThrough_66 rfl rfl ?_
          refine v_iload ok 4 dX0_letThrough_67 rfl ?_
          refine v_iald (n := 30) (f0 := (M 51)) ok (by decide) rfl (by omega) rfl dX0_letThrough_69 ?_
          have b4 := hF i (by omega) (by omega)
          refine v_iadd ok dX0_letThrough_70 ?_
          refine v_istore_n ok [(3, iv (S + (M 51 i))), (0, rf g b), (1, rf g 51), (2, rf g 52), (4, iv i)] dX0_letThrough_71 rfl (by decide) rfl ?_
          refine v_aload_n ok 3 dX0_letThrough_72 rfl rfl ?_
          refine v_iload ok 4 dX0_letThrough_73 rfl ?_
          refine v_aload_n ok 1 dX0_letThrough_75 rfl rfl ?_
          refine v_iload_n ok 0 dX0_letThrough_76 rfl rfl ?_
          refine v_callV (na := 1) (i := b) (C := RX0) (T := TX0) (N := 4) (f0 := (M b)) ok (ct_X0_outOfStore z.2.1 g (up1 M 52 O) b (S + (M 51 i)) hb (by rw [show ((up1 M 52 O) : Mem) b = (M b) from (by rw [up1_ne (kd_ne (show kd b = 0 from hb) (show kd 52 = 11 from rfl) (by decide))])]; show 0 ≤ (M b) 2 ∧ (M b) 2 ≤ 4; first | omega | assumption) (by rw [show ((up1 M 52 O) : Mem) b = (M b) from (by rw [up1_ne (kd_ne (show kd b = 0 from hb) (show kd 52 = 11 from rfl) (by decide))])]; show 0 ≤ (M b) 3 ∧ (M b) 3 ≤ 9; first | omega | assumption) (by first | omega | assumption)) gX0_letThrough_X0_outOfStore (kd_lt hb (by decide)) rfl (by rw [up1_ne (kd_ne (show kd b = 0 from hb) (show kd 52 = 11 from rfl) (by decide))]) (cellF_0 _ hb) rfl (by decide +kernel) rfl (by decide) [iv i, rf g 52] rfl (Nat.le_of_ble_eq_true rfl) dX0_letThrough_77 (fun v6 M7 hp5 => ?_)
          obtain ⟨rfl, rfl⟩ := hp5
          rw [show ((up1 M 52 O) : Mem) b = (M b) from (by rw [up1_ne (kd_ne (show kd b = 0 from hb) (show kd 52 = 11 from rfl) (by decide))])]
          show V z g 5 (up1 M 52 O) [(3, iv (S + (M 51 i))), (0, rf g b), (1, rf g 51), (2, rf g 52), (4, iv i)] [iv (ofs ((M b) 2) ((M b) 3) (S + (M 51 i))), iv i, rf g 52] 80
          refine v_iast (n := 30) (f0 := O) ok (by decide) rfl (by omega) rfl dX0_letThrough_80 ?_
          rw [up1_up1]
          refine v_iload_n ok 0 dX0_letThrough_81 rfl rfl ?_
          refine v_aload_n ok 3 dX0_letThrough_82 rfl rfl ?_
          refine v_iload ok 4 dX0_letThrough_83 rfl ?_
          refine v_iald (n := 30) (f0 := up O i (ofs ((M b) 2) ((M b) 3) (S + (M 51 i)))) ok (by decide) rfl (by omega) rfl dX0_letThrough_85 ?_
          rw [show ((up O i (ofs ((M b) 2) ((M b) 3) (S + (M 51 i))) i) : Int) = (ofs (M b 2) (M b 3) (S + M 51 i)) from (by rw [up_same])]
          refine v_isub ok dX0_letThrough_86 ?_
          have hs2 : S + M 51 i - ofs (M b 2) (M b 3) (S + M 51 i) = sto (M b 2) (M b 3) (M 51) (i + 1).toNat := by rw [sto_s i5_0.1, if_neg hk1, ← i5_1]
          have hs3 := up_lt (F := O) i5_2 (v := ofs (M b 2) (M b 3) (S + M 51 i)) (by unfold otp; rw [if_neg hk1, ← i5_1])
          refine v_istore_n ok [(3, iv ((S + (M 51 i)) - (ofs (M b 2) (M b 3) (S + M 51 i)))), (0, rf g b), (1, rf g 51), (2, rf g 52), (4, iv i)] dX0_letThrough_87 rfl (by decide) rfl ?_
          refine v_iinc ok 4 [(4, iv (i + 1)), (3, iv ((S + (M 51 i)) - (ofs (M b 2) (M b 3) (S + M 51 i)))), (0, rf g b), (1, rf g 51), (2, rf g 52)] dX0_letThrough_88 rfl (by decide) rfl ?_
          refine v_goto (tgt := 5) ok dX0_letThrough_91 (by decide) ?_
          refine v_lv (ls' := [(0, rf g b), (1, rf g 51), (2, rf g 52), (3, iv ((S + (M 51 i)) - (ofs (M b 2) (M b 3) (S + M 51 i)))), (4, iv (i + 1))]) ok [2, 3, 4, 1, 0] rfl ?_
          exact ih5 (i + 1) ((S + (M 51 i)) - (ofs (M b 2) (M b 3) (S + M 51 i))) (up O i (ofs ((M b) 2) ((M b) 3) (S + (M 51 i)))) (by omega) hs2 hs3 (by omega)
        · skip
          have hk1 : M b 2 = 1 := by omega
          refine v_aload_n ok 2 dX0_letThrough_27 rfl rfl ?_
          refine v_iload ok 4 dX0_letThrough_28 rfl ?_
          refine v_iload ok 4 dX0_letThrough_30 rfl ?_
          refine v_aload_n ok 0 dX0_letThrough_32 rfl rfl ?_
          refine v_get (T := TX0) (N := 4) (f0 := (M b)) (v := iv (M b 3)) ok mi_X0_letThrough_0 (kd_lt hb (by decide)) rfl (by rw [up1_ne (kd_ne (show kd b = 0 from hb) (show kd 52 = 11 from rfl) (by decide))]) (cellF_0 _ hb) 3 (by decide) mk_X0_letThrough_22 rfl rfl dX0_letThrough_33 ?_
          refine v_isub ok dX0_letThrough_36 ?_
          refine v_iconst (n := 0) ok dX0_letThrough_37 ?_
          refine v_aload_n ok 1 dX0_letThrough_38 rfl rfl ?_
          refine v_alen (n := 30) ok (Or.inl (by decide)) rfl dX0_letThrough_39 ?_
          refine v_iconst (n := 1) ok dX0_letThrough_40 ?_
          refine v_isub ok dX0_letThrough_41 ?_
          show V z g 5 (up1 M 52 O) [(0, rf g b), (1, rf g 51), (2, rf g 52), (3, iv S), (4, iv i)] [iv 29, iv 0, iv (i - (M b 3)), iv i, rf g 52] 42
          refine v_callN (na := 3) ok (ct_X9_between z.2.1 g (up1 M 52 O) (i - (M b 3)) 0 29 ⟨by omega, by omega⟩ (by decide) (by decide)) gX0_letThrough_X9_between_n35 mq_X0_letThrough_X9_between ms_X0_letThrough_X9_between mn_X0_letThrough_X9_between rfl (by decide +kernel) rfl (by decide) [iv i, rf g 52] rfl (Nat.le_of_ble_eq_true rfl) dX0_letThrough_42 (fun v9 M10 hp8 => ?_)
          rcases hp8 with ⟨rfl, rfl, h11⟩ | ⟨rfl, rfl, h12⟩
          · skip
            show V z g 5 (up1 M 52 O) [(0, rf g b), (1, rf g 51), (2, rf g 52), (3, iv S), (4, iv i)] [iv 1, iv i, rf g 52] 45
            refine v_if_eq (tgt := 60) ok (by decide) dX0_letThrough_45 (by decide) (fun c13 => absurd c13 (by decide)) (fun c13 => ?_)
            refine v_aload_n ok 1 dX0_letThrough_48 rfl rfl ?_
            refine v_iload ok 4 dX0_letThrough_49 rfl ?_
            refine v_aload_n ok 0 dX0_letThrough_51 rfl rfl ?_
            refine v_get (T := TX0) (N := 4) (f0 := (M b)) (v := iv (M b 3)) ok mi_X0_letThrough_0 (kd_lt hb (by decide)) rfl (by rw [up1_ne (kd_ne (show kd b = 0 from hb) (show kd 52 = 11 from rfl) (by decide))]) (cellF_0 _ hb) 3 (by decide) mk_X0_letThrough_22 rfl rfl dX0_letThrough_52 ?_
            refine v_isub ok dX0_letThrough_55 ?_
            refine v_iald (n := 30) (f0 := (M 51)) ok (by decide) rfl (by omega) rfl dX0_letThrough_56 ?_
            have b14 := hF (i - (M b 3)) (by omega) (by omega)
            have hv1 : M 51 (i - M b 3) = otp (M b 2) (M b 3) (M 51) i := by unfold otp; rw [if_pos hk1, if_neg (by omega)]
            refine v_goto (tgt := 61) ok dX0_letThrough_57 (by decide) ?_
            have hs2 : S = sto (M b 2) (M b 3) (M 51) (i + 1).toNat := by rw [sto_s i5_0.1, if_pos hk1]; exact i5_1
            have hs3 := up_lt i5_2 hv1
            refine v_iast (n := 30) (f0 := O) ok (by decide) rfl (by omega) rfl dX0_letThrough_61 ?_
            rw [up1_up1]
            refine v_goto (tgt := 88) ok dX0_letThrough_62 (by decide) ?_
            refine v_iinc ok 4 [(4, iv (i + 1)), (0, rf g b), (1, rf g 51), (2, rf g 52), (3, iv S)] dX0_letThrough_88 rfl (by decide) rfl ?_
            refine v_goto (tgt := 5) ok dX0_letThrough_91 (by decide) ?_
            refine v_lv (ls' := [(0, rf g b), (1, rf g 51), (2, rf g 52), (3, iv S), (4, iv (i + 1))]) ok [1, 2, 3, 4, 0] rfl ?_
            exact ih5 (i + 1) S (up O i (M 51 (i - (M b 3)))) (by omega) hs2 hs3 (by omega)
          · skip
            show V z g 5 (up1 M 52 O) [(0, rf g b), (1, rf g 51), (2, rf g 52), (3, iv S), (4, iv i)] [iv 0, iv i, rf g 52] 45
            refine v_if_eq (tgt := 60) ok (by decide) dX0_letThrough_45 (by decide) (fun c15 => ?_) (fun c15 => absurd c15 (by decide))
            have hv1 : (0 : Int) = otp (M b 2) (M b 3) (M 51) i := by unfold otp; rw [if_pos hk1, if_pos (by omega)]
            refine v_iconst (n := 0) ok dX0_letThrough_60 ?_
            have hs2 : S = sto (M b 2) (M b 3) (M 51) (i + 1).toNat := by rw [sto_s i5_0.1, if_pos hk1]; exact i5_1
            have hs3 := up_lt i5_2 hv1
            refine v_iast (n := 30) (f0 := O) ok (by decide) rfl (by omega) rfl dX0_letThrough_61 ?_
            rw [up1_up1]
            refine v_goto (tgt := 88) ok dX0_letThrough_62 (by decide) ?_
            refine v_iinc ok 4 [(4, iv (i + 1)), (0, rf g b), (1, rf g 51), (2, rf g 52), (3, iv S)] dX0_letThrough_88 rfl (by decide) rfl ?_
            refine v_goto (tgt := 5) ok dX0_letThrough_91 (by decide) ?_
            refine v_lv (ls' := [(0, rf g b), (1, rf g 51), (2, rf g 52), (3, iv S), (4, iv (i + 1))]) ok [1, 2, 3, 4, 0] rfl ?_
            exact ih5 (i + 1) S (up O i 0) (by omega) hs2 hs3 (by omega)
  refine v_lv (ls' := [(0, rf g b), (1, rf g 51), (2, rf g 52), (3, iv 0), (4, iv 0)]) ok [2, 3, 4, 1, 0] rfl ?_
  rw [show (M : Mem) = (up1 M 52 (M 52)) from (by
        funext j
        by_cases hj0 : j = 52
        · subst hj0; simp [up1, up1_self]
        simp [up1, hj0])]
  exact lp5 _ 0 0 (M 52) (by omega) rfl (fun j h1 h2 => by omega) (Nat.lt_succ_self _)

theorem mk_X1_runOff_9 : Cond.fieldLink RX1 9 "StormRunoff$Course" "flow" "[I" ∈ wsX1_runOff := by decide +kernel
theorem mi_X1_runOff_1 : ∀ w ∈ wsX10, w ∈ wsX1_runOff := by decide +kernel
theorem mk_X1_runOff_15 : Cond.fieldLink RX1 15 "StormRunoff$Course" "out" "[I" ∈ wsX1_runOff := by decide +kernel
set_option maxRecDepth 100000 in
set_option maxHeartbeats 400000 in
theorem ct_X1_runOff (l : Launch) (g : Gl) (M : Mem) (b r : Nat) (hb : kd b = 0) (hr : kd r = 11) (hrn : (ln r : Int) = 8) (hk : 0 ≤ M b 2 ∧ M b 2 ≤ 4) (hn : 0 ≤ M b 3 ∧ M b 3 ≤ 9) (hR : bdf (M r) 8 0 20) (hA : bdf (M (b + 1)) 5 0 9) : Ct l g yX1_runOff wsX1_runOff 3 66 [rf g 50, rf g b, rf g r] M (fun rv M' => rv = some (iv (sto (M b 2) (M b 3) (fl (M r) (M (b + 1)) 8) 30)) ∧ M' = (up1 (up1 M 51 (fl (M r) (M (b + 1)) 8)) 52 (otp (M b 2) (M b 3) (fl (M r) (M (b + 1)) 8)))) := by
  refine Ct.of (cc := cX1_runOff) (nL := 3) (ret := (some .int)) (by decide) rfl (Nat.le_of_ble_eq_true rfl) (fun z hz ok rt => ?_)
  have ok : Ok z g cX1_runOff 3 RX1 wsX1_runOff 3 66 := ok
  show V z g 3 M [(0, rf g 50), (1, rf g b), (2, rf g r)] [] 0
  have hr1 : r ≠ 51 := ln_ne hrn (show (ln 51 : Int) = 30 from rfl) (by decide)
  have hr2 : r ≠ 52 := ln_ne hrn (show (ln 52 : Int) = 30 from rfl) (by decide)
  refine v_aload_n ok 1 dX1_runOff_0 rfl rfl ?_
  refine v_aload_n ok 2 dX1_runOff_1 rfl rfl ?_
  refine v_aload_n ok 0 dX1_runOff_2 rfl rfl ?_
  refine v_get (T := TX1) (N := 3) (f0 := (M 50)) (v := rf g 51) ok mi_X1_runOff_1 (kd_lt (show kd 50 = 1 from rfl) (by decide)) rfl rfl (cellF_1 _ (by decide)) 0 (by decide) mk_X1_runOff_9 rfl rfl dX1_runOff_3 ?_
  refine v_callV (na := 2) (i := b) (C := RX0) (T := TX0) (N := 4) (f0 := (M b)) ok (ct_X0_flowBy z.2.1 g M b r 51 8 30 hb hr (by decide) hrn rfl hr1 (ln_ne (show (ln (b + 1) : Int) = 5 from (ln_c0_1 hb)) (show (ln 51 : Int) = 30 from rfl) (by decide))) gX1_runOff_X0_flowBy (kd_lt hb (by decide)) rfl rfl (cellF_0 _ hb) rfl (by decide +kernel) rfl (by decide) [] rfl (Nat.le_of_ble_eq_true rfl) dX1_runOff_6 (fun v2 M3 hp1 => ?_)
  obtain ⟨rfl, rfl⟩ := hp1
  show V z g 3 (up1 M 51 (fl ((M r)) ((M (b + 1))) 8)) [(0, rf g 50), (1, rf g b), (2, rf g r)] [] 9
  refine v_aload_n ok 1 dX1_runOff_9 rfl rfl ?_
  refine v_aload_n ok 0 dX1_runOff_10 rfl rfl ?_
  refine v_get (T := TX1) (N := 3) (f0 := (M 50)) (v := rf g 51) ok mi_X1_runOff_1 (kd_lt (show kd 50 = 1 from rfl) (by decide)) rfl rfl (cellF_1 _ (by decide)) 0 (by decide) mk_X1_runOff_9 rfl rfl dX1_runOff_11 ?_
  refine v_aload_n ok 0 dX1_runOff_14 rfl rfl ?_
  refine v_get (T := TX1) (N := 3) (f0 := (M 50)) (v := rf g 52) ok mi_X1_runOff_1 (kd_lt (show kd 50 = 1 from rfl) (by decide)) rfl rfl (cellF_1 _ (by decide)) 1 (by decide) mk_X1_runOff_15 rfl rfl dX1_runOff_15 ?_
  refine v_callV (na := 2) (i := b) (C := RX0) (T := TX0) (N := 4) (f0 := (M b)) ok (ct_X0_letThrough z.2.1 g (up1 M 51 (fl ((M r)) ((M (b + 1))) 8)) b hb (by rw [up1_ne (kd_ne hb (show kd 51 = 11 from rfl) (by decide))]; exact hk) (by rw [up1_ne (kd_ne hb (show kd 51 = 11 from rfl) (by decide))]; exact hn) (by rw [up1_same]; exact fl_rng hR hA 30)) gX1_runOff_X0_letThrough (kd_lt hb (by decide)) rfl (by rw [up1_ne (kd_ne (show kd b = 0 from hb) (show kd 51 = 11 from rfl) (by decide))]) (cellF_0 _ hb) rfl (by decide +kernel) rfl (by decide) [] rfl (Nat.le_of_ble_eq_true rfl) dX1_runOff_18 (fun v5 M6 hp4 => ?_)
  obtain ⟨rfl, rfl⟩ := hp4
  rw [show ((up1 M 51 (fl ((M r)) ((M (b + 1))) 8)) : Mem) b = (M b) from (by rw [up1_ne (kd_ne (show kd b = 0 from hb) (show kd 51 = 11 from rfl) (by decide))])]
  show V z g 3 (up1 (up1 M 51 (fl ((M r)) ((M (b + 1))) 8)) 52 (otp ((M b) 2) ((M b) 3) ((fl ((M r)) ((M (b + 1))) 8)))) [(0, rf g 50), (1, rf g b), (2, rf g r)] [iv (sto ((M b) 2) ((M b) 3) ((fl ((M r)) ((M (b + 1))) 8)) 30)] 21
  exact v_iret ok rt dX1_runOff_21 (⟨(congrArg (fun q : Int => some (iv q)) (show (sto ((M b) 2) ((M b) 3) ((fl ((M r)) ((M (b + 1))) 8)) 30) = (sto (M b 2) (M b 3) (fl (M r) (M (b + 1)) 8) 30) from by omega)), (by
        funext j
        by_cases hj0 : j = 51
        · subst hj0; simp [up1, up1_self]
        by_cases hj1 : j = 52
        · subst hj1; simp [up1, up1_self]
        simp [up1, hj0, hj1])⟩)

set_option maxRecDepth 100000 in
set_option maxHeartbeats 400000 in
theorem ct_X9_measure (l : Launch) (g : Gl) (M : Mem) (a : Nat) (n hi w : Int) (ha : kd a = 11) (hn : (ln a : Int) = n) (hn1 : 0 < n) (hw : 0 ≤ w ∧ w ≤ 2) (hF : bdf (M a) n 0 hi) (hhi : hi ≤ 2147483647) : Ct l g yX9_measure wsX9_measure 0 0 [rf g a, iv w] M (fun rv M' => ∃ (r : Int), rv = some (iv r) ∧ M' = M ∧ (r = msr w (M a) n.toNat)) := by
  refine Ct.of (cc := cX9_measure) (nL := 6) (ret := (some .int)) (by decide) rfl (Nat.le_of_ble_eq_true rfl) (fun z hz ok rt => ?_)
  have ok : Ok z g cX9_measure 6 RX9 wsX9_measure 0 0 := ok
  show V z g 6 M [(0, rf g a), (1, iv w)] [] 0
  have hn0 := ln_le a
  refine v_iconst (n := 0) ok dX9_measure_0 ?_
  refine v_istore_n ok [(2, iv 0), (0, rf g a), (1, iv w)] dX9_measure_1 rfl (by decide) rfl ?_
  refine v_iconst (n := 0) ok dX9_measure_2 ?_
  refine v_istore_n ok [(3, iv 0), (2, iv 0), (0, rf g a), (1, iv w)] dX9_measure_3 rfl (by decide) rfl ?_
  refine v_iconst (n := 0) ok dX9_measure_4 ?_
  refine v_istore ok [(4, iv 0), (3, iv 0), (2, iv 0), (0, rf g a), (1, iv w)] dX9_measure_5 (by decide) rfl ?_
  refine v_iconst (n := 0) ok dX9_measure_7 ?_
  refine v_istore ok [(5, iv 0), (4, iv 0), (3, iv 0), (2, iv 0), (0, rf g a), (1, iv w)] dX9_measure_8 (by decide) rfl ?_
  have lp10 : ∀ (fu : Nat) (i V0 P H0 : Int), (0 ≤ i ∧ i ≤ n) → (V0 = sumf (M a) i.toNat) → (H0 = bst (M a) i.toNat) → ((0 < i → P = M a H0) ∧ (i = 0 → P = 0)) → (n - i).toNat < fu → V z g 6 M [(0, rf g a), (1, iv w), (2, iv V0), (3, iv P), (4, iv H0), (5, iv i)] [] 10 := by
    intro fu
    induction fu with
    | zero => intro i V0 P H0 _ _ _ _ hm; exact absurd hm (Nat.not_lt_zero _)
    | succ fu ih10 =>
      intro i V0 P H0 i10_0 i10_1 i10_2 i10_3 hm10
      have hP : 0 ≤ P ∧ P ≤ 2147483647 := by
        have hb := bst_rng (M a) i.toNat
        rcases Int.lt_or_le 0 i with q | q
        · have h1 := i10_3.1 q
          have h2 := hF (bst (M a) i.toNat) hb.1 (by omega)
          rw [h1, i10_2]; omega
        · have h1 := i10_3.2 (by omega)
          omega
      refine v_iload ok 5 dX9_measure_10 rfl ?_
      refine v_aload_n ok 0 dX9_measure_12 rfl rfl ?_
      refine v_alen (n := n) ok (Or.inl ha) hn dX9_measure_13 ?_
      refine v_icmp_ge (tgt := 47) ok ⟨by omega, by omega⟩ ⟨by omega, by omega⟩ dX9_measure_14 (by decide) (fun c1 => ?_) (fun c1 => ?_)
      · skip
        have ein : i = n := by omega
        subst ein
        refine v_iload_n ok 1 dX9_measure_47 rfl rfl ?_
        by_cases e2 : w = 0
        · skip
          refine v_lookup (off := 28) (tgt := 76) ok ⟨by omega, by omega⟩ (by decide) (by rw [e2]; decide) dX9_measure_48 (by decide) ?_
          refine v_iload_n ok 2 dX9_measure_76 rfl rfl ?_
          exact v_iret ok rt dX9_measure_77 (⟨V0, rfl, rfl, (by unfold msr; rw [if_pos (by omega)]; exact i10_1)⟩)
        · skip
          by_cases e3 : w = 1
          · skip
            refine v_lookup (off := 30) (tgt := 78) ok ⟨by omega, by omega⟩ (by decide) (by rw [e3]; decide) dX9_measure_48 (by decide) ?_
            refine v_iload_n ok 3 dX9_measure_78 rfl rfl ?_
            exact v_iret ok rt dX9_measure_79 (⟨P, rfl, rfl, (by unfold msr; rw [if_neg (by omega), if_pos (by omega), ← i10_2]; exact i10_3.1 hn1)⟩)
          · skip
            refine v_lookup (off := 32) (tgt := 80) ok ⟨by omega, by omega⟩ (by decide) (by simp [Op.lookupswitch.offset, Ne.symm e2, e2, Ne.symm e3, e3]) dX9_measure_48 (by decide) ?_
            refine v_iload ok 4 dX9_measure_80 rfl ?_
            exact v_iret ok rt dX9_measure_82 (⟨H0, rfl, rfl, (by unfold msr; rw [if_neg (by omega), if_neg (by omega)]; exact i10_2)⟩)
      · skip
        refine v_iload_n ok 2 dX9_measure_17 rfl rfl ?_
        refine v_aload_n ok 0 dX9_measure_18 rfl rfl ?_
        refine v_iload ok 5 dX9_measure_19 rfl ?_
        refine v_iald (n := n) (f0 := (M a)) ok ha hn (by omega) rfl dX9_measure_21 ?_
        have b4 := hF i (by omega) (by omega)
        refine v_iadd ok dX9_measure_22 ?_
        refine v_istore_n ok [(2, iv (V0 + (M a i))), (0, rf g a), (1, iv w), (3, iv P), (4, iv H0), (5, iv i)] dX9_measure_23 rfl (by decide) rfl ?_
        refine v_aload_n ok 1 dX9_measure_24 rfl rfl ?_
        refine v_iload ok 5 dX9_measure_25 rfl ?_
        refine v_iald (n := n) (f0 := (M a)) ok ha hn (by omega) rfl dX9_measure_27 ?_
        have b5 := hF i (by omega) (by omega)
        refine v_iload_n ok 3 dX9_measure_28 rfl rfl ?_
        refine v_icmp_le (tgt := 41) ok ⟨by omega, by omega⟩ ⟨by omega, by omega⟩ dX9_measure_29 (by decide) (fun c6 => ?_) (fun c6 => ?_)
        · skip
          have hb2 : H0 = bst (M a) (i + 1).toNat := by
            rw [bst_s i10_0.1, ← i10_2]
            rcases Int.lt_or_le 0 i with q | q
            · rw [if_neg (by rw [← i10_3.1 q]; omega)]
            · have e0 : i = 0 := by omega
              subst e0
              have e1 : H0 = 0 := i10_2
              rw [e1]; simp
          have hb3 : (0 < i + 1 → P = M a H0) ∧ (i + 1 = 0 → P = 0) := ⟨fun _ => by
            rcases Int.lt_or_le 0 i with q | q
            · exact i10_3.1 q
            · have e0 : i = 0 := by omega
              subst e0
              have e1 : H0 = 0 := i10_2
              have e2 := i10_3.2 rfl
              rw [e1]; omega, fun q => by omega⟩
          refine v_iinc ok 5 [(5, iv (i + 1)), (2, iv (V0 + (M a i))), (0, rf g a), (1, iv w), (3, iv P), (4, iv H0)] dX9_measure_41 rfl (by decide) rfl ?_
          refine v_goto (tgt := 10) ok dX9_measure_44 (by decide) ?_
          refine v_lv (ls' := [(0, rf g a), (1, iv w), (2, iv (V0 + (M a i))), (3, iv P), (4, iv H0), (5, iv (i + 1))]) ok [2, 3, 1, 4, 5, 0] rfl ?_
          exact ih10 (i + 1) (V0 + (M a i)) P H0 (by omega) (by rw [sumf_s i10_0.1, i10_1]) hb2 hb3 (by omega)
        · skip
          have hz : 0 < i → M a H0 < M a i := fun q => by rw [← i10_3.1 q]; omega
          refine v_aload_n ok 1 dX9_measure_32 rfl rfl ?_
          refine v_iload ok 5 dX9_measure_33 rfl ?_
          refine v_iald (n := n) (f0 := (M a)) ok ha hn (by omega) rfl dX9_measure_35 ?_
          have b7 := hF i (by omega) (by omega)
          refine v_istore_n ok [(3, iv (M a i)), (2, iv (V0 + (M a i))), (0, rf g a), (1, iv w), (4, iv H0), (5, iv i)] dX9_measure_36 rfl (by decide) rfl ?_
          refine v_iload ok 5 dX9_measure_37 rfl ?_
          have hb2 : i = bst (M a) (i + 1).toNat := by
            rw [bst_s i10_0.1, ← i10_2]
            rcases Int.lt_or_le 0 i with q | q
            · rw [if_pos (hz q)]
            · have e0 : i = 0 := by omega
              subst e0
              have e1 : H0 = 0 := i10_2
              rw [e1]; simp
          have hb3 : (0 < i + 1 → M a i = M a i) ∧ (i + 1 = 0 → M a i = 0) := ⟨fun _ => rfl, fun q => by omega⟩
          refine v_istore ok [(4, iv i), (3, iv (M a i)), (2, iv (V0 + (M a i))), (0, rf g a), (1, iv w), (5, iv i)] dX9_measure_39 (by decide) rfl ?_
          refine v_iinc ok 5 [(5, iv (i + 1)), (4, iv i), (3, iv (M a i)), (2, iv (V0 + (M a i))), (0, rf g a), (1, iv w)] dX9_measure_41 rfl (by decide) rfl ?_
          refine v_goto (tgt := 10) ok dX9_measure_44 (by decide) ?_
          refine v_lv (ls' := [(0, rf g a), (1, iv w), (2, iv (V0 + (M a i))), (3, iv (M a i)), (4, iv i), (5, iv (i + 1))]) ok [4, 5, 3, 2, 1, 0] rfl ?_
          exact ih10 (i + 1) (V0 + (M a i)) (M a i) i (by omega) (by rw [sumf_s i10_0.1, i10_1]) hb2 hb3 (by omega)
  refine v_lv (ls' := [(0, rf g a), (1, iv w), (2, iv 0), (3, iv 0), (4, iv 0), (5, iv 0)]) ok [4, 5, 3, 2, 1, 0] rfl ?_
  exact lp10 _ 0 0 0 0 (by omega) rfl rfl ⟨fun h => by omega, fun _ => rfl⟩ (Nat.lt_succ_self _)
