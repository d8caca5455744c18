theorem mk_X5_readDigits_28 : Cond.fieldLink RX5 28 "StormRunoff$SetUp" "many" "I" ∈ wsX5_readDigits := by decide +kernel
theorem mi_X5_readDigits_5 : ∀ w ∈ wsX50, w ∈ wsX5_readDigits := by decide +kernel
set_option maxRecDepth 100000 in
set_option maxHeartbeats 400000 in
theorem ct_X5_readDigits_1_5 (l : Launch) (g : Gl) (M : Mem)  (hL : 0 ≤ M 62 1 ∧ M 62 1 ≤ 100) (hA : 0 ≤ M 62 2 ∧ M 62 2 ≤ 800) (hG : bdf (M 63) 100 0 127) (hm0 : M 62 5 = 0) : Ct l g yX5_readDigits wsX5_readDigits 2 45 [rf g 62, iv 1, iv 5] M (fun rv M' => (∃ (N : Int → Int), rv = some (iv 0) ∧ M' = (up1 (up1 M 62 (up (up (M 62) 2 (M 62 2 + (dgs (M 63) (M 62 1) 5 (M 62 2)))) 5 (dgs (M 63) (M 62 1) 5 (M 62 2)))) 64 N) ∧ ((dgs (M 63) (M 62 1) 5 (M 62 2)) < 1) ∧ (∀ j : Int, 0 ≤ j → j < (dgs (M 63) (M 62 1) 5 (M 62 2)) → N j = M 63 (M 62 2 + j) - 48)) ∨ (∃ (N : Int → Int), rv = some (iv 1) ∧ M' = (up1 (up1 M 62 (up (up (M 62) 2 (M 62 2 + (dgs (M 63) (M 62 1) 5 (M 62 2)))) 5 (dgs (M 63) (M 62 1) 5 (M 62 2)))) 64 N) ∧ (1 ≤ (dgs (M 63) (M 62 1) 5 (M 62 2))) ∧ (∀ j : Int, 0 ≤ j → j < (dgs (M 63) (M 62 1) 5 (M 62 2)) → N j = M 63 (M 62 2 + j) - 48))) := by
  refine Ct.of (cc := cX5_readDigits) (nL := 5) (ret := (some .boolean)) (by decide) rfl (Nat.le_of_ble_eq_true rfl) (fun z hz ok rt => ?_)
  have ok : Ok z g cX5_readDigits 5 RX5 wsX5_readDigits 2 45 := ok
  show V z g 5 M [(0, rf g 62), (1, iv 1), (2, iv 5)] [] 0
  refine v_iconst (n := 1) ok dX5_readDigits_0 ?_
  refine v_istore_n ok [(3, iv 1), (0, rf g 62), (1, iv 1), (2, iv 5)] dX5_readDigits_1 rfl (by decide) rfl ?_
  refine v_iconst (n := 0) ok dX5_readDigits_2 ?_
  refine v_istore ok [(4, iv 0), (3, iv 1), (0, rf g 62), (1, iv 1), (2, iv 5)] dX5_readDigits_3 (by decide) rfl ?_
  have lp5 : ∀ (fu : Nat) (m i d : Int) (N : Int → Int), (0 ≤ i ∧ i ≤ 5 ∧ 0 ≤ d ∧ d ≤ 5) → ((m = 1 ∧ d = i ∧ (dgs (M 63) (M 62 1) 5 (M 62 2)) = i + dgs (M 63) (M 62 1) (5 - i).toNat (M 62 2 + i)) ∨ (m = 0 ∧ (dgs (M 63) (M 62 1) 5 (M 62 2)) = i)) → (∀ j : Int, 0 ≤ j → j < i → N j = M 63 (M 62 2 + j) - 48) → (5 + 1 - d).toNat < fu → V z g 5 (up1 (up1 M 62 (up (up (M 62) 2 (M 62 2 + i)) 5 i)) 64 N) [(0, rf g 62), (1, iv 1), (2, iv 5), (3, iv m), (4, iv d)] [] 5 := by
    intro fu
    induction fu with
    | zero => intro m i d N _ _ _ hm; exact absurd hm (Nat.not_lt_zero _)
    | succ fu ih5 =>
      intro m i d N i5_0 i5_1 i5_2 hm5
      refine v_iload ok 4 dX5_readDigits_5 rfl ?_
      refine v_iload_n ok 2 dX5_readDigits_7 rfl rfl ?_
      refine v_icmp_ge (tgt := 27) ok ⟨by omega, by omega⟩ (by decide) dX5_readDigits_8 (by decide) (fun c1 => ?_) (fun c1 => ?_)
      · skip
        have hD : (dgs (M 63) (M 62 1) 5 (M 62 2)) = i := by
          rcases i5_1 with q | q
          · rw [q.2.2, show (5 - i).toNat = 0 by omega]; simp [dgs]
          · exact q.2
        rw [show ((up1 (up1 M 62 (up (up (M 62) 2 (M 62 2 + i)) 5 i)) 64 N) : Mem) = (up1 (up1 M 62 (up (up (M 62) 2 (M 62 2 + (dgs (M 63) (M 62 1) 5 (M 62 2)))) 5 (dgs (M 63) (M 62 1) 5 (M 62 2)))) 64 N) from (by rw [hD])]
        have hN : ∀ j : Int, 0 ≤ j → j < (dgs (M 63) (M 62 1) 5 (M 62 2)) → N j = M 63 (M 62 2 + j) - 48 := fun j j0 j1 => i5_2 j j0 (by omega)
        refine v_aload_n ok 0 dX5_readDigits_27 rfl rfl ?_
        refine v_get (T := TX5) (N := 6) (f0 := (up (up (M 62) 2 (M 62 2 + (dgs (M 63) (M 62 1) 5 (M 62 2)))) 5 (dgs (M 63) (M 62 1) 5 (M 62 2)))) (v := iv (dgs (M 63) (M 62 1) 5 (M 62 2))) ok mi_X5_readDigits_5 (kd_lt (show kd 62 = 5 from rfl) (by decide)) rfl rfl (cellF_5 _ (by decide)) 5 (by decide) mk_X5_readDigits_28 rfl rfl dX5_readDigits_28 ?_
        refine v_iload_n ok 1 dX5_readDigits_31 rfl rfl ?_
        refine v_icmp_lt (tgt := 39) ok ⟨by omega, by omega⟩ (by decide) dX5_readDigits_32 (by decide) (fun c2 => ?_) (fun c2 => ?_)
        · skip
          refine v_iconst (n := 0) ok dX5_readDigits_39 ?_
          exact v_zret ok rt (by omega) dX5_readDigits_40 (Or.inl (⟨N, rfl, rfl, (by omega), hN⟩))
        · skip
          refine v_iconst (n := 1) ok dX5_readDigits_35 ?_
          refine v_goto (tgt := 40) ok dX5_readDigits_36 (by decide) ?_
          exact v_zret ok rt (by omega) dX5_readDigits_40 (Or.inr (⟨N, rfl, rfl, (by omega), hN⟩))
      · skip
        refine v_iload_n ok 3 dX5_readDigits_11 rfl rfl ?_
        refine v_if_eq (tgt := 27) ok ⟨by omega, by omega⟩ dX5_readDigits_12 (by decide) (fun c3 => ?_) (fun c3 => ?_)
        · skip
          have hD : (dgs (M 63) (M 62 1) 5 (M 62 2)) = i := by omega
          rw [show ((up1 (up1 M 62 (up (up (M 62) 2 (M 62 2 + i)) 5 i)) 64 N) : Mem) = (up1 (up1 M 62 (up (up (M 62) 2 (M 62 2 + (dgs (M 63) (M 62 1) 5 (M 62 2)))) 5 (dgs (M 63) (M 62 1) 5 (M 62 2)))) 64 N) from (by rw [hD])]
          have hN : ∀ j : Int, 0 ≤ j → j < (dgs (M 63) (M 62 1) 5 (M 62 2)) → N j = M 63 (M 62 2 + j) - 48 := fun j j0 j1 => i5_2 j j0 (by omega)
          refine v_aload_n ok 0 dX5_readDigits_27 rfl rfl ?_
          refine v_get (T := TX5) (N := 6) (f0 := (up (up (M 62) 2 (M 62 2 + (dgs (M 63) (M 62 1) 5 (M 62 2)))) 5 (dgs (M 63) (M 62 1) 5 (M 62 2)))) (v := iv (dgs (M 63) (M 62 1) 5 (M 62 2))) ok mi_X5_readDigits_5 (kd_lt (show kd 62 = 5 from rfl) (by decide)) rfl rfl (cellF_5 _ (by decide)) 5 (by decide) mk_X5_readDigits_28 rfl rfl dX5_readDigits_28 ?_
          refine v_iload_n ok 1 dX5_readDigits_31 rfl rfl ?_
          refine v_icmp_lt (tgt := 39) ok ⟨by omega, by omega⟩ (by decide) dX5_readDigits_32 (by decide) (fun c4 => ?_) (fun c4 => ?_)
          · skip
            refine v_iconst (n := 0) ok dX5_readDigits_39 ?_
            exact v_zret ok rt (by omega) dX5_readDigits_40 (Or.inl (⟨N, rfl, rfl, (by omega), hN⟩))
          · skip
            refine v_iconst (n := 1) ok dX5_readDigits_35 ?_
            refine v_goto (tgt := 40) ok dX5_readDigits_36 (by decide) ?_
            exact v_zret ok rt (by omega) dX5_readDigits_40 (Or.inr (⟨N, rfl, rfl, (by omega), hN⟩))
        · skip
          have hv : m = 1 ∧ d = i ∧ (dgs (M 63) (M 62 1) 5 (M 62 2)) = i + dgs (M 63) (M 62 1) (5 - i).toNat (M 62 2 + i) := by
            rcases i5_1 with q | q
            · exact q
            · omega
          refine v_aload_n ok 0 dX5_readDigits_15 rfl rfl ?_
          refine v_iconst (n := 1) ok dX5_readDigits_16 ?_
          refine v_callV (na := 1) (i := 62) (C := RX5) (T := TX5) (N := 6) (f0 := (up (up (M 62) 2 (M 62 2 + i)) 5 i)) ok (ct_X5_readNumber_1 z.2.1 g (up1 (up1 M 62 (up (up (M 62) 2 (M 62 2 + i)) 5 i)) 64 N)  (by show 0 ≤ (M 62 1) ∧ (M 62 1) ≤ 100; first | omega | assumption) (by show 0 ≤ (M 62 2 + i) ∧ (M 62 2 + i) ≤ 900; first | omega | assumption) (by show bdf ((M 63)) 100 0 127; first | omega | assumption) (by show 0 ≤ i ∧ i < 12; first | omega | assumption)) gX5_readDigits_X5_readNumber (kd_lt (show kd 62 = 5 from rfl) (by decide)) rfl rfl (cellF_5 _ (by decide)) rfl (by decide +kernel) rfl (by decide) [] rfl (Nat.le_of_ble_eq_true rfl) dX5_readDigits_17 (fun v6 M7 hp5 => ?_)
          rcases hp5 with ⟨rfl, rfl, h8⟩ | ⟨rfl, rfl, h9⟩
          · skip
            have h8 : (dgs ((M 63)) ((M 62 1)) 1 ((M 62 2 + i))) = 0 := h8
            show V z g 5 (up1 (up1 (up1 M 62 (up (up (M 62) 2 (M 62 2 + i)) 5 i)) 64 N) 62 (up ((up (up (M 62) 2 (M 62 2 + i)) 5 i)) 2 ((M 62 2 + i) + (dgs ((M 63)) ((M 62 1)) 1 ((M 62 2 + i)))))) [(0, rf g 62), (1, iv 1), (2, iv 5), (3, iv m), (4, iv d)] [iv 0] 20
            rw [show ((up1 (up1 (up1 M 62 (up (up (M 62) 2 (M 62 2 + i)) 5 i)) 64 N) 62 (up ((up (up (M 62) 2 (M 62 2 + i)) 5 i)) 2 ((M 62 2 + i) + (dgs ((M 63)) ((M 62 1)) 1 ((M 62 2 + i)))))) : Mem) = (up1 (up1 M 62 (up ((up (up (M 62) 2 (M 62 2 + i)) 5 i)) 2 ((M 62 2 + i) + (dgs ((M 63)) ((M 62 1)) 1 ((M 62 2 + i)))))) 64 N) from (by
                  funext j
                  by_cases hj0 : j = 62
                  · subst hj0; simp [up1, up1_self]
                  by_cases hj1 : j = 64
                  · subst hj1; simp [up1, up1_self]
                  simp [up1, hj0, hj1])]
            have hz := dgs_1f h8
            have hb1 : ((0 : Int) = 1 ∧ d + 1 = i ∧ (dgs (M 63) (M 62 1) 5 (M 62 2)) = i + dgs (M 63) (M 62 1) (5 - i).toNat (M 62 2 + i)) ∨ ((0 : Int) = 0 ∧ (dgs (M 63) (M 62 1) 5 (M 62 2)) = i) := Or.inr ⟨rfl, by rw [hv.2.2, hz, Int.add_zero]⟩
            have hb2 := i5_2
            rw [show ((up1 (up1 M 62 (up ((up (up (M 62) 2 (M 62 2 + i)) 5 i)) 2 ((M 62 2 + i) + (dgs ((M 63)) ((M 62 1)) 1 ((M 62 2 + i)))))) 64 N) : Mem) = (up1 (up1 M 62 (up (up (M 62) 2 (M 62 2 + i)) 5 i)) 64 N) from (by rw [up3, h8, Int.add_zero])]
            refine v_istore_n ok [(3, iv 0), (0, rf g 62), (1, iv 1), (2, iv 5), (4, iv d)] dX5_readDigits_20 rfl (by decide) rfl ?_
            refine v_iinc ok 4 [(4, iv (d + 1)), (3, iv 0), (0, rf g 62), (1, iv 1), (2, iv 5)] dX5_readDigits_21 rfl (by decide) rfl ?_
            refine v_goto (tgt := 5) ok dX5_readDigits_24 (by decide) ?_
            refine v_lv (ls' := [(0, rf g 62), (1, iv 1), (2, iv 5), (3, iv 0), (4, iv (d + 1))]) ok [2, 3, 4, 1, 0] rfl ?_
            exact ih5 0 i (d + 1) N (by omega) hb1 hb2 (by omega)
          · skip
            have h9 : 0 < (dgs ((M 63)) ((M 62 1)) 1 ((M 62 2 + i))) := h9
            show V z g 5 (up1 (up1 (up1 (up1 M 62 (up (up (M 62) 2 (M 62 2 + i)) 5 i)) 64 N) 62 (up (up ((up (up (M 62) 2 (M 62 2 + i)) 5 i)) 2 ((M 62 2 + i) + (dgs ((M 63)) ((M 62 1)) 1 ((M 62 2 + i))))) 5 (i + 1))) 64 (up (N) (i) (nmv ((M 63)) ((M 62 2 + i)) (dgs ((M 63)) ((M 62 1)) 1 ((M 62 2 + i))).toNat))) [(0, rf g 62), (1, iv 1), (2, iv 5), (3, iv m), (4, iv d)] [iv 1] 20
            rw [show ((up1 (up1 (up1 (up1 M 62 (up (up (M 62) 2 (M 62 2 + i)) 5 i)) 64 N) 62 (up (up ((up (up (M 62) 2 (M 62 2 + i)) 5 i)) 2 ((M 62 2 + i) + (dgs ((M 63)) ((M 62 1)) 1 ((M 62 2 + i))))) 5 (i + 1))) 64 (up (N) (i) (nmv ((M 63)) ((M 62 2 + i)) (dgs ((M 63)) ((M 62 1)) 1 ((M 62 2 + i))).toNat))) : Mem) = (up1 (up1 M 62 (up (up ((up (up (M 62) 2 (M 62 2 + i)) 5 i)) 2 ((M 62 2 + i) + (dgs ((M 63)) ((M 62 1)) 1 ((M 62 2 + i))))) 5 (i + 1))) 64 (up (N) (i) (nmv ((M 63)) ((M 62 2 + i)) (dgs ((M 63)) ((M 62 1)) 1 ((M 62 2 + i))).toNat))) from (by
                  funext j
                  by_cases hj0 : j = 62
                  · subst hj0; simp [up1, up1_self]
                  by_cases hj1 : j = 64
                  · subst hj1; simp [up1, up1_self]
                  simp [up1, hj0, hj1])]
            obtain ⟨hd1, hn1, hs1⟩ := dgs_1t h9
            have hb1 : ((1 : Int) = 1 ∧ d + 1 = i + 1 ∧ (dgs (M 63) (M 62 1) 5 (M 62 2)) = i + 1 + dgs (M 63) (M 62 1) (5 - (i + 1)).toNat (M 62 2 + (i + 1))) ∨ ((1 : Int) = 0 ∧ (dgs (M 63) (M 62 1) 5 (M 62 2)) = i + 1) := Or.inl ⟨rfl, by omega, by rw [hv.2.2, nat_s (show i < 5 by omega), hs1, show M 62 2 + i + 1 = M 62 2 + (i + 1) by omega]; omega⟩
            have hb2 := up_lt (G := fun j => M 63 (M 62 2 + j) - 48) (v := M 63 (M 62 2 + i) - 48) i5_2 rfl
            rw [show ((up1 (up1 M 62 (up (up ((up (up (M 62) 2 (M 62 2 + i)) 5 i)) 2 ((M 62 2 + i) + (dgs ((M 63)) ((M 62 1)) 1 ((M 62 2 + i))))) 5 (i + 1))) 64 (up (N) (i) (nmv ((M 63)) ((M 62 2 + i)) (dgs ((M 63)) ((M 62 1)) 1 ((M 62 2 + i))).toNat))) : Mem) = (up1 (up1 M 62 (up (up (M 62) 2 (M 62 2 + (i + 1))) 5 (i + 1))) 64 (up N i (M 63 (M 62 2 + i) - 48))) from (by rw [up4, hn1, hd1, show M 62 2 + i + 1 = M 62 2 + (i + 1) by omega])]
            refine v_istore_n ok [(3, iv 1), (0, rf g 62), (1, iv 1), (2, iv 5), (4, iv d)] dX5_readDigits_20 rfl (by decide) rfl ?_
            refine v_iinc ok 4 [(4, iv (d + 1)), (3, iv 1), (0, rf g 62), (1, iv 1), (2, iv 5)] dX5_readDigits_21 rfl (by decide) rfl ?_
            refine v_goto (tgt := 5) ok dX5_readDigits_24 (by decide) ?_
            refine v_lv (ls' := [(0, rf g 62), (1, iv 1), (2, iv 5), (3, iv 1), (4, iv (d + 1))]) ok [2, 3, 4, 1, 0] rfl ?_
            exact ih5 1 (i + 1) (d + 1) (up N i (M 63 (M 62 2 + i) - 48)) (by omega) hb1 hb2 (by omega)
  rw [show (M : Mem) = (up1 (up1 M 62 (up (up (M 62) 2 (M 62 2 + (0 : Int))) 5 (0 : Int))) 64 (M 64)) from (by rw [Int.add_zero, up_self, show (0 : Int) = M 62 5 from hm0.symm, up_self, up1_self, up1_self])]
  refine v_lv (ls' := [(0, rf g 62), (1, iv 1), (2, iv 5), (3, iv 1), (4, iv 0)]) ok [2, 3, 4, 1, 0] rfl ?_
  exact lp5 _ 1 0 0 (M 64) (by omega) (Or.inl ⟨rfl, rfl, by simp⟩) (fun j _ _ => by omega) (Nat.lt_succ_self _)

set_option maxRecDepth 100000 in
set_option maxHeartbeats 400000 in
theorem ct_X5_readDigits_3_3 (l : Launch) (g : Gl) (M : Mem)  (hL : 0 ≤ M 62 1 ∧ M 62 1 ≤ 100) (hA : 0 ≤ M 62 2 ∧ M 62 2 ≤ 800) (hG : bdf (M 63) 100 0 127) (hm0 : M 62 5 = 0) : Ct l g yX5_readDigits wsX5_readDigits 2 45 [rf g 62, iv 3, iv 3] M (fun rv M' => (∃ (N : Int → Int), rv = some (iv 0) ∧ M' = (up1 (up1 M 62 (up (up (M 62) 2 (M 62 2 + (dgs (M 63) (M 62 1) 3 (M 62 2)))) 5 (dgs (M 63) (M 62 1) 3 (M 62 2)))) 64 N) ∧ ((dgs (M 63) (M 62 1) 3 (M 62 2)) < 3) ∧ (∀ j : Int, 0 ≤ j → j < (dgs (M 63) (M 62 1) 3 (M 62 2)) → N j = M 63 (M 62 2 + j) - 48)) ∨ (∃ (N : Int → Int), rv = some (iv 1) ∧ M' = (up1 (up1 M 62 (up (up (M 62) 2 (M 62 2 + (dgs (M 63) (M 62 1) 3 (M 62 2)))) 5 (dgs (M 63) (M 62 1) 3 (M 62 2)))) 64 N) ∧ (3 ≤ (dgs (M 63) (M 62 1) 3 (M 62 2))) ∧ (∀ j : Int, 0 ≤ j → j < (dgs (M 63) (M 62 1) 3 (M 62 2)) → N j = M 63 (M 62 2 + j) - 48))) := by
  refine Ct.of (cc := cX5_readDigits) (nL := 5) (ret := (some .boolean)) (by decide) rfl (Nat.le_of_ble_eq_true rfl) (fun z hz ok rt => ?_)
  have ok : Ok z g cX5_readDigits 5 RX5 wsX5_readDigits 2 45 := ok
  show V z g 5 M [(0, rf g 62), (1, iv 3), (2, iv 3)] [] 0
  refine v_iconst (n := 1) ok dX5_readDigits_0 ?_
  refine v_istore_n ok [(3, iv 1), (0, rf g 62), (1, iv 3), (2, iv 3)] dX5_readDigits_1 rfl (by decide) rfl ?_
  refine v_iconst (n := 0) ok dX5_readDigits_2 ?_
  refine v_istore ok [(4, iv 0), (3, iv 1), (0, rf g 62), (1, iv 3), (2, iv 3)] dX5_readDigits_3 (by decide) rfl ?_
  have lp5 : ∀ (fu : Nat) (m i d : Int) (N : Int → Int), (0 ≤ i ∧ i ≤ 3 ∧ 0 ≤ d ∧ d ≤ 3) → ((m = 1 ∧ d = i ∧ (dgs (M 63) (M 62 1) 3 (M 62 2)) = i + dgs (M 63) (M 62 1) (3 - i).toNat (M 62 2 + i)) ∨ (m = 0 ∧ (dgs (M 63) (M 62 1) 3 (M 62 2)) = i)) → (∀ j : Int, 0 ≤ j → j < i → N j = M 63 (M 62 2 + j) - 48) → (3 + 1 - d).toNat < fu → V z g 5 (up1 (up1 M 62 (up (up (M 62) 2 (M 62 2 + i)) 5 i)) 64 N) [(0, rf g 62), (1, iv 3), (2, iv 3), (3, iv m), (4, iv d)] [] 5 := by
    intro fu
    induction fu with
    | zero => intro m i d N _ _ _ hm; exact absurd hm (Nat.not_lt_zero _)
    | succ fu ih5 =>
      intro m i d N i5_0 i5_1 i5_2 hm5
      refine v_iload ok 4 dX5_readDigits_5 rfl ?_
      refine v_iload_n ok 2 dX5_readDigits_7 rfl rfl ?_
      refine v_icmp_ge (tgt := 27) ok ⟨by omega, by omega⟩ (by decide) dX5_readDigits_8 (by decide) (fun c1 => ?_) (fun c1 => ?_)
      · skip
        have hD : (dgs (M 63) (M 62 1) 3 (M 62 2)) = i := by
          rcases i5_1 with q | q
          · rw [q.2.2, show (3 - i).toNat = 0 by omega]; simp [dgs]
          · exact q.2
        rw [show ((up1 (up1 M 62 (up (up (M 62) 2 (M 62 2 + i)) 5 i)) 64 N) : Mem) = (up1 (up1 M 62 (up (up (M 62) 2 (M 62 2 + (dgs (M 63) (M 62 1) 3 (M 62 2)))) 5 (dgs (M 63) (M 62 1) 3 (M 62 2)))) 64 N) from (by rw [hD])]
        have hN : ∀ j : Int, 0 ≤ j → j < (dgs (M 63) (M 62 1) 3 (M 62 2)) → N j = M 63 (M 62 2 + j) - 48 := fun j j0 j1 => i5_2 j j0 (by omega)
        refine v_aload_n ok 0 dX5_readDigits_27 rfl rfl ?_
        refine v_get (T := TX5) (N := 6) (f0 := (up (up (M 62) 2 (M 62 2 + (dgs (M 63) (M 62 1) 3 (M 62 2)))) 5 (dgs (M 63) (M 62 1) 3 (M 62 2)))) (v := iv (dgs (M 63) (M 62 1) 3 (M 62 2))) ok mi_X5_readDigits_5 (kd_lt (show kd 62 = 5 from rfl) (by decide)) rfl rfl (cellF_5 _ (by decide)) 5 (by decide) mk_X5_readDigits_28 rfl rfl dX5_readDigits_28 ?_
        refine v_iload_n ok 1 dX5_readDigits_31 rfl rfl ?_
        refine v_icmp_lt (tgt := 39) ok ⟨by omega, by omega⟩ (by decide) dX5_readDigits_32 (by decide) (fun c2 => ?_) (fun c2 => ?_)
        · skip
          refine v_iconst (n := 0) ok dX5_readDigits_39 ?_
          exact v_zret ok rt (by omega) dX5_readDigits_40 (Or.inl (⟨N, rfl, rfl, (by omega), hN⟩))
        · skip
          refine v_iconst (n := 1) ok dX5_readDigits_35 ?_
          refine v_goto (tgt := 40) ok dX5_readDigits_36 (by decide) ?_
          exact v_zret ok rt (by omega) dX5_readDigits_40 (Or.inr (⟨N, rfl, rfl, (by omega), hN⟩))
      · skip
        refine v_iload_n ok 3 dX5_readDigits_11 rfl rfl ?_
        refine v_if_eq (tgt := 27) ok ⟨by omega, by omega⟩ dX5_readDigits_12 (by decide) (fun c3 => ?_) (fun c3 => ?_)
        · skip
          have hD : (dgs (M 63) (M 62 1) 3 (M 62 2)) = i := by omega
          rw [show ((up1 (up1 M 62 (up (up (M 62) 2 (M 62 2 + i)) 5 i)) 64 N) : Mem) = (up1 (up1 M 62 (up (up (M 62) 2 (M 62 2 + (dgs (M 63) (M 62 1) 3 (M 62 2)))) 5 (dgs (M 63) (M 62 1) 3 (M 62 2)))) 64 N) from (by rw [hD])]
          have hN : ∀ j : Int, 0 ≤ j → j < (dgs (M 63) (M 62 1) 3 (M 62 2)) → N j = M 63 (M 62 2 + j) - 48 := fun j j0 j1 => i5_2 j j0 (by omega)
          refine v_aload_n ok 0 dX5_readDigits_27 rfl rfl ?_
          refine v_get (T := TX5) (N := 6) (f0 := (up (up (M 62) 2 (M 62 2 + (dgs (M 63) (M 62 1) 3 (M 62 2)))) 5 (dgs (M 63) (M 62 1) 3 (M 62 2)))) (v := iv (dgs (M 63) (M 62 1) 3 (M 62 2))) ok mi_X5_readDigits_5 (kd_lt (show kd 62 = 5 from rfl) (by decide)) rfl rfl (cellF_5 _ (by decide)) 5 (by decide) mk_X5_readDigits_28 rfl rfl dX5_readDigits_28 ?_
          refine v_iload_n ok 1 dX5_readDigits_31 rfl rfl ?_
          refine v_icmp_lt (tgt := 39) ok ⟨by omega, by omega⟩ (by decide) dX5_readDigits_32 (by decide) (fun c4 => ?_) (fun c4 => ?_)
          · skip
            refine v_iconst (n := 0) ok dX5_readDigits_39 ?_
            exact v_zret ok rt (by omega) dX5_readDigits_40 (Or.inl (⟨N, rfl, rfl, (by omega), hN⟩))
          · skip
            refine v_iconst (n := 1) ok dX5_readDigits_35 ?_
            refine v_goto (tgt := 40) ok dX5_readDigits_36 (by decide) ?_
            exact v_zret ok rt (by omega) dX5_readDigits_40 (Or.inr (⟨N, rfl, rfl, (by omega), hN⟩))
        · skip
          have hv : m = 1 ∧ d = i ∧ (dgs (M 63) (M 62 1) 3 (M 62 2)) = i + dgs (M 63) (M 62 1) (3 - i).toNat (M 62 2 + i) := by
            rcases i5_1 with q | q
            · exact q
            · omega
          refine v_aload_n ok 0 dX5_readDigits_15 rfl rfl ?_
          refine v_iconst (n := 1) ok dX5_readDigits_16 ?_
          refine v_callV (na := 1) (i := 62) (C := RX5) (T := TX5) (N := 6) (f0 := (up (up (M 62) 2 (M 62 2 + i)) 5 i)) ok (ct_X5_readNumber_1 z.2.1 g (up1 (up1 M 62 (up (up (M 62) 2 (M 62 2 + i)) 5 i)) 64 N)  (by show 0 ≤ (M 62 1) ∧ (M 62 1) ≤ 100; first | omega | assumption) (by show 0 ≤ (M 62 2 + i) ∧ (M 62 2 + i) ≤ 900; first | omega | assumption) (by show bdf ((M 63)) 100 0 127; first | omega | assumption) (by show 0 ≤ i ∧ i < 12; first | omega | assumption)) gX5_readDigits_X5_readNumber (kd_lt (show kd 62 = 5 from rfl) (by decide)) rfl rfl (cellF_5 _ (by decide)) rfl (by decide +kernel) rfl (by decide) [] rfl (Nat.le_of_ble_eq_true rfl) dX5_readDigits_17 (fun v6 M7 hp5 => ?_)
          rcases hp5 with ⟨rfl, rfl, h8⟩ | ⟨rfl, rfl, h9⟩
          · skip
            have h8 : (dgs ((M 63)) ((M 62 1)) 1 ((M 62 2 + i))) = 0 := h8
            show V z g 5 (up1 (up1 (up1 M 62 (up (up (M 62) 2 (M 62 2 + i)) 5 i)) 64 N) 62 (up ((up (up (M 62) 2 (M 62 2 + i)) 5 i)) 2 ((M 62 2 + i) + (dgs ((M 63)) ((M 62 1)) 1 ((M 62 2 + i)))))) [(0, rf g 62), (1, iv 3), (2, iv 3), (3, iv m), (4, iv d)] [iv 0] 20
            rw [show ((up1 (up1 (up1 M 62 (up (up (M 62) 2 (M 62 2 + i)) 5 i)) 64 N) 62 (up ((up (up (M 62) 2 (M 62 2 + i)) 5 i)) 2 ((M 62 2 + i) + (dgs ((M 63)) ((M 62 1)) 1 ((M 62 2 + i)))))) : Mem) = (up1 (up1 M 62 (up ((up (up (M 62) 2 (M 62 2 + i)) 5 i)) 2 ((M 62 2 + i) + (dgs ((M 63)) ((M 62 1)) 1 ((M 62 2 + i)))))) 64 N) from (by
                  funext j
                  by_cases hj0 : j = 62
                  · subst hj0; simp [up1, up1_self]
                  by_cases hj1 : j = 64
                  · subst hj1; simp [up1, up1_self]
                  simp [up1, hj0, hj1])]
            have hz := dgs_1f h8
            have hb1 : ((0 : Int) = 1 ∧ d + 1 = i ∧ (dgs (M 63) (M 62 1) 3 (M 62 2)) = i + dgs (M 63) (M 62 1) (3 - i).toNat (M 62 2 + i)) ∨ ((0 : Int) = 0 ∧ (dgs (M 63) (M 62 1) 3 (M 62 2)) = i) := Or.inr ⟨rfl, by rw [hv.2.2, hz, Int.add_zero]⟩
            have hb2 := i5_2
            rw [show ((up1 (up1 M 62 (up ((up (up (M 62) 2 (M 62 2 + i)) 5 i)) 2 ((M 62 2 + i) + (dgs ((M 63)) ((M 62 1)) 1 ((M 62 2 + i)))))) 64 N) : Mem) = (up1 (up1 M 62 (up (up (M 62) 2 (M 62 2 + i)) 5 i)) 64 N) from (by rw [up3, h8, Int.add_zero])]
            refine v_istore_n ok [(3, iv 0), (0, rf g 62), (1, iv 3), (2, iv 3), (4, iv d)] dX5_readDigits_20 rfl (by decide) rfl ?_
            refine v_iinc ok 4 [(4, iv (d + 1)), (3, iv 0), (0, rf g 62), (1, iv 3), (2, iv 3)] dX5_readDigits_21 rfl (by decide) rfl ?_
            refine v_goto (tgt := 5) ok dX5_readDigits_24 (by decide) ?_
            refine v_lv (ls' := [(0, rf g 62), (1, iv 3), (2, iv 3), (3, iv 0), (4, iv (d + 1))]) ok [2, 3, 4, 1, 0] rfl ?_
            exact ih5 0 i (d + 1) N (by omega) hb1 hb2 (by omega)
          · skip
            have h9 : 0 < (dgs ((M 63)) ((M 62 1)) 1 ((M 62 2 + i))) := h9
            show V z g 5 (up1 (up1 (up1 (up1 M 62 (up (up (M 62) 2 (M 62 2 + i)) 5 i)) 64 N) 62 (up (up ((up (up (M 62) 2 (M 62 2 + i)) 5 i)) 2 ((M 62 2 + i) + (dgs ((M 63)) ((M 62 1)) 1 ((M 62 2 + i))))) 5 (i + 1))) 64 (up (N) (i) (nmv ((M 63)) ((M 62 2 + i)) (dgs ((M 63)) ((M 62 1)) 1 ((M 62 2 + i))).toNat))) [(0, rf g 62), (1, iv 3), (2, iv 3), (3, iv m), (4, iv d)] [iv 1] 20
            rw [show ((up1 (up1 (up1 (up1 M 62 (up (up (M 62) 2 (M 62 2 + i)) 5 i)) 64 N) 62 (up (up ((up (up (M 62) 2 (M 62 2 + i)) 5 i)) 2 ((M 62 2 + i) + (dgs ((M 63)) ((M 62 1)) 1 ((M 62 2 + i))))) 5 (i + 1))) 64 (up (N) (i) (nmv ((M 63)) ((M 62 2 + i)) (dgs ((M 63)) ((M 62 1)) 1 ((M 62 2 + i))).toNat))) : Mem) = (up1 (up1 M 62 (up (up ((up (up (M 62) 2 (M 62 2 + i)) 5 i)) 2 ((M 62 2 + i) + (dgs ((M 63)) ((M 62 1)) 1 ((M 62 2 + i))))) 5 (i + 1))) 64 (up (N) (i) (nmv ((M 63)) ((M 62 2 + i)) (dgs ((M 63)) ((M 62 1)) 1 ((M 62 2 + i))).toNat))) from (by
                  funext j
                  by_cases hj0 : j = 62
                  · subst hj0; simp [up1, up1_self]
                  by_cases hj1 : j = 64
                  · subst hj1; simp [up1, up1_self]
                  simp [up1, hj0, hj1])]
            obtain ⟨hd1, hn1, hs1⟩ := dgs_1t h9
            have hb1 : ((1 : Int) = 1 ∧ d + 1 = i + 1 ∧ (dgs (M 63) (M 62 1) 3 (M 62 2)) = i + 1 + dgs (M 63) (M 62 1) (3 - (i + 1)).toNat (M 62 2 + (i + 1))) ∨ ((1 : Int) = 0 ∧ (dgs (M 63) (M 62 1) 3 (M 62 2)) = i + 1) := Or.inl ⟨rfl, by omega, by rw [hv.2.2, nat_s (show i < 3 by omega), hs1, show M 62 2 + i + 1 = M 62 2 + (i + 1) by omega]; omega⟩
            have hb2 := up_lt (G := fun j => M 63 (M 62 2 + j) - 48) (v := M 63 (M 62 2 + i) - 48) i5_2 rfl
            rw [show ((up1 (up1 M 62 (up (up ((up (up (M 62) 2 (M 62 2 + i)) 5 i)) 2 ((M 62 2 + i) + (dgs ((M 63)) ((M 62 1)) 1 ((M 62 2 + i))))) 5 (i + 1))) 64 (up (N) (i) (nmv ((M 63)) ((M 62 2 + i)) (dgs ((M 63)) ((M 62 1)) 1 ((M 62 2 + i))).toNat))) : Mem) = (up1 (up1 M 62 (up (up (M 62) 2 (M 62 2 + (i + 1))) 5 (i + 1))) 64 (up N i (M 63 (M 62 2 + i) - 48))) from (by rw [up4, hn1, hd1, show M 62 2 + i + 1 = M 62 2 + (i + 1) by omega])]
            refine v_istore_n ok [(3, iv 1), (0, rf g 62), (1, iv 3), (2, iv 3), (4, iv d)] dX5_readDigits_20 rfl (by decide) rfl ?_
            refine v_iinc ok 4 [(4, iv (d + 1)), (3, iv 1), (0, rf g 62), (1, iv 3), (2, iv 3)] dX5_readDigits_21 rfl (by decide) rfl ?_
            refine v_goto (tgt := 5) ok dX5_readDigits_24 (by decide) ?_
            refine v_lv (ls' := [(0, rf g 62), (1, iv 3), (2, iv 3), (3, iv 1), (4, iv (d + 1))]) ok [2, 3, 4, 1, 0] rfl ?_
            exact ih5 1 (i + 1) (d + 1) (up N i (M 63 (M 62 2 + i) - 48)) (by omega) hb1 hb2 (by omega)
  rw [show (M : Mem) = (up1 (up1 M 62 (up (up (M 62) 2 (M 62 2 + (0 : Int))) 5 (0 : Int))) 64 (M 64)) from (by rw [Int.add_zero, up_self, show (0 : Int) = M 62 5 from hm0.symm, up_self, up1_self, up1_self])]
  refine v_lv (ls' := [(0, rf g 62), (1, iv 3), (2, iv 3), (3, iv 1), (4, iv 0)]) ok [2, 3, 4, 1, 0] rfl ?_
  exact lp5 _ 1 0 0 (M 64) (by omega) (Or.inl ⟨rfl, rfl, by simp⟩) (fun j _ _ => by omega) (Nat.lt_succ_self _)
