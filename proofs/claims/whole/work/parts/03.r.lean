set_option maxRecDepth 100000 in
set_option maxHeartbeats 400000 in
theorem ct_X5_readNumbers_8 (l : Launch) (g : Gl) (M : Mem)  (hL : 0 ≤ M 62 1 ∧ M 62 1 ≤ 100) (hA : 0 ≤ M 62 2 ∧ M 62 2 ≤ 800) (hG : bdf (M 63) 100 0 127) (hm0 : M 62 5 = 0) : Ct l g yX5_readNumbers wsX5_readNumbers 2 45 [rf g 62, iv 8] M (fun rv M' => ∃ (N : Int → Int), rv = some (iv (nrd (M 63) (M 62 1) (M 62 2) 8 0).1) ∧ M' = (up1 (up1 M 62 (up (up (M 62) 2 (nrd (M 63) (M 62 1) (M 62 2) 8 0).2.1) 5 (nrd (M 63) (M 62 1) (M 62 2) 8 0).2.2)) 64 N) ∧ (∀ j : Int, 0 ≤ j → j < (nrd (M 63) (M 62 1) (M 62 2) 8 0).2.2 → N j = nmv (M 63) (nst (M 63) (M 62 1) (M 62 2) j.toNat) (dgs (M 63) (M 62 1) 3 (nst (M 63) (M 62 1) (M 62 2) j.toNat)).toNat)) := by
  refine Ct.of (cc := cX5_readNumbers) (nL := 4) (ret := (some .boolean)) (by decide) rfl (Nat.le_of_ble_eq_true rfl) (fun z hz ok rt => ?_)
  have ok : Ok z g cX5_readNumbers 4 RX5 wsX5_readNumbers 2 45 := ok
  show V z g 4 M [(0, rf g 62), (1, iv 8)] [] 0
  refine v_aload_n ok 0 dX5_readNumbers_0 rfl rfl ?_
  refine v_iconst (n := 3) ok dX5_readNumbers_1 ?_
  refine v_callV (na := 1) (i := 62) (C := RX5) (T := TX5) (N := 6) (f0 := (M 62)) ok (ct_X5_readNumber_3 z.2.1 g M  (by first | omega | assumption) (by first | omega | assumption) (by first | omega | assumption) (by first | omega | assumption)) gX5_readNumbers_X5_readNumber (kd_lt (show kd 62 = 5 from rfl) (by decide)) rfl rfl (cellF_5 _ (by decide)) rfl (by decide +kernel) rfl (by decide) [] rfl (Nat.le_of_ble_eq_true rfl) dX5_readNumbers_2 (fun v2 M3 hp1 => ?_)
  rcases hp1 with ⟨rfl, rfl, h4⟩ | ⟨rfl, rfl, h5⟩
  · skip
    have h4 : (dgs ((M 63)) ((M 62) 1) 3 ((M 62) 2)) = 0 := h4
    show V z g 4 (up1 M 62 (up ((M 62)) 2 ((M 62) 2 + (dgs ((M 63)) ((M 62) 1) 3 ((M 62) 2))))) [(0, rf g 62), (1, iv 8)] [iv 0] 5
    have hrg := dgs_rng (T := M 63) (L := M 62 1) 3 (M 62 2)
    have hz := h4
    have hR0 : (nrd (M 63) (M 62 1) (M 62 2) 8 0) = (0, (M 62 2), 0) := by rw [nrd_f (i := 0) (k := 7) hz]; rfl
    have hb1 : ((0 : Int) = 1 ∧ (0 : Int) = (1 : Int) ∧ (M 62 2 + (dgs (M 63) (M 62 1) 3 (M 62 2))) = (nst (M 63) (M 62 1) (M 62 2) ((1 : Int) - 1).toNat) + (dgs (M 63) (M 62 1) 3 (nst (M 63) (M 62 1) (M 62 2) ((1 : Int) - 1).toNat)) ∧ 0 < (dgs (M 63) (M 62 1) 3 (nst (M 63) (M 62 1) (M 62 2) ((1 : Int) - 1).toNat)) ∧ (nrd (M 63) (M 62 1) (M 62 2) 8 0) = nrd (M 63) (M 62 1) (M 62 2) (8 - (1 : Int) + 1).toNat ((1 : Int) - 1).toNat) ∨ ((0 : Int) = 0 ∧ (nrd (M 63) (M 62 1) (M 62 2) 8 0) = (0, (M 62 2 + (dgs (M 63) (M 62 1) 3 (M 62 2))), (0 : Int))) := Or.inr ⟨rfl, by rw [hR0, hz, Int.add_zero]⟩
    have hb0 : (1 : Int) ≤ 1 ∧ (1 : Int) ≤ 8 ∧ (0 : Int) ≤ 0 ∧ (0 : Int) ≤ 1 ∧ 0 ≤ M 62 2 + (dgs (M 63) (M 62 1) 3 (M 62 2)) ∧ M 62 2 + (dgs (M 63) (M 62 1) 3 (M 62 2)) ≤ 801 := by omega
    have hb2 : ∀ j : Int, 0 ≤ j → j < (0 : Int) → M 64 j = nmv (M 63) (nst (M 63) (M 62 1) (M 62 2) j.toNat) (dgs (M 63) (M 62 1) 3 (nst (M 63) (M 62 1) (M 62 2) j.toNat)).toNat := fun j j0 j1 => by omega
    have hb3 : (0 : Int) = 1 → M 62 2 + (dgs (M 63) (M 62 1) 3 (M 62 2)) ≤ 100 := by omega
    rw [show ((up1 M 62 (up ((M 62)) 2 ((M 62) 2 + (dgs ((M 63)) ((M 62) 1) 3 ((M 62) 2))))) : Mem) = (up1 (up1 M 62 (up (up (M 62) 2 (M 62 2 + (dgs (M 63) (M 62 1) 3 (M 62 2)))) 5 0)) 64 (M 64)) from (zz_a hm0)]
    refine v_istore_n ok [(2, iv 0), (0, rf g 62), (1, iv 8)] dX5_readNumbers_5 rfl (by decide) rfl ?_
    refine v_iconst (n := 1) ok dX5_readNumbers_6 ?_
    refine v_istore_n ok [(3, iv 1), (2, iv 0), (0, rf g 62), (1, iv 8)] dX5_readNumbers_7 rfl (by decide) rfl ?_
    have lp8 : ∀ (fu : Nat) (w n e c : Int) (N : Int → Int), (1 ≤ n ∧ n ≤ 8 ∧ 0 ≤ c ∧ c ≤ n ∧ 0 ≤ e ∧ e ≤ 801) → ((w = 1 ∧ c = n ∧ e = (nst (M 63) (M 62 1) (M 62 2) (n - 1).toNat) + (dgs (M 63) (M 62 1) 3 (nst (M 63) (M 62 1) (M 62 2) (n - 1).toNat)) ∧ 0 < (dgs (M 63) (M 62 1) 3 (nst (M 63) (M 62 1) (M 62 2) (n - 1).toNat)) ∧ (nrd (M 63) (M 62 1) (M 62 2) 8 0) = nrd (M 63) (M 62 1) (M 62 2) (8 - n + 1).toNat (n - 1).toNat) ∨ (w = 0 ∧ (nrd (M 63) (M 62 1) (M 62 2) 8 0) = (0, e, c))) → (∀ j : Int, 0 ≤ j → j < c → N j = nmv (M 63) (nst (M 63) (M 62 1) (M 62 2) j.toNat) (dgs (M 63) (M 62 1) 3 (nst (M 63) (M 62 1) (M 62 2) j.toNat)).toNat) → (w = 1 → e ≤ 100) → (8 + 1 - n).toNat < fu → V z g 4 (up1 (up1 M 62 (up (up (M 62) 2 e) 5 c)) 64 N) [(0, rf g 62), (1, iv 8), (2, iv w), (3, iv n)] [] 8 := by
      intro fu
      induction fu with
      | zero => intro w n e c N _ _ _ _ hm; exact absurd hm (Nat.not_lt_zero _)
      | succ fu ih8 =>
        intro w n e c N i8_0 i8_1 i8_2 i8_3 hm8
        refine v_iload_n ok 3 dX5_readNumbers_8 rfl rfl ?_
        refine v_iload_n ok 1 dX5_readNumbers_9 rfl rfl ?_
        refine v_icmp_ge (tgt := 38) ok ⟨by omega, by omega⟩ (by decide) dX5_readNumbers_10 (by decide) (fun c6 => ?_) (fun c6 => ?_)
        · skip
          have hR : (nrd (M 63) (M 62 1) (M 62 2) 8 0) = (w, e, c) := by
            rcases i8_1 with q | q
            · rw [q.2.2.2.2, show (8 - n + 1).toNat = 0 + 1 by omega, nrd_e q.2.2.2.1 (Or.inl rfl), ← q.2.2.1, q.1, q.2.1]
              congr 2
              omega
            · rw [q.2, q.1]
          have hN : ∀ j : Int, 0 ≤ j → j < (nrd (M 63) (M 62 1) (M 62 2) 8 0).2.2 → N j = nmv (M 63) (nst (M 63) (M 62 1) (M 62 2) j.toNat) (dgs (M 63) (M 62 1) 3 (nst (M 63) (M 62 1) (M 62 2) j.toNat)).toNat := by
            rw [hR]
            exact i8_2
          refine v_iload_n ok 2 dX5_readNumbers_38 rfl rfl ?_
          exact v_zret ok rt (by (have h01 : w = 0 ∨ w = 1 := (by omega); exact h01)) dX5_readNumbers_39 (⟨N, (congrArg (fun q : Int => some (iv q)) (show w = (nrd (M 63) (M 62 1) (M 62 2) 8 0).1 from by (rw [hR]))), (by rw [hR]), hN⟩)
        · skip
          refine v_iload_n ok 2 dX5_readNumbers_13 rfl rfl ?_
          refine v_if_eq (tgt := 38) ok ⟨by omega, by omega⟩ dX5_readNumbers_14 (by decide) (fun c7 => ?_) (fun c7 => ?_)
          · skip
            have hR : (nrd (M 63) (M 62 1) (M 62 2) 8 0) = (w, e, c) := by
              rcases i8_1 with q | q
              · omega
              · rw [q.2, q.1]
            have hN : ∀ j : Int, 0 ≤ j → j < (nrd (M 63) (M 62 1) (M 62 2) 8 0).2.2 → N j = nmv (M 63) (nst (M 63) (M 62 1) (M 62 2) j.toNat) (dgs (M 63) (M 62 1) 3 (nst (M 63) (M 62 1) (M 62 2) j.toNat)).toNat := by
              rw [hR]
              exact i8_2
            refine v_iload_n ok 2 dX5_readNumbers_38 rfl rfl ?_
            exact v_zret ok rt (by (have h01 : w = 0 ∨ w = 1 := (by omega); exact h01)) dX5_readNumbers_39 (⟨N, (congrArg (fun q : Int => some (iv q)) (show w = (nrd (M 63) (M 62 1) (M 62 2) 8 0).1 from by (rw [hR]))), (by rw [hR]), hN⟩)
          · skip
            have hv : w = 1 ∧ c = n ∧ e = (nst (M 63) (M 62 1) (M 62 2) (n - 1).toNat) + (dgs (M 63) (M 62 1) 3 (nst (M 63) (M 62 1) (M 62 2) (n - 1).toNat)) ∧ 0 < (dgs (M 63) (M 62 1) 3 (nst (M 63) (M 62 1) (M 62 2) (n - 1).toNat)) ∧ (nrd (M 63) (M 62 1) (M 62 2) 8 0) = nrd (M 63) (M 62 1) (M 62 2) (8 - n + 1).toNat (n - 1).toNat := by
              rcases i8_1 with q | q
              · exact q
              · omega
            have he1 := i8_3 hv.1
            refine v_aload_n ok 0 dX5_readNumbers_17 rfl rfl ?_
            refine v_bipush (n := 44) ok rfl dX5_readNumbers_18 ?_
            refine v_callV (na := 1) (i := 62) (C := RX5) (T := TX5) (N := 6) (f0 := (up (up (M 62) 2 e) 5 c)) ok (ct_X5_stepOver z.2.1 g (up1 (up1 M 62 (up (up (M 62) 2 e) 5 c)) 64 N) 44 (by show 0 ≤ (M 62 1) ∧ (M 62 1) ≤ 100; first | omega | assumption) (by show 0 ≤ e ∧ e ≤ 1000; first | omega | assumption) (by show bdf ((M 63)) 100 0 127; first | omega | assumption) (by decide)) gX5_readNumbers_X5_stepOver (kd_lt (show kd 62 = 5 from rfl) (by decide)) rfl rfl (cellF_5 _ (by decide)) rfl (by decide +kernel) rfl (by decide) [] rfl (Nat.le_of_ble_eq_true rfl) dX5_readNumbers_20 (fun v9 M10 hp8 => ?_)
            rcases hp8 with ⟨rfl, rfl, h11⟩ | ⟨rfl, rfl, h12⟩
            · skip
              have h11 : (sgn ((M 63)) ((M 62 1)) (e)) ≠ 44 := h11
              show V z g 4 (up1 (up1 M 62 (up (up (M 62) 2 e) 5 c)) 64 N) [(0, rf g 62), (1, iv 8), (2, iv w), (3, iv n)] [iv 0] 23
              have hR : (nrd (M 63) (M 62 1) (M 62 2) 8 0) = (w, e, c) := by
                rw [hv.2.2.2.2, show (8 - n + 1).toNat = (8 - n).toNat + 1 by omega, nrd_e hv.2.2.2.1 (Or.inr (by rw [← hv.2.2.1]; exact h11)), ← hv.2.2.1, hv.1, hv.2.1]
                congr 2
                omega
              refine v_if_eq (tgt := 38) ok (by decide) dX5_readNumbers_23 (by decide) (fun c13 => ?_) (fun c13 => absurd c13 (by decide))
              have hN : ∀ j : Int, 0 ≤ j → j < (nrd (M 63) (M 62 1) (M 62 2) 8 0).2.2 → N j = nmv (M 63) (nst (M 63) (M 62 1) (M 62 2) j.toNat) (dgs (M 63) (M 62 1) 3 (nst (M 63) (M 62 1) (M 62 2) j.toNat)).toNat := by
                rw [hR]
                exact i8_2
              refine v_iload_n ok 2 dX5_readNumbers_38 rfl rfl ?_
              exact v_zret ok rt (by (have h01 : w = 0 ∨ w = 1 := (by omega); exact h01)) dX5_readNumbers_39 (⟨N, (congrArg (fun q : Int => some (iv q)) (show w = (nrd (M 63) (M 62 1) (M 62 2) 8 0).1 from by (rw [hR]))), (by rw [hR]), hN⟩)
            · skip
              have h12 : (sgn ((M 63)) ((M 62 1)) (e)) = 44 := h12
              show V z g 4 (up1 (up1 (up1 M 62 (up (up (M 62) 2 e) 5 c)) 64 N) 62 (up ((up (up (M 62) 2 e) 5 c)) 2 (e + 1))) [(0, rf g 62), (1, iv 8), (2, iv w), (3, iv n)] [iv 1] 23
              rw [show ((up1 (up1 (up1 M 62 (up (up (M 62) 2 e) 5 c)) 64 N) 62 (up ((up (up (M 62) 2 e) 5 c)) 2 (e + 1))) : Mem) = (up1 (up1 M 62 (up ((up (up (M 62) 2 e) 5 c)) 2 (e + 1))) 64 N) from (by
                    funext j
                    by_cases hj0 : j = 62
                    · subst hj0; simp [up1, up1_self]
                    by_cases hj1 : j = 64
                    · subst hj1; simp [up1, up1_self]
                    simp [up1, hj0, hj1])]
              have hcm := h12
              have hn1 : (n - 1).toNat + 1 = n.toNat := by omega
              have hst : (nst (M 63) (M 62 1) (M 62 2) n.toNat) = e + 1 := by
                rw [← hn1, nst, ← hv.2.2.1]
              have hRn : (nrd (M 63) (M 62 1) (M 62 2) 8 0) = nrd (M 63) (M 62 1) (M 62 2) (8 - n).toNat n.toNat := by
                rw [hv.2.2.2.2, show (8 - n + 1).toNat = (8 - n).toNat + 1 by omega, nrd_n hv.2.2.2.1 (by omega) (by rw [← hv.2.2.1]; exact hcm), hn1]
              have hrg := dgs_rng (T := M 63) (L := M 62 1) 3 (e + 1)
              rw [show ((up1 (up1 M 62 (up ((up (up (M 62) 2 e) 5 c)) 2 (e + 1))) 64 N) : Mem) = (up1 (up1 M 62 (up (up (M 62) 2 (e + 1)) 5 c)) 64 N) from (by rw [up3])]
              refine v_if_eq (tgt := 38) ok (by decide) dX5_readNumbers_23 (by decide) (fun c14 => absurd c14 (by decide)) (fun c14 => ?_)
              refine v_aload_n ok 0 dX5_readNumbers_26 rfl rfl ?_
              refine v_iconst (n := 3) ok dX5_readNumbers_27 ?_
              refine v_callV (na := 1) (i := 62) (C := RX5) (T := TX5) (N := 6) (f0 := (up (up (M 62) 2 (e + 1)) 5 c)) ok (ct_X5_readNumber_3 z.2.1 g (up1 (up1 M 62 (up (up (M 62) 2 (e + 1)) 5 c)) 64 N)  (by show 0 ≤ (M 62 1) ∧ (M 62 1) ≤ 100; first | omega | assumption) (by show 0 ≤ (e + 1) ∧ (e + 1) ≤ 900; first | omega | assumption) (by show bdf ((M 63)) 100 0 127; first | omega | assumption) (by show 0 ≤ c ∧ c < 12; first | omega | assumption)) gX5_readNumbers_X5_readNumber (kd_lt (show kd 62 = 5 from rfl) (by decide)) rfl rfl (cellF_5 _ (by decide)) rfl (by decide +kernel) rfl (by decide) [] rfl (Nat.le_of_ble_eq_true rfl) dX5_readNumbers_28 (fun v16 M17 hp15 => ?_)
              rcases hp15 with ⟨rfl, rfl, h18⟩ | ⟨rfl, rfl, h19⟩
              · skip
                have h18 : (dgs ((M 63)) ((M 62 1)) 3 ((e + 1))) = 0 := h18
                show V z g 4 (up1 (up1 (up1 M 62 (up (up (M 62) 2 (e + 1)) 5 c)) 64 N) 62 (up ((up (up (M 62) 2 (e + 1)) 5 c)) 2 ((e + 1) + (dgs ((M 63)) ((M 62 1)) 3 ((e + 1)))))) [(0, rf g 62), (1, iv 8), (2, iv w), (3, iv n)] [iv 0] 31
                rw [show ((up1 (up1 (up1 M 62 (up (up (M 62) 2 (e + 1)) 5 c)) 64 N) 62 (up ((up (up (M 62) 2 (e + 1)) 5 c)) 2 ((e + 1) + (dgs ((M 63)) ((M 62 1)) 3 ((e + 1)))))) : Mem) = (up1 (up1 M 62 (up ((up (up (M 62) 2 (e + 1)) 5 c)) 2 ((e + 1) + (dgs ((M 63)) ((M 62 1)) 3 ((e + 1)))))) 64 N) from (by
                      funext j
                      by_cases hj0 : j = 62
                      · subst hj0; simp [up1, up1_self]
                      by_cases hj1 : j = 64
                      · subst hj1; simp [up1, up1_self]
                      simp [up1, hj0, hj1])]
                have hz := h18
                have hb1 : ((0 : Int) = 1 ∧ c = (n + 1) ∧ (e + 1 + (dgs (M 63) (M 62 1) 3 (e + 1))) = (nst (M 63) (M 62 1) (M 62 2) ((n + 1) - 1).toNat) + (dgs (M 63) (M 62 1) 3 (nst (M 63) (M 62 1) (M 62 2) ((n + 1) - 1).toNat)) ∧ 0 < (dgs (M 63) (M 62 1) 3 (nst (M 63) (M 62 1) (M 62 2) ((n + 1) - 1).toNat)) ∧ (nrd (M 63) (M 62 1) (M 62 2) 8 0) = nrd (M 63) (M 62 1) (M 62 2) (8 - (n + 1) + 1).toNat ((n + 1) - 1).toNat) ∨ ((0 : Int) = 0 ∧ (nrd (M 63) (M 62 1) (M 62 2) 8 0) = (0, (e + 1 + (dgs (M 63) (M 62 1) 3 (e + 1))), c)) := Or.inr ⟨rfl, by
                  rw [hRn, show (8 - n).toNat = (8 - n - 1).toNat + 1 by omega, nrd_f (by rw [hst]; exact hz), hst, hz, Int.add_zero, hv.2.1, Int.toNat_of_nonneg (by omega)]⟩
                have hb0 : 1 ≤ n + 1 ∧ n + 1 ≤ 8 ∧ 0 ≤ c ∧ c ≤ n + 1 ∧ 0 ≤ e + 1 + (dgs (M 63) (M 62 1) 3 (e + 1)) ∧ e + 1 + (dgs (M 63) (M 62 1) 3 (e + 1)) ≤ 801 := by omega
                have hb2 := i8_2
                have hb3 : (0 : Int) = 1 → e + 1 + (dgs (M 63) (M 62 1) 3 (e + 1)) ≤ 100 := by omega
                rw [show ((up1 (up1 M 62 (up ((up (up (M 62) 2 (e + 1)) 5 c)) 2 ((e + 1) + (dgs ((M 63)) ((M 62 1)) 3 ((e + 1)))))) 64 N) : Mem) = (up1 (up1 M 62 (up (up (M 62) 2 (e + 1 + (dgs (M 63) (M 62 1) 3 (e + 1)))) 5 c)) 64 N) from (by rw [up3])]
                refine v_istore_n ok [(2, iv 0), (0, rf g 62), (1, iv 8), (3, iv n)] dX5_readNumbers_31 rfl (by decide) rfl ?_
                refine v_iinc ok 3 [(3, iv (n + 1)), (2, iv 0), (0, rf g 62), (1, iv 8)] dX5_readNumbers_32 rfl (by decide) rfl ?_
                refine v_goto (tgt := 8) ok dX5_readNumbers_35 (by decide) ?_
                refine v_lv (ls' := [(0, rf g 62), (1, iv 8), (2, iv 0), (3, iv (n + 1))]) ok [2, 3, 1, 0] rfl ?_
                exact ih8 0 (n + 1) (e + 1 + (dgs (M 63) (M 62 1) 3 (e + 1))) c N hb0 hb1 hb2 hb3 (by omega)
              · skip
                have h19 : 0 < (dgs ((M 63)) ((M 62 1)) 3 ((e + 1))) := h19
                show V z g 4 (up1 (up1 (up1 (up1 M 62 (up (up (M 62) 2 (e + 1)) 5 c)) 64 N) 62 (up (up ((up (up (M 62) 2 (e + 1)) 5 c)) 2 ((e + 1) + (dgs ((M 63)) ((M 62 1)) 3 ((e + 1))))) 5 (c + 1))) 64 (up (N) (c) (nmv ((M 63)) ((e + 1)) (dgs ((M 63)) ((M 62 1)) 3 ((e + 1))).toNat))) [(0, rf g 62), (1, iv 8), (2, iv w), (3, iv n)] [iv 1] 31
                rw [show ((up1 (up1 (up1 (up1 M 62 (up (up (M 62) 2 (e + 1)) 5 c)) 64 N) 62 (up (up ((up (up (M 62) 2 (e + 1)) 5 c)) 2 ((e + 1) + (dgs ((M 63)) ((M 62 1)) 3 ((e + 1))))) 5 (c + 1))) 64 (up (N) (c) (nmv ((M 63)) ((e + 1)) (dgs ((M 63)) ((M 62 1)) 3 ((e + 1))).toNat))) : Mem) = (up1 (up1 M 62 (up (up ((up (up (M 62) 2 (e + 1)) 5 c)) 2 ((e + 1) + (dgs ((M 63)) ((M 62 1)) 3 ((e + 1))))) 5 (c + 1))) 64 (up (N) (c) (nmv ((M 63)) ((e + 1)) (dgs ((M 63)) ((M 62 1)) 3 ((e + 1))).toNat))) from (by
                      funext j
                      by_cases hj0 : j = 62
                      · subst hj0; simp [up1, up1_self]
                      by_cases hj1 : j = 64
                      · subst hj1; simp [up1, up1_self]
                      simp [up1, hj0, hj1])]
                have hz := h19
                have hb1 : ((1 : Int) = 1 ∧ (c + 1) = (n + 1) ∧ (e + 1 + (dgs (M 63) (M 62 1) 3 (e + 1))) = (nst (M 63) (M 62 1) (M 62 2) ((n + 1) - 1).toNat) + (dgs (M 63) (M 62 1) 3 (nst (M 63) (M 62 1) (M 62 2) ((n + 1) - 1).toNat)) ∧ 0 < (dgs (M 63) (M 62 1) 3 (nst (M 63) (M 62 1) (M 62 2) ((n + 1) - 1).toNat)) ∧ (nrd (M 63) (M 62 1) (M 62 2) 8 0) = nrd (M 63) (M 62 1) (M 62 2) (8 - (n + 1) + 1).toNat ((n + 1) - 1).toNat) ∨ ((1 : Int) = 0 ∧ (nrd (M 63) (M 62 1) (M 62 2) 8 0) = (0, (e + 1 + (dgs (M 63) (M 62 1) 3 (e + 1))), (c + 1))) := Or.inl ⟨rfl, by omega, by rw [show n + 1 - 1 = n by omega, hst], by rw [show n + 1 - 1 = n by omega, hst]; exact hz, by rw [hRn, show n + 1 - 1 = n by omega, show (8 - n).toNat = (8 - (n + 1) + 1).toNat by omega]⟩
                have hb0 : 1 ≤ n + 1 ∧ n + 1 ≤ 8 ∧ 0 ≤ c + 1 ∧ c + 1 ≤ n + 1 ∧ 0 ≤ e + 1 + (dgs (M 63) (M 62 1) 3 (e + 1)) ∧ e + 1 + (dgs (M 63) (M 62 1) 3 (e + 1)) ≤ 801 := by omega
                have hb3 : (1 : Int) = 1 → e + 1 + (dgs (M 63) (M 62 1) 3 (e + 1)) ≤ 100 := by omega
                have hb2 := up_lt (G := (fun j => nmv (M 63) (nst (M 63) (M 62 1) (M 62 2) j.toNat) (dgs (M 63) (M 62 1) 3 (nst (M 63) (M 62 1) (M 62 2) j.toNat)).toNat)) (v := nmv (M 63) (e + 1) (dgs (M 63) (M 62 1) 3 (e + 1)).toNat) i8_2 (by show _ = nmv (M 63) (nst (M 63) (M 62 1) (M 62 2) c.toNat) (dgs (M 63) (M 62 1) 3 (nst (M 63) (M 62 1) (M 62 2) c.toNat)).toNat; rw [hv.2.1, hst])
                rw [show ((up1 (up1 M 62 (up (up ((up (up (M 62) 2 (e + 1)) 5 c)) 2 ((e + 1) + (dgs ((M 63)) ((M 62 1)) 3 ((e + 1))))) 5 (c + 1))) 64 (up (N) (c) (nmv ((M 63)) ((e + 1)) (dgs ((M 63)) ((M 62 1)) 3 ((e + 1))).toNat))) : Mem) = (up1 (up1 M 62 (up (up (M 62) 2 (e + 1 + (dgs (M 63) (M 62 1) 3 (e + 1)))) 5 (c + 1))) 64 (up N c (nmv (M 63) (e + 1) (dgs (M 63) (M 62 1) 3 (e + 1)).toNat))) from (by rw [up4])]
                refine v_istore_n ok [(2, iv 1), (0, rf g 62), (1, iv 8), (3, iv n)] dX5_readNumbers_31 rfl (by decide) rfl ?_
                refine v_iinc ok 3 [(3, iv (n + 1)), (2, iv 1), (0, rf g 62), (1, iv 8)] dX5_readNumbers_32 rfl (by decide) rfl ?_
                refine v_goto (tgt := 8) ok dX5_readNumbers_35 (by decide) ?_
                refine v_lv (ls' := [(0, rf g 62), (1, iv 8), (2, iv 1), (3, iv (n + 1))]) ok [2, 3, 1, 0] rfl ?_
                exact ih8 1 (n + 1) (e + 1 + (dgs (M 63) (M 62 1) 3 (e + 1))) (c + 1) (up N c (nmv (M 63) (e + 1) (dgs (M 63) (M 62 1) 3 (e + 1)).toNat)) hb0 hb1 hb2 hb3 (by omega)
    refine v_lv (ls' := [(0, rf g 62), (1, iv 8), (2, iv 0), (3, iv 1)]) ok [2, 3, 1, 0] rfl ?_
    rw [show ((up1 (up1 M 62 (up (up (M 62) 2 (M 62 2 + (dgs (M 63) (M 62 1) 3 (M 62 2)))) 5 0)) 64 (M 64)) : Mem) = (up1 (up1 M 62 (up (up (M 62) 2 (M 62 2 + (dgs (M 63) (M 62 1) 3 (M 62 2)))) 5 (0 : Int))) 64 (M 64)) from (by
          funext j
          by_cases hj0 : j = 62
          · subst hj0; simp [up1, up1_self]
          by_cases hj1 : j = 64
          · subst hj1; simp [up1, up1_self]
          simp [up1, hj0, hj1])]
    exact lp8 _ 0 1 (M 62 2 + (dgs (M 63) (M 62 1) 3 (M 62 2))) 0 (M 64) hb0 hb1 hb2 hb3 (Nat.lt_succ_self _)
  · skip
    have h5 : 0 < (dgs ((M 63)) ((M 62) 1) 3 ((M 62) 2)) := h5
    show V z g 4 (up1 (up1 M 62 (up (up ((M 62)) 2 ((M 62) 2 + (dgs ((M 63)) ((M 62) 1) 3 ((M 62) 2)))) 5 ((M 62) 5 + 1))) 64 (up ((M 64)) ((M 62) 5) (nmv ((M 63)) ((M 62) 2) (dgs ((M 63)) ((M 62) 1) 3 ((M 62) 2)).toNat))) [(0, rf g 62), (1, iv 8)] [iv 1] 5
    have hrg := dgs_rng (T := M 63) (L := M 62 1) 3 (M 62 2)
    have hz := h5
    have hb1 : ((1 : Int) = 1 ∧ (1 : Int) = (1 : Int) ∧ (M 62 2 + (dgs (M 63) (M 62 1) 3 (M 62 2))) = (nst (M 63) (M 62 1) (M 62 2) ((1 : Int) - 1).toNat) + (dgs (M 63) (M 62 1) 3 (nst (M 63) (M 62 1) (M 62 2) ((1 : Int) - 1).toNat)) ∧ 0 < (dgs (M 63) (M 62 1) 3 (nst (M 63) (M 62 1) (M 62 2) ((1 : Int) - 1).toNat)) ∧ (nrd (M 63) (M 62 1) (M 62 2) 8 0) = nrd (M 63) (M 62 1) (M 62 2) (8 - (1 : Int) + 1).toNat ((1 : Int) - 1).toNat) ∨ ((1 : Int) = 0 ∧ (nrd (M 63) (M 62 1) (M 62 2) 8 0) = (0, (M 62 2 + (dgs (M 63) (M 62 1) 3 (M 62 2))), (1 : Int))) := Or.inl ⟨rfl, rfl, rfl, hz, rfl⟩
    have hb0 : (1 : Int) ≤ 1 ∧ (1 : Int) ≤ 8 ∧ (0 : Int) ≤ 1 ∧ (1 : Int) ≤ 1 ∧ 0 ≤ M 62 2 + (dgs (M 63) (M 62 1) 3 (M 62 2)) ∧ M 62 2 + (dgs (M 63) (M 62 1) 3 (M 62 2)) ≤ 801 := by omega
    have hb2 : ∀ j : Int, 0 ≤ j → j < (1 : Int) → (up (M 64) 0 (nmv (M 63) (M 62 2) (dgs (M 63) (M 62 1) 3 (M 62 2)).toNat)) j = nmv (M 63) (nst (M 63) (M 62 1) (M 62 2) j.toNat) (dgs (M 63) (M 62 1) 3 (nst (M 63) (M 62 1) (M 62 2) j.toNat)).toNat := fun j j0 j1 => by
      have ej : j = 0 := by omega
      subst ej
      exact up_same _ _ _
    have hb3 : (1 : Int) = 1 → M 62 2 + (dgs (M 63) (M 62 1) 3 (M 62 2)) ≤ 100 := by omega
    rw [show ((up1 (up1 M 62 (up (up ((M 62)) 2 ((M 62) 2 + (dgs ((M 63)) ((M 62) 1) 3 ((M 62) 2)))) 5 ((M 62) 5 + 1))) 64 (up ((M 64)) ((M 62) 5) (nmv ((M 63)) ((M 62) 2) (dgs ((M 63)) ((M 62) 1) 3 ((M 62) 2)).toNat))) : Mem) = (up1 (up1 M 62 (up (up (M 62) 2 (M 62 2 + (dgs (M 63) (M 62 1) 3 (M 62 2)))) 5 1)) 64 (up (M 64) 0 (nmv (M 63) (M 62 2) (dgs (M 63) (M 62 1) 3 (M 62 2)).toNat))) from (by rw [hm0]; rfl)]
    refine v_istore_n ok [(2, iv 1), (0, rf g 62), (1, iv 8)] dX5_readNumbers_5 rfl (by decide) rfl ?_
    refine v_iconst (n := 1) ok dX5_readNumbers_6 ?_
    refine v_istore_n ok [(3, iv 1), (2, iv 1), (0, rf g 62), (1, iv 8)] dX5_readNumbers_7 rfl (by decide) rfl ?_
    have lp8x : ∀ (fu : Nat) (w n e c : Int) (N : Int → Int), (1 ≤ n ∧ n ≤ 8 ∧ 0 ≤ c ∧ c ≤ n ∧ 0 ≤ e ∧ e ≤ 801) → ((w = 1 ∧ c = n ∧ e = (nst (M 63) (M 62 1) (M 62 2) (n - 1).toNat) + (dgs (M 63) (M 62 1) 3 (nst (M 63) (M 62 1) (M 62 2) (n - 1).toNat)) ∧ 0 < (dgs (M 63) (M 62 1) 3 (nst (M 63) (M 62 1) (M 62 2) (n - 1).toNat)) ∧ (nrd (M 63) (M 62 1) (M 62 2) 8 0) = nrd (M 63) (M 62 1) (M 62 2) (8 - n + 1).toNat (n - 1).toNat) ∨ (w = 0 ∧ (nrd (M 63) (M 62 1) (M 62 2) 8 0) = (0, e, c))) → (∀ j : Int, 0 ≤ j → j < c → N j = nmv (M 63) (nst (M 63) (M 62 1) (M 62 2) j.toNat) (dgs (M 63) (M 62 1) 3 (nst (M 63) (M 62 1) (M 62 2) j.toNat)).toNat) → (w = 1 → e ≤ 100) → (8 + 1 - n).toNat < fu → V z g 4 (up1 (up1 M 62 (up (up (M 62) 2 e) 5 c)) 64 N) [(0, rf g 62), (1, iv 8), (2, iv w), (3, iv n)] [] 8 := by
      intro fu
      induction fu with
      | zero => intro w n e c N _ _ _ _ hm; exact absurd hm (Nat.not_lt_zero _)
      | succ fu ih8 =>
        intro w n e c N i8_0 i8_1 i8_2 i8_3 hm8
        refine v_iload_n ok 3 dX5_readNumbers_8 rfl rfl ?_
        refine v_iload_n ok 1 dX5_readNumbers_9 rfl rfl ?_
        refine v_icmp_ge (tgt := 38) ok ⟨by omega, by omega⟩ (by decide) dX5_readNumbers_10 (by decide) (fun c20 => ?_) (fun c20 => ?_)
        · skip
          have hR : (nrd (M 63) (M 62 1) (M 62 2) 8 0) = (w, e, c) := by
            rcases i8_1 with q | q
            · rw [q.2.2.2.2, show (8 - n + 1).toNat = 0 + 1 by omega, nrd_e q.2.2.2.1 (Or.inl rfl), ← q.2.2.1, q.1, q.2.1]
              congr 2
              omega
            · rw [q.2, q.1]
          have hN : ∀ j : Int, 0 ≤ j → j < (nrd (M 63) (M 62 1) (M 62 2) 8 0).2.2 → N j = nmv (M 63) (nst (M 63) (M 62 1) (M 62 2) j.toNat) (dgs (M 63) (M 62 1) 3 (nst (M 63) (M 62 1) (M 62 2) j.toNat)).toNat := by
            rw [hR]
            exact i8_2
          refine v_iload_n ok 2 dX5_readNumbers_38 rfl rfl ?_
          exact v_zret ok rt (by (have h01 : w = 0 ∨ w = 1 := (by omega); exact h01)) dX5_readNumbers_39 (⟨N, (congrArg (fun q : Int => some (iv q)) (show w = (nrd (M 63) (M 62 1) (M 62 2) 8 0).1 from by (rw [hR]))), (by rw [hR]), hN⟩)
        · skip
          refine v_iload_n ok 2 dX5_readNumbers_13 rfl rfl ?_
          refine v_if_eq (tgt := 38) ok ⟨by omega, by omega⟩ dX5_readNumbers_14 (by decide) (fun c21 => ?_) (fun c21 => ?_)
          · skip
            have hR : (nrd (M 63) (M 62 1) (M 62 2) 8 0) = (w, e, c) := by
              rcases i8_1 with q | q
              · omega
              · rw [q.2, q.1]
            have hN : ∀ j : Int, 0 ≤ j → j < (nrd (M 63) (M 62 1) (M 62 2) 8 0).2.2 → N j = nmv (M 63) (nst (M 63) (M 62 1) (M 62 2) j.toNat) (dgs (M 63) (M 62 1) 3 (nst (M 63) (M 62 1) (M 62 2) j.toNat)).toNat := by
              rw [hR]
              exact i8_2
            refine v_iload_n ok 2 dX5_readNumbers_38 rfl rfl ?_
            exact v_zret ok rt (by (have h01 : w = 0 ∨ w = 1 := (by omega); exact h01)) dX5_readNumbers_39 (⟨N, (congrArg (fun q : Int => some (iv q)) (show w = (nrd (M 63) (M 62 1) (M 62 2) 8 0).1 from by (rw [hR]))), (by rw [hR]), hN⟩)
          · skip
            have hv : w = 1 ∧ c = n ∧ e = (nst (M 63) (M 62 1) (M 62 2) (n - 1).toNat) + (dgs (M 63) (M 62 1) 3 (nst (M 63) (M 62 1) (M 62 2) (n - 1).toNat)) ∧ 0 < (dgs (M 63) (M 62 1) 3 (nst (M 63) (M 62 1) (M 62 2) (n - 1).toNat)) ∧ (nrd (M 63) (M 62 1) (M 62 2) 8 0) = nrd (M 63) (M 62 1) (M 62 2) (8 - n + 1).toNat (n - 1).toNat := by
              rcases i8_1 with q | q
              · exact q
              · omega
            have he1 := i8_3 hv.1
            refine v_aload_n ok 0 dX5_readNumbers_17 rfl rfl ?_
            refine v_bipush (n := 44) ok rfl dX5_readNumbers_18 ?_
            refine v_callV (na := 1) (i := 62) (C := RX5) (T := TX5) (N := 6) (f0 := (up (up (M 62) 2 e) 5 c)) ok (ct_X5_stepOver z.2.1 g (up1 (up1 M 62 (up (up (M 62) 2 e) 5 c)) 64 N) 44 (by show 0 ≤ (M 62 1) ∧ (M 62 1) ≤ 100; first | omega | assumption) (by show 0 ≤ e ∧ e ≤ 1000; first | omega | assumption) (by show bdf ((M 63)) 100 0 127; first | omega | assumption) (by decide)) gX5_readNumbers_X5_stepOver (kd_lt (show kd 62 = 5 from rfl) (by decide)) rfl rfl (cellF_5 _ (by decide)) rfl (by decide +kernel) rfl (by decide) [] rfl (Nat.le_of_ble_eq_true rfl) dX5_readNumbers_20 (fun v23 M24 hp22 => ?_)
            rcases hp22 with ⟨rfl, rfl, h25⟩ | ⟨rfl, rfl, h26⟩
            · skip
              have h25 : (sgn ((M 63)) ((M 62 1)) (e)) ≠ 44 := h25
              show V z g 4 (up1 (up1 M 62 (up (up (M 62) 2 e) 5 c)) 64 N) [(0, rf g 62), (1, iv 8), (2, iv w), (3, iv n)] [iv 0] 23
              have hR : (nrd (M 63) (M 62 1) (M 62 2) 8 0) = (w, e, c) := by
                rw [hv.2.2.2.2, show (8 - n + 1).toNat = (8 - n).toNat + 1 by omega, nrd_e hv.2.2.2.1 (Or.inr (by rw [← hv.2.2.1]; exact h25)), ← hv.2.2.1, hv.1, hv.2.1]
                congr 2
                omega
              refine v_if_eq (tgt := 38) ok (by decide) dX5_readNumbers_23 (by decide) (fun c27 => ?_) (fun c27 => absurd c27 (by decide))
              have hN : ∀ j : Int, 0 ≤ j → j < (nrd (M 63) (M 62 1) (M 62 2) 8 0).2.2 → N j = nmv (M 63) (nst (M 63) (M 62 1) (M 62 2) j.toNat) (dgs (M 63) (M 62 1) 3 (nst (M 63) (M 62 1) (M 62 2) j.toNat)).toNat := by
                rw [hR]
                exact i8_2
              refine v_iload_n ok 2 dX5_readNumbers_38 rfl rfl ?_
              exact v_zret ok rt (by (have h01 : w = 0 ∨ w = 1 := (by omega); exact h01)) dX5_readNumbers_39 (⟨N, (congrArg (fun q : Int => some (iv q)) (show w = (nrd (M 63) (M 62 1) (M 62 2) 8 0).1 from by (rw [hR]))), (by rw [hR]), hN⟩)
            · skip
              have h26 : (sgn ((M 63)) ((M 62 1)) (e)) = 44 := h26
              show V z g 4 (up1 (up1 (up1 M 62 (up (up (M 62) 2 e) 5 c)) 64 N) 62 (up ((up (up (M 62) 2 e) 5 c)) 2 (e + 1))) [(0, rf g 62), (1, iv 8), (2, iv w), (3, iv n)] [iv 1] 23
              rw [show ((up1 (up1 (up1 M 62 (up (up (M 62) 2 e) 5 c)) 64 N) 62 (up ((up (up (M 62) 2 e) 5 c)) 2 (e + 1))) : Mem) = (up1 (up1 M 62 (up ((up (up (M 62) 2 e) 5 c)) 2 (e + 1))) 64 N) from (by
                    funext j
                    by_cases hj0 : j = 62
                    · subst hj0; simp [up1, up1_self]
                    by_cases hj1 : j = 64
                    · subst hj1; simp [up1, up1_self]
                    simp [up1, hj0, hj1])]
              have hcm := h26
              have hn1 : (n - 1).toNat + 1 = n.toNat := by omega
              have hst : (nst (M 63) (M 62 1) (M 62 2) n.toNat) = e + 1 := by
                rw [← hn1, nst, ← hv.2.2.1]
              have hRn : (nrd (M 63) (M 62 1) (M 62 2) 8 0) = nrd (M 63) (M 62 1) (M 62 2) (8 - n).toNat n.toNat := by
                rw [hv.2.2.2.2, show (8 - n + 1).toNat = (8 - n).toNat + 1 by omega, nrd_n hv.2.2.2.1 (by omega) (by rw [← hv.2.2.1]; exact hcm), hn1]
              have hrg := dgs_rng (T := M 63) (L := M 62 1) 3 (e + 1)
              rw [show ((up1 (up1 M 62 (up ((up (up (M 62) 2 e) 5 c)) 2 (e + 1))) 64 N) : Mem) = (up1 (up1 M 62 (up (up (M 62) 2 (e + 1)) 5 c)) 64 N) from (by rw [up3])]
              refine v_if_eq (tgt := 38) ok (by decide) dX5_readNumbers_23 (by decide) (fun c28 => absurd c28 (by decide)) (fun c28 => ?_)
              refine v_aload_n ok 0 dX5_readNumbers_26 rfl rfl ?_
              refine v_iconst (n := 3) ok dX5_readNumbers_27 ?_
              refine v_callV (na := 1) (i := 62) (C := RX5) (T := TX5) (N := 6) (f0 := (up (up (M 62) 2 (e + 1)) 5 c)) ok (ct_X5_readNumber_3 z.2.1 g (up1 (up1 M 62 (up (up (M 62) 2 (e + 1)) 5 c)) 64 N)  (by show 0 ≤ (M 62 1) ∧ (M 62 1) ≤ 100; first | omega | assumption) (by show 0 ≤ (e + 1) ∧ (e + 1) ≤ 900; first | omega | assumption) (by show bdf ((M 63)) 100 0 127; first | omega | assumption) (by show 0 ≤ c ∧ c < 12; first | omega | assumption)) gX5_readNumbers_X5_readNumber (kd_lt (show kd 62 = 5 from rfl) (by decide)) rfl rfl (cellF_5 _ (by decide)) rfl (by decide +kernel) rfl (by decide) [] rfl (Nat.le_of_ble_eq_true rfl) dX5_readNumbers_28 (fun v30 M31 hp29 => ?_)
              rcases hp29 with ⟨rfl, rfl, h32⟩ | ⟨rfl, rfl, h33⟩
              · skip
                have h32 : (dgs ((M 63)) ((M 62 1)) 3 ((e + 1))) = 0 := h32
                show V z g 4 (up1 (up1 (up1 M 62 (up (up (M 62) 2 (e + 1)) 5 c)) 64 N) 62 (up ((up (up (M 62) 2 (e + 1)) 5 c)) 2 ((e + 1) + (dgs ((M 63)) ((M 62 1)) 3 ((e + 1)))))) [(0, rf g 62), (1, iv 8), (2, iv w), (3, iv n)] [iv 0] 31
                rw [show ((up1 (up1 (up1 M 62 (up (up (M 62) 2 (e + 1)) 5 c)) 64 N) 62 (up ((up (up (M 62) 2 (e + 1)) 5 c)) 2 ((e + 1) + (dgs ((M 63)) ((M 62 1)) 3 ((e + 1)))))) : Mem) = (up1 (up1 M 62 (up ((up (up (M 62) 2 (e + 1)) 5 c)) 2 ((e + 1) + (dgs ((M 63)) ((M 62 1)) 3 ((e + 1)))))) 64 N) from (by
                      funext j
                      by_cases hj0 : j = 62
                      · subst hj0; simp [up1, up1_self]
                      by_cases hj1 : j = 64
                      · subst hj1; simp [up1, up1_self]
                      simp [up1, hj0, hj1])]
                have hz := h32
                have hb1 : ((0 : Int) = 1 ∧ c = (n + 1) ∧ (e + 1 + (dgs (M 63) (M 62 1) 3 (e + 1))) = (nst (M 63) (M 62 1) (M 62 2) ((n + 1) - 1).toNat) + (dgs (M 63) (M 62 1) 3 (nst (M 63) (M 62 1) (M 62 2) ((n + 1) - 1).toNat)) ∧ 0 < (dgs (M 63) (M 62 1) 3 (nst (M 63) (M 62 1) (M 62 2) ((n + 1) - 1).toNat)) ∧ (nrd (M 63) (M 62 1) (M 62 2) 8 0) = nrd (M 63) (M 62 1) (M 62 2) (8 - (n + 1) + 1).toNat ((n + 1) - 1).toNat) ∨ ((0 : Int) = 0 ∧ (nrd (M 63) (M 62 1) (M 62 2) 8 0) = (0, (e + 1 + (dgs (M 63) (M 62 1) 3 (e + 1))), c)) := Or.inr ⟨rfl, by
                  rw [hRn, show (8 - n).toNat = (8 - n - 1).toNat + 1 by omega, nrd_f (by rw [hst]; exact hz), hst, hz, Int.add_zero, hv.2.1, Int.toNat_of_nonneg (by omega)]⟩
                have hb0 : 1 ≤ n + 1 ∧ n + 1 ≤ 8 ∧ 0 ≤ c ∧ c ≤ n + 1 ∧ 0 ≤ e + 1 + (dgs (M 63) (M 62 1) 3 (e + 1)) ∧ e + 1 + (dgs (M 63) (M 62 1) 3 (e + 1)) ≤ 801 := by omega
                have hb2 := i8_2
                have hb3 : (0 : Int) = 1 → e + 1 + (dgs (M 63) (M 62 1) 3 (e + 1)) ≤ 100 := by omega
                rw [show ((up1 (up1 M 62 (up ((up (up (M 62) 2 (e + 1)) 5 c)) 2 ((e + 1) + (dgs ((M 63)) ((M 62 1)) 3 ((e + 1)))))) 64 N) : Mem) = (up1 (up1 M 62 (up (up (M 62) 2 (e + 1 + (dgs (M 63) (M 62 1) 3 (e + 1)))) 5 c)) 64 N) from (by rw [up3])]
                refine v_istore_n ok [(2, iv 0), (0, rf g 62), (1, iv 8), (3, iv n)] dX5_readNumbers_31 rfl (by decide) rfl ?_
                refine v_iinc ok 3 [(3, iv (n + 1)), (2, iv 0), (0, rf g 62), (1, iv 8)] dX5_readNumbers_32 rfl (by decide) rfl ?_
                refine v_goto (tgt := 8) ok dX5_readNumbers_35 (by decide) ?_
                refine v_lv (ls' := [(0, rf g 62), (1, iv 8), (2, iv 0), (3, iv (n + 1))]) ok [2, 3, 1, 0] rfl ?_
                exact ih8 0 (n + 1) (e + 1 + (dgs (M 63) (M 62 1) 3 (e + 1))) c N hb0 hb1 hb2 hb3 (by omega)
              · skip
                have h33 : 0 < (dgs ((M 63)) ((M 62 1)) 3 ((e + 1))) := h33
                show V z g 4 (up1 (up1 (up1 (up1 M 62 (up (up (M 62) 2 (e + 1)) 5 c)) 64 N) 62 (up (up ((up (up (M 62) 2 (e + 1)) 5 c)) 2 ((e + 1) + (dgs ((M 63)) ((M 62 1)) 3 ((e + 1))))) 5 (c + 1))) 64 (up (N) (c) (nmv ((M 63)) ((e + 1)) (dgs ((M 63)) ((M 62 1)) 3 ((e + 1))).toNat))) [(0, rf g 62), (1, iv 8), (2, iv w), (3, iv n)] [iv 1] 31
                rw [show ((up1 (up1 (up1 (up1 M 62 (up (up (M 62) 2 (e + 1)) 5 c)) 64 N) 62 (up (up ((up (up (M 62) 2 (e + 1)) 5 c)) 2 ((e + 1) + (dgs ((M 63)) ((M 62 1)) 3 ((e + 1))))) 5 (c + 1))) 64 (up (N) (c) (nmv ((M 63)) ((e + 1)) (dgs ((M 63)) ((M 62 1)) 3 ((e + 1))).toNat))) : Mem) = (up1 (up1 M 62 (up (up ((up (up (M 62) 2 (e + 1)) 5 c)) 2 ((e + 1) + (dgs ((M 63)) ((M 62 1)) 3 ((e + 1))))) 5 (c + 1))) 64 (up (N) (c) (nmv ((M 63)) ((e + 1)) (dgs ((M 63)) ((M 62 1)) 3 ((e + 1))).toNat))) from (by
                      funext j
                      by_cases hj0 : j = 62
                      · subst hj0; simp [up1, up1_self]
                      by_cases hj1 : j = 64
                      · subst hj1; simp [up1, up1_self]
                      simp [up1, hj0, hj1])]
                have hz := h33
                have hb1 : ((1 : Int) = 1 ∧ (c + 1) = (n + 1) ∧ (e + 1 + (dgs (M 63) (M 62 1) 3 (e + 1))) = (nst (M 63) (M 62 1) (M 62 2) ((n + 1) - 1).toNat) + (dgs (M 63) (M 62 1) 3 (nst (M 63) (M 62 1) (M 62 2) ((n + 1) - 1).toNat)) ∧ 0 < (dgs (M 63) (M 62 1) 3 (nst (M 63) (M 62 1) (M 62 2) ((n + 1) - 1).toNat)) ∧ (nrd (M 63) (M 62 1) (M 62 2) 8 0) = nrd (M 63) (M 62 1) (M 62 2) (8 - (n + 1) + 1).toNat ((n + 1) - 1).toNat) ∨ ((1 : Int) = 0 ∧ (nrd (M 63) (M 62 1) (M 62 2) 8 0) = (0, (e + 1 + (dgs (M 63) (M 62 1) 3 (e + 1))), (c + 1))) := Or.inl ⟨rfl, by omega, by rw [show n + 1 - 1 = n by omega, hst], by rw [show n + 1 - 1 = n by omega, hst]; exact hz, by rw [hRn, show n + 1 - 1 = n by omega, show (8 - n).toNat = (8 - (n + 1) + 1).toNat by omega]⟩
                have hb0 : 1 ≤ n + 1 ∧ n + 1 ≤ 8 ∧ 0 ≤ c + 1 ∧ c + 1 ≤ n + 1 ∧ 0 ≤ e + 1 + (dgs (M 63) (M 62 1) 3 (e + 1)) ∧ e + 1 + (dgs (M 63) (M 62 1) 3 (e + 1)) ≤ 801 := by omega
                have hb3 : (1 : Int) = 1 → e + 1 + (dgs (M 63) (M 62 1) 3 (e + 1)) ≤ 100 := by omega
                have hb2 := up_lt (G := (fun j => nmv (M 63) (nst (M 63) (M 62 1) (M 62 2) j.toNat) (dgs (M 63) (M 62 1) 3 (nst (M 63) (M 62 1) (M 62 2) j.toNat)).toNat)) (v := nmv (M 63) (e + 1) (dgs (M 63) (M 62 1) 3 (e + 1)).toNat) i8_2 (by show _ = nmv (M 63) (nst (M 63) (M 62 1) (M 62 2) c.toNat) (dgs (M 63) (M 62 1) 3 (nst (M 63) (M 62 1) (M 62 2) c.toNat)).toNat; rw [hv.2.1, hst])
                rw [show ((up1 (up1 M 62 (up (up ((up (up (M 62) 2 (e + 1)) 5 c)) 2 ((e + 1) + (dgs ((M 63)) ((M 62 1)) 3 ((e + 1))))) 5 (c + 1))) 64 (up (N) (c) (nmv ((M 63)) ((e + 1)) (dgs ((M 63)) ((M 62 1)) 3 ((e + 1))).toNat))) : Mem) = (up1 (up1 M 62 (up (up (M 62) 2 (e + 1 + (dgs (M 63) (M 62 1) 3 (e + 1)))) 5 (c + 1))) 64 (up N c (nmv (M 63) (e + 1) (dgs (M 63) (M 62 1) 3 (e + 1)).toNat))) from (by rw [up4])]
                refine v_istore_n ok [(2, iv 1), (0, rf g 62), (1, iv 8), (3, iv n)] dX5_readNumbers_31 rfl (by decide) rfl ?_
                refine v_iinc ok 3 [(3, iv (n + 1)), (2, iv 1), (0, rf g 62), (1, iv 8)] dX5_readNumbers_32 rfl (by decide) rfl ?_
                refine v_goto (tgt := 8) ok dX5_readNumbers_35 (by decide) ?_
                refine v_lv (ls' := [(0, rf g 62), (1, iv 8), (2, iv 1), (3, iv (n + 1))]) ok [2, 3, 1, 0] rfl ?_
                exact ih8 1 (n + 1) (e + 1 + (dgs (M 63) (M 62 1) 3 (e + 1))) (c + 1) (up N c (nmv (M 63) (e + 1) (dgs (M 63) (M 62 1) 3 (e + 1)).toNat)) hb0 hb1 hb2 hb3 (by omega)
    refine v_lv (ls' := [(0, rf g 62), (1, iv 8), (2, iv 1), (3, iv 1)]) ok [2, 3, 1, 0] rfl ?_
    rw [show ((up1 (up1 M 62 (up (up (M 62) 2 (M 62 2 + (dgs (M 63) (M 62 1) 3 (M 62 2)))) 5 1)) 64 (up (M 64) 0 (nmv (M 63) (M 62 2) (dgs (M 63) (M 62 1) 3 (M 62 2)).toNat))) : Mem) = (up1 (up1 M 62 (up (up (M 62) 2 (M 62 2 + (dgs (M 63) (M 62 1) 3 (M 62 2)))) 5 (1 : Int))) 64 (up (M 64) 0 (nmv (M 63) (M 62 2) (dgs (M 63) (M 62 1) 3 (M 62 2)).toNat))) from (by
          funext j
          by_cases hj0 : j = 62
          · subst hj0; simp [up1, up1_self]
          by_cases hj1 : j = 64
          · subst hj1; simp [up1, up1_self]
          simp [up1, hj0, hj1])]
    exact lp8x _ 1 1 (M 62 2 + (dgs (M 63) (M 62 1) 3 (M 62 2))) 1 (up (M 64) 0 (nmv (M 63) (M 62 2) (dgs (M 63) (M 62 1) 3 (M 62 2)).toNat)) hb0 hb1 hb2 hb3 (Nat.lt_succ_self _)

set_option maxRecDepth 100000 in
set_option maxHeartbeats 400000 in
theorem ct_X5_readNumbers_12 (l : Launch) (g : Gl) (M : Mem)  (hL : 0 ≤ M 62 1 ∧ M 62 1 ≤ 100) (hA : 0 ≤ M 62 2 ∧ M 62 2 ≤ 800) (hG : bdf (M 63) 100 0 127) (hm0 : M 62 5 = 0) : Ct l g yX5_readNumbers wsX5_readNumbers 2 45 [rf g 62, iv 12] M (fun rv M' => ∃ (N : Int → Int), rv = some (iv (nrd (M 63) (M 62 1) (M 62 2) 12 0).1) ∧ M' = (up1 (up1 M 62 (up (up (M 62) 2 (nrd (M 63) (M 62 1) (M 62 2) 12 0).2.1) 5 (nrd (M 63) (M 62 1) (M 62 2) 12 0).2.2)) 64 N) ∧ (∀ j : Int, 0 ≤ j → j < (nrd (M 63) (M 62 1) (M 62 2) 12 0).2.2 → N j = nmv (M 63) (nst (M 63) (M 62 1) (M 62 2) j.toNat) (dgs (M 63) (M 62 1) 3 (nst (M 63) (M 62 1) (M 62 2) j.toNat)).toNat)) := by
  refine Ct.of (cc := cX5_readNumbers) (nL := 4) (ret := (some .boolean)) (by decide) rfl (Nat.le_of_ble_eq_true rfl) (fun z hz ok rt => ?_)
  have ok : Ok z g cX5_readNumbers 4 RX5 wsX5_readNumbers 2 45 := ok
  show V z g 4 M [(0, rf g 62), (1, iv 12)] [] 0
  refine v_aload_n ok 0 dX5_readNumbers_0 rfl rfl ?_
  refine v_iconst (n := 3) ok dX5_readNumbers_1 ?_
  refine v_callV (na := 1) (i := 62) (C := RX5) (T := TX5) (N := 6) (f0 := (M 62)) ok (ct_X5_readNumber_3 z.2.1 g M  (by first | omega | assumption) (by first | omega | assumption) (by first | omega | assumption) (by first | omega | assumption)) gX5_readNumbers_X5_readNumber (kd_lt (show kd 62 = 5 from rfl) (by decide)) rfl rfl (cellF_5 _ (by decide)) rfl (by decide +kernel) rfl (by decide) [] rfl (Nat.le_of_ble_eq_true rfl) dX5_readNumbers_2 (fun v2 M3 hp1 => ?_)
  rcases hp1 with ⟨rfl, rfl, h4⟩ | ⟨rfl, rfl, h5⟩
  · skip
    have h4 : (dgs ((M 63)) ((M 62) 1) 3 ((M 62) 2)) = 0 := h4
    show V z g 4 (up1 M 62 (up ((M 62)) 2 ((M 62) 2 + (dgs ((M 63)) ((M 62) 1) 3 ((M 62) 2))))) [(0, rf g 62), (1, iv 12)] [iv 0] 5
    have hrg := dgs_rng (T := M 63) (L := M 62 1) 3 (M 62 2)
    have hz := h4
    have hR0 : (nrd (M 63) (M 62 1) (M 62 2) 12 0) = (0, (M 62 2), 0) := by rw [nrd_f (i := 0) (k := 11) hz]; rfl
    have hb1 : ((0 : Int) = 1 ∧ (0 : Int) = (1 : Int) ∧ (M 62 2 + (dgs (M 63) (M 62 1) 3 (M 62 2))) = (nst (M 63) (M 62 1) (M 62 2) ((1 : Int) - 1).toNat) + (dgs (M 63) (M 62 1) 3 (nst (M 63) (M 62 1) (M 62 2) ((1 : Int) - 1).toNat)) ∧ 0 < (dgs (M 63) (M 62 1) 3 (nst (M 63) (M 62 1) (M 62 2) ((1 : Int) - 1).toNat)) ∧ (nrd (M 63) (M 62 1) (M 62 2) 12 0) = nrd (M 63) (M 62 1) (M 62 2) (12 - (1 : Int) + 1).toNat ((1 : Int) - 1).toNat) ∨ ((0 : Int) = 0 ∧ (nrd (M 63) (M 62 1) (M 62 2) 12 0) = (0, (M 62 2 + (dgs (M 63) (M 62 1) 3 (M 62 2))), (0 : Int))) := Or.inr ⟨rfl, by rw [hR0, hz, Int.add_zero]⟩
    have hb0 : (1 : Int) ≤ 1 ∧ (1 : Int) ≤ 12 ∧ (0 : Int) ≤ 0 ∧ (0 : Int) ≤ 1 ∧ 0 ≤ M 62 2 + (dgs (M 63) (M 62 1) 3 (M 62 2)) ∧ M 62 2 + (dgs (M 63) (M 62 1) 3 (M 62 2)) ≤ 801 := by omega
    have hb2 : ∀ j : Int, 0 ≤ j → j < (0 : Int) → M 64 j = nmv (M 63) (nst (M 63) (M 62 1) (M 62 2) j.toNat) (dgs (M 63) (M 62 1) 3 (nst (M 63) (M 62 1) (M 62 2) j.toNat)).toNat := fun j j0 j1 => by omega
    have hb3 : (0 : Int) = 1 → M 62 2 + (dgs (M 63) (M 62 1) 3 (M 62 2)) ≤ 100 := by omega
    rw [show ((up1 M 62 (up ((M 62)) 2 ((M 62) 2 + (dgs ((M 63)) ((M 62) 1) 3 ((M 62) 2))))) : Mem) = (up1 (up1 M 62 (up (up (M 62) 2 (M 62 2 + (dgs (M 63) (M 62 1) 3 (M 62 2)))) 5 0)) 64 (M 64)) from (zz_a hm0)]
    refine v_istore_n ok [(2, iv 0), (0, rf g 62), (1, iv 12)] dX5_readNumbers_5 rfl (by decide) rfl ?_
    refine v_iconst (n := 1) ok dX5_readNumbers_6 ?_
    refine v_istore_n ok [(3, iv 1), (2, iv 0), (0, rf g 62), (1, iv 12)] dX5_readNumbers_7 rfl (by decide) rfl ?_
    have lp8 : ∀ (fu : Nat) (w n e c : Int) (N : Int → Int), (1 ≤ n ∧ n ≤ 12 ∧ 0 ≤ c ∧ c ≤ n ∧ 0 ≤ e ∧ e ≤ 801) → ((w = 1 ∧ c = n ∧ e = (nst (M 63) (M 62 1) (M 62 2) (n - 1).toNat) + (dgs (M 63) (M 62 1) 3 (nst (M 63) (M 62 1) (M 62 2) (n - 1).toNat)) ∧ 0 < (dgs (M 63) (M 62 1) 3 (nst (M 63) (M 62 1) (M 62 2) (n - 1).toNat)) ∧ (nrd (M 63) (M 62 1) (M 62 2) 12 0) = nrd (M 63) (M 62 1) (M 62 2) (12 - n + 1).toNat (n - 1).toNat) ∨ (w = 0 ∧ (nrd (M 63) (M 62 1) (M 62 2) 12 0) = (0, e, c))) → (∀ j : Int, 0 ≤ j → j < c → N j = nmv (M 63) (nst (M 63) (M 62 1) (M 62 2) j.toNat) (dgs (M 63) (M 62 1) 3 (nst (M 63) (M 62 1) (M 62 2) j.toNat)).toNat) → (w = 1 → e ≤ 100) → (12 + 1 - n).toNat < fu → V z g 4 (up1 (up1 M 62 (up (up (M 62) 2 e) 5 c)) 64 N) [(0, rf g 62), (1, iv 12), (2, iv w), (3, iv n)] [] 8 := by
      intro fu
      induction fu with
      | zero => intro w n e c N _ _ _ _ hm; exact absurd hm (Nat.not_lt_zero _)
      | succ fu ih8 =>
        intro w n e c N i8_0 i8_1 i8_2 i8_3 hm8
        refine v_iload_n ok 3 dX5_readNumbers_8 rfl rfl ?_
        refine v_iload_n ok 1 dX5_readNumbers_9 rfl rfl ?_
        refine v_icmp_ge (tgt := 38) ok ⟨by omega, by omega⟩ (by decide) dX5_readNumbers_10 (by decide) (fun c6 => ?_) (fun c6 => ?_)
        · skip
          have hR : (nrd (M 63) (M 62 1) (M 62 2) 12 0) = (w, e, c) := by
            rcases i8_1 with q | q
            · rw [q.2.2.2.2, show (12 - n + 1).toNat = 0 + 1 by omega, nrd_e q.2.2.2.1 (Or.inl rfl), ← q.2.2.1, q.1, q.2.1]
              congr 2
              omega
            · rw [q.2, q.1]
          have hN : ∀ j : Int, 0 ≤ j → j < (nrd (M 63) (M 62 1) (M 62 2) 12 0).2.2 → N j = nmv (M 63) (nst (M 63) (M 62 1) (M 62 2) j.toNat) (dgs (M 63) (M 62 1) 3 (nst (M 63) (M 62 1) (M 62 2) j.toNat)).toNat := by
            rw [hR]
            exact i8_2
          refine v_iload_n ok 2 dX5_readNumbers_38 rfl rfl ?_
          exact v_zret ok rt (by (have h01 : w = 0 ∨ w = 1 := (by omega); exact h01)) dX5_readNumbers_39 (⟨N, (congrArg (fun q : Int => some (iv q)) (show w = (nrd (M 63) (M 62 1) (M 62 2) 12 0).1 from by (rw [hR]))), (by rw [hR]), hN⟩)
        · skip
          refine v_iload_n ok 2 dX5_readNumbers_13 rfl rfl ?_
          refine v_if_eq (tgt := 38) ok ⟨by omega, by omega⟩ dX5_readNumbers_14 (by decide) (fun c7 => ?_) (fun c7 => ?_)
          · skip
            have hR : (nrd (M 63) (M 62 1) (M 62 2) 12 0) = (w, e, c) := by
              rcases i8_1 with q | q
              · omega
              · rw [q.2, q.1]
            have hN : ∀ j : Int, 0 ≤ j → j < (nrd (M 63) (M 62 1) (M 62 2) 12 0).2.2 → N j = nmv (M 63) (nst (M 63) (M 62 1) (M 62 2) j.toNat) (dgs (M 63) (M 62 1) 3 (nst (M 63) (M 62 1) (M 62 2) j.toNat)).toNat := by
              rw [hR]
              exact i8_2
            refine v_iload_n ok 2 dX5_readNumbers_38 rfl rfl ?_
            exact v_zret ok rt (by (have h01 : w = 0 ∨ w = 1 := (by omega); exact h01)) dX5_readNumbers_39 (⟨N, (congrArg (fun q : Int => some (iv q)) (show w = (nrd (M 63) (M 62 1) (M 62 2) 12 0).1 from by (rw [hR]))), (by rw [hR]), hN⟩)
          · skip
            have hv : w = 1 ∧ c = n ∧ e = (nst (M 63) (M 62 1) (M 62 2) (n - 1).toNat) + (dgs (M 63) (M 62 1) 3 (nst (M 63) (M 62 1) (M 62 2) (n - 1).toNat)) ∧ 0 < (dgs (M 63) (M 62 1) 3 (nst (M 63) (M 62 1) (M 62 2) (n - 1).toNat)) ∧ (nrd (M 63) (M 62 1) (M 62 2) 12 0) = nrd (M 63) (M 62 1) (M 62 2) (12 - n + 1).toNat (n - 1).toNat := by
              rcases i8_1 with q | q
              · exact q
              · omega
            have he1 := i8_3 hv.1
            refine v_aload_n ok 0 dX5_readNumbers_17 rfl rfl ?_
            refine v_bipush (n := 44) ok rfl dX5_readNumbers_18 ?_
            refine v_callV (na := 1) (i := 62) (C := RX5) (T := TX5) (N := 6) (f0 := (up (up (M 62) 2 e) 5 c)) ok (ct_X5_stepOver z.2.1 g (up1 (up1 M 62 (up (up (M 62) 2 e) 5 c)) 64 N) 44 (by show 0 ≤ (M 62 1) ∧ (M 62 1) ≤ 100; first | omega | assumption) (by show 0 ≤ e ∧ e ≤ 1000; first | omega | assumption) (by show bdf ((M 63)) 100 0 127; first | omega | assumption) (by decide)) gX5_readNumbers_X5_stepOver (kd_lt (show kd 62 = 5 from rfl) (by decide)) rfl rfl (cellF_5 _ (by decide)) rfl (by decide +kernel) rfl (by decide) [] rfl (Nat.le_of_ble_eq_true rfl) dX5_readNumbers_20 (fun v9 M10 hp8 => ?_)
            rcases hp8 with ⟨rfl, rfl, h11⟩ | ⟨rfl, rfl, h12⟩
            · skip
              have h11 : (sgn ((M 63)) ((M 62 1)) (e)) ≠ 44 := h11
              show V z g 4 (up1 (up1 M 62 (up (up (M 62) 2 e) 5 c)) 64 N) [(0, rf g 62), (1, iv 12), (2, iv w), (3, iv n)] [iv 0] 23
              have hR : (nrd (M 63) (M 62 1) (M 62 2) 12 0) = (w, e, c) := by
                rw [hv.2.2.2.2, show (12 - n + 1).toNat = (12 - n).toNat + 1 by omega, nrd_e hv.2.2.2.1 (Or.inr (by rw [← hv.2.2.1]; exact h11)), ← hv.2.2.1, hv.1, hv.2.1]
                congr 2
                omega
              refine v_if_eq (tgt := 38) ok (by decide) dX5_readNumbers_23 (by decide) (fun c13 => ?_) (fun c13 => absurd c13 (by decide))
              have hN : ∀ j : Int, 0 ≤ j → j < (nrd (M 63) (M 62 1) (M 62 2) 12 0).2.2 → N j = nmv (M 63) (nst (M 63) (M 62 1) (M 62 2) j.toNat) (dgs (M 63) (M 62 1) 3 (nst (M 63) (M 62 1) (M 62 2) j.toNat)).toNat := by
                rw [hR]
                exact i8_2
              refine v_iload_n ok 2 dX5_readNumbers_38 rfl rfl ?_
              exact v_zret ok rt (by (have h01 : w = 0 ∨ w = 1 := (by omega); exact h01)) dX5_readNumbers_39 (⟨N, (congrArg (fun q : Int => some (iv q)) (show w = (nrd (M 63) (M 62 1) (M 62 2) 12 0).1 from by (rw [hR]))), (by rw [hR]), hN⟩)
            · skip
              have h12 : (sgn ((M 63)) ((M 62 1)) (e)) = 44 := h12
              show V z g 4 (up1 (up1 (up1 M 62 (up (up (M 62) 2 e) 5 c)) 64 N) 62 (up ((up (up (M 62) 2 e) 5 c)) 2 (e + 1))) [(0, rf g 62), (1, iv 12), (2, iv w), (3, iv n)] [iv 1] 23
              rw [show ((up1 (up1 (up1 M 62 (up (up (M 62) 2 e) 5 c)) 64 N) 62 (up ((up (up (M 62) 2 e) 5 c)) 2 (e + 1))) : Mem) = (up1 (up1 M 62 (up ((up (up (M 62) 2 e) 5 c)) 2 (e + 1))) 64 N) from (by
                    funext j
                    by_cases hj0 : j = 62
                    · subst hj0; simp [up1, up1_self]
                    by_cases hj1 : j = 64
                    · subst hj1; simp [up1, up1_self]
                    simp [up1, hj0, hj1])]
              have hcm := h12
              have hn1 : (n - 1).toNat + 1 = n.toNat := by omega
              have hst : (nst (M 63) (M 62 1) (M 62 2) n.toNat) = e + 1 := by
                rw [← hn1, nst, ← hv.2.2.1]
              have hRn : (nrd (M 63) (M 62 1) (M 62 2) 12 0) = nrd (M 63) (M 62 1) (M 62 2) (12 - n).toNat n.toNat := by
                rw [hv.2.2.2.2, show (12 - n + 1).toNat = (12 - n).toNat + 1 by omega, nrd_n hv.2.2.2.1 (by omega) (by rw [← hv.2.2.1]; exact hcm), hn1]
              have hrg := dgs_rng (T := M 63) (L := M 62 1) 3 (e + 1)
              rw [show ((up1 (up1 M 62 (up ((up (up (M 62) 2 e) 5 c)) 2 (e + 1))) 64 N) : Mem) = (up1 (up1 M 62 (up (up (M 62) 2 (e + 1)) 5 c)) 64 N) from (by rw [up3])]
              refine v_if_eq (tgt := 38) ok (by decide) dX5_readNumbers_23 (by decide) (fun c14 => absurd c14 (by decide)) (fun c14 => ?_)
              refine v_aload_n ok 0 dX5_readNumbers_26 rfl rfl ?_
              refine v_iconst (n := 3) ok dX5_readNumbers_27 ?_
              refine v_callV (na := 1) (i := 62) (C := RX5) (T := TX5) (N := 6) (f0 := (up (up (M 62) 2 (e + 1)) 5 c)) ok (ct_X5_readNumber_3 z.2.1 g (up1 (up1 M 62 (up (up (M 62) 2 (e + 1)) 5 c)) 64 N)  (by show 0 ≤ (M 62 1) ∧ (M 62 1) ≤ 100; first | omega | assumption) (by show 0 ≤ (e + 1) ∧ (e + 1) ≤ 900; first | omega | assumption) (by show bdf ((M 63)) 100 0 127; first | omega | assumption) (by show 0 ≤ c ∧ c < 12; first | omega | assumption)) gX5_readNumbers_X5_readNumber (kd_lt (show kd 62 = 5 from rfl) (by decide)) rfl rfl (cellF_5 _ (by decide)) rfl (by decide +kernel) rfl (by decide) [] rfl (Nat.le_of_ble_eq_true rfl) dX5_readNumbers_28 (fun v16 M17 hp15 => ?_)
              rcases hp15 with ⟨rfl, rfl, h18⟩ | ⟨rfl, rfl, h19⟩
              · skip
                have h18 : (dgs ((M 63)) ((M 62 1)) 3 ((e + 1))) = 0 := h18
                show V z g 4 (up1 (up1 (up1 M 62 (up (up (M 62) 2 (e + 1)) 5 c)) 64 N) 62 (up ((up (up (M 62) 2 (e + 1)) 5 c)) 2 ((e + 1) + (dgs ((M 63)) ((M 62 1)) 3 ((e + 1)))))) [(0, rf g 62), (1, iv 12), (2, iv w), (3, iv n)] [iv 0] 31
                rw [show ((up1 (up1 (up1 M 62 (up (up (M 62) 2 (e + 1)) 5 c)) 64 N) 62 (up ((up (up (M 62) 2 (e + 1)) 5 c)) 2 ((e + 1) + (dgs ((M 63)) ((M 62 1)) 3 ((e + 1)))))) : Mem) = (up1 (up1 M 62 (up ((up (up (M 62) 2 (e + 1)) 5 c)) 2 ((e + 1) + (dgs ((M 63)) ((M 62 1)) 3 ((e + 1)))))) 64 N) from (by
                      funext j
                      by_cases hj0 : j = 62
                      · subst hj0; simp [up1, up1_self]
                      by_cases hj1 : j = 64
                      · subst hj1; simp [up1, up1_self]
                      simp [up1, hj0, hj1])]
                have hz := h18
                have hb1 : ((0 : Int) = 1 ∧ c = (n + 1) ∧ (e + 1 + (dgs (M 63) (M 62 1) 3 (e + 1))) = (nst (M 63) (M 62 1) (M 62 2) ((n + 1) - 1).toNat) + (dgs (M 63) (M 62 1) 3 (nst (M 63) (M 62 1) (M 62 2) ((n + 1) - 1).toNat)) ∧ 0 < (dgs (M 63) (M 62 1) 3 (nst (M 63) (M 62 1) (M 62 2) ((n + 1) - 1).toNat)) ∧ (nrd (M 63) (M 62 1) (M 62 2) 12 0) = nrd (M 63) (M 62 1) (M 62 2) (12 - (n + 1) + 1).toNat ((n + 1) - 1).toNat) ∨ ((0 : Int) = 0 ∧ (nrd (M 63) (M 62 1) (M 62 2) 12 0) = (0, (e + 1 + (dgs (M 63) (M 62 1) 3 (e + 1))), c)) := Or.inr ⟨rfl, by
                  rw [hRn, show (12 - n).toNat = (12 - n - 1).toNat + 1 by omega, nrd_f (by rw [hst]; exact hz), hst, hz, Int.add_zero, hv.2.1, Int.toNat_of_nonneg (by omega)]⟩
                have hb0 : 1 ≤ n + 1 ∧ n + 1 ≤ 12 ∧ 0 ≤ c ∧ c ≤ n + 1 ∧ 0 ≤ e + 1 + (dgs (M 63) (M 62 1) 3 (e + 1)) ∧ e + 1 + (dgs (M 63) (M 62 1) 3 (e + 1)) ≤ 801 := by omega
                have hb2 := i8_2
                have hb3 : (0 : Int) = 1 → e + 1 + (dgs (M 63) (M 62 1) 3 (e + 1)) ≤ 100 := by omega
                rw [show ((up1 (up1 M 62 (up ((up (up (M 62) 2 (e + 1)) 5 c)) 2 ((e + 1) + (dgs ((M 63)) ((M 62 1)) 3 ((e + 1)))))) 64 N) : Mem) = (up1 (up1 M 62 (up (up (M 62) 2 (e + 1 + (dgs (M 63) (M 62 1) 3 (e + 1)))) 5 c)) 64 N) from (by rw [up3])]
                refine v_istore_n ok [(2, iv 0), (0, rf g 62), (1, iv 12), (3, iv n)] dX5_readNumbers_31 rfl (by decide) rfl ?_
                refine v_iinc ok 3 [(3, iv (n + 1)), (2, iv 0), (0, rf g 62), (1, iv 12)] dX5_readNumbers_32 rfl (by decide) rfl ?_
                refine v_goto (tgt := 8) ok dX5_readNumbers_35 (by decide) ?_
                refine v_lv (ls' := [(0, rf g 62), (1, iv 12), (2, iv 0), (3, iv (n + 1))]) ok [2, 3, 1, 0] rfl ?_
                exact ih8 0 (n + 1) (e + 1 + (dgs (M 63) (M 62 1) 3 (e + 1))) c N hb0 hb1 hb2 hb3 (by omega)
              · skip
                have h19 : 0 < (dgs ((M 63)) ((M 62 1)) 3 ((e + 1))) := h19
                show V z g 4 (up1 (up1 (up1 (up1 M 62 (up (up (M 62) 2 (e + 1)) 5 c)) 64 N) 62 (up (up ((up (up (M 62) 2 (e + 1)) 5 c)) 2 ((e + 1) + (dgs ((M 63)) ((M 62 1)) 3 ((e + 1))))) 5 (c + 1))) 64 (up (N) (c) (nmv ((M 63)) ((e + 1)) (dgs ((M 63)) ((M 62 1)) 3 ((e + 1))).toNat))) [(0, rf g 62), (1, iv 12), (2, iv w), (3, iv n)] [iv 1] 31
                rw [show ((up1 (up1 (up1 (up1 M 62 (up (up (M 62) 2 (e + 1)) 5 c)) 64 N) 62 (up (up ((up (up (M 62) 2 (e + 1)) 5 c)) 2 ((e + 1) + (dgs ((M 63)) ((M 62 1)) 3 ((e + 1))))) 5 (c + 1))) 64 (up (N) (c) (nmv ((M 63)) ((e + 1)) (dgs ((M 63)) ((M 62 1)) 3 ((e + 1))).toNat))) : Mem) = (up1 (up1 M 62 (up (up ((up (up (M 62) 2 (e + 1)) 5 c)) 2 ((e + 1) + (dgs ((M 63)) ((M 62 1)) 3 ((e + 1))))) 5 (c + 1))) 64 (up (N) (c) (nmv ((M 63)) ((e + 1)) (dgs ((M 63)) ((M 62 1)) 3 ((e + 1))).toNat))) from (by
                      funext j
                      by_cases hj0 : j = 62
                      · subst hj0; simp [up1, up1_self]
                      by_cases hj1 : j = 64
                      · subst hj1; simp [up1, up1_self]
                      simp [up1, hj0, hj1])]
                have hz := h19
                have hb1 : ((1 : Int) = 1 ∧ (c + 1) = (n + 1) ∧ (e + 1 + (dgs (M 63) (M 62 1) 3 (e + 1))) = (nst (M 63) (M 62 1) (M 62 2) ((n + 1) - 1).toNat) + (dgs (M 63) (M 62 1) 3 (nst (M 63) (M 62 1) (M 62 2) ((n + 1) - 1).toNat)) ∧ 0 < (dgs (M 63) (M 62 1) 3 (nst (M 63) (M 62 1) (M 62 2) ((n + 1) - 1).toNat)) ∧ (nrd (M 63) (M 62 1) (M 62 2) 12 0) = nrd (M 63) (M 62 1) (M 62 2) (12 - (n + 1) + 1).toNat ((n + 1) - 1).toNat) ∨ ((1 : Int) = 0 ∧ (nrd (M 63) (M 62 1) (M 62 2) 12 0) = (0, (e + 1 + (dgs (M 63) (M 62 1) 3 (e + 1))), (c + 1))) := Or.inl ⟨rfl, by omega, by rw [show n + 1 - 1 = n by omega, hst], by rw [show n + 1 - 1 = n by omega, hst]; exact hz, by rw [hRn, show n + 1 - 1 = n by omega, show (12 - n).toNat = (12 - (n + 1) + 1).toNat by omega]⟩
                have hb0 : 1 ≤ n + 1 ∧ n + 1 ≤ 12 ∧ 0 ≤ c + 1 ∧ c + 1 ≤ n + 1 ∧ 0 ≤ e + 1 + (dgs (M 63) (M 62 1) 3 (e + 1)) ∧ e + 1 + (dgs (M 63) (M 62 1) 3 (e + 1)) ≤ 801 := by omega
                have hb3 : (1 : Int) = 1 → e + 1 + (dgs (M 63) (M 62 1) 3 (e + 1)) ≤ 100 := by omega
                have hb2 := up_lt (G := (fun j => nmv (M 63) (nst (M 63) (M 62 1) (M 62 2) j.toNat) (dgs (M 63) (M 62 1) 3 (nst (M 63) (M 62 1) (M 62 2) j.toNat)).toNat)) (v := nmv (M 63) (e + 1) (dgs (M 63) (M 62 1) 3 (e + 1)).toNat) i8_2 (by show _ = nmv (M 63) (nst (M 63) (M 62 1) (M 62 2) c.toNat) (dgs (M 63) (M 62 1) 3 (nst (M 63) (M 62 1) (M 62 2) c.toNat)).toNat; rw [hv.2.1, hst])
                rw [show ((up1 (up1 M 62 (up (up ((up (up (M 62) 2 (e + 1)) 5 c)) 2 ((e + 1) + (dgs ((M 63)) ((M 62 1)) 3 ((e + 1))))) 5 (c + 1))) 64 (up (N) (c) (nmv ((M 63)) ((e + 1)) (dgs ((M 63)) ((M 62 1)) 3 ((e + 1))).toNat))) : Mem) = (up1 (up1 M 62 (up (up (M 62) 2 (e + 1 + (dgs (M 63) (M 62 1) 3 (e + 1)))) 5 (c + 1))) 64 (up N c (nmv (M 63) (e + 1) (dgs (M 63) (M 62 1) 3 (e + 1)).toNat))) from (by rw [up4])]
                refine v_istore_n ok [(2, iv 1), (0, rf g 62), (1, iv 12), (3, iv n)] dX5_readNumbers_31 rfl (by decide) rfl ?_
                refine v_iinc ok 3 [(3, iv (n + 1)), (2, iv 1), (0, rf g 62), (1, iv 12)] dX5_readNumbers_32 rfl (by decide) rfl ?_
                refine v_goto (tgt := 8) ok dX5_readNumbers_35 (by decide) ?_
                refine v_lv (ls' := [(0, rf g 62), (1, iv 12), (2, iv 1), (3, iv (n + 1))]) ok [2, 3, 1, 0] rfl ?_
                exact ih8 1 (n + 1) (e + 1 + (dgs (M 63) (M 62 1) 3 (e + 1))) (c + 1) (up N c (nmv (M 63) (e + 1) (dgs (M 63) (M 62 1) 3 (e + 1)).toNat)) hb0 hb1 hb2 hb3 (by omega)
    refine v_lv (ls' := [(0, rf g 62), (1, iv 12), (2, iv 0), (3, iv 1)]) ok [2, 3, 1, 0] rfl ?_
    rw [show ((up1 (up1 M 62 (up (up (M 62) 2 (M 62 2 + (dgs (M 63) (M 62 1) 3 (M 62 2)))) 5 0)) 64 (M 64)) : Mem) = (up1 (up1 M 62 (up (up (M 62) 2 (M 62 2 + (dgs (M 63) (M 62 1) 3 (M 62 2)))) 5 (0 : Int))) 64 (M 64)) from (by
          funext j
          by_cases hj0 : j = 62
          · subst hj0; simp [up1, up1_self]
          by_cases hj1 : j = 64
          · subst hj1; simp [up1, up1_self]
          simp [up1, hj0, hj1])]
    exact lp8 _ 0 1 (M 62 2 + (dgs (M 63) (M 62 1) 3 (M 62 2))) 0 (M 64) hb0 hb1 hb2 hb3 (Nat.lt_succ_self _)
  · skip
    have h5 : 0 < (dgs ((M 63)) ((M 62) 1) 3 ((M 62) 2)) := h5
    show V z g 4 (up1 (up1 M 62 (up (up ((M 62)) 2 ((M 62) 2 + (dgs ((M 63)) ((M 62) 1) 3 ((M 62) 2)))) 5 ((M 62) 5 + 1))) 64 (up ((M 64)) ((M 62) 5) (nmv ((M 63)) ((M 62) 2) (dgs ((M 63)) ((M 62) 1) 3 ((M 62) 2)).toNat))) [(0, rf g 62), (1, iv 12)] [iv 1] 5
    have hrg := dgs_rng (T := M 63) (L := M 62 1) 3 (M 62 2)
    have hz := h5
    have hb1 : ((1 : Int) = 1 ∧ (1 : Int) = (1 : Int) ∧ (M 62 2 + (dgs (M 63) (M 62 1) 3 (M 62 2))) = (nst (M 63) (M 62 1) (M 62 2) ((1 : Int) - 1).toNat) + (dgs (M 63) (M 62 1) 3 (nst (M 63) (M 62 1) (M 62 2) ((1 : Int) - 1).toNat)) ∧ 0 < (dgs (M 63) (M 62 1) 3 (nst (M 63) (M 62 1) (M 62 2) ((1 : Int) - 1).toNat)) ∧ (nrd (M 63) (M 62 1) (M 62 2) 12 0) = nrd (M 63) (M 62 1) (M 62 2) (12 - (1 : Int) + 1).toNat ((1 : Int) - 1).toNat) ∨ ((1 : Int) = 0 ∧ (nrd (M 63) (M 62 1) (M 62 2) 12 0) = (0, (M 62 2 + (dgs (M 63) (M 62 1) 3 (M 62 2))), (1 : Int))) := Or.inl ⟨rfl, rfl, rfl, hz, rfl⟩
    have hb0 : (1 : Int) ≤ 1 ∧ (1 : Int) ≤ 12 ∧ (0 : Int) ≤ 1 ∧ (1 : Int) ≤ 1 ∧ 0 ≤ M 62 2 + (dgs (M 63) (M 62 1) 3 (M 62 2)) ∧ M 62 2 + (dgs (M 63) (M 62 1) 3 (M 62 2)) ≤ 801 := by omega
    have hb2 : ∀ j : Int, 0 ≤ j → j < (1 : Int) → (up (M 64) 0 (nmv (M 63) (M 62 2) (dgs (M 63) (M 62 1) 3 (M 62 2)).toNat)) j = nmv (M 63) (nst (M 63) (M 62 1) (M 62 2) j.toNat) (dgs (M 63) (M 62 1) 3 (nst (M 63) (M 62 1) (M 62 2) j.toNat)).toNat := fun j j0 j1 => by
      have ej : j = 0 := by omega
      subst ej
      exact up_same _ _ _
    have hb3 : (1 : Int) = 1 → M 62 2 + (dgs (M 63) (M 62 1) 3 (M 62 2)) ≤ 100 := by omega
    rw [show ((up1 (up1 M 62 (up (up ((M 62)) 2 ((M 62) 2 + (dgs ((M 63)) ((M 62) 1) 3 ((M 62) 2)))) 5 ((M 62) 5 + 1))) 64 (up ((M 64)) ((M 62) 5) (nmv ((M 63)) ((M 62) 2) (dgs ((M 63)) ((M 62) 1) 3 ((M 62) 2)).toNat))) : Mem) = (up1 (up1 M 62 (up (up (M 62) 2 (M 62 2 + (dgs (M 63) (M 62 1) 3 (M 62 2)))) 5 1)) 64 (up (M 64) 0 (nmv (M 63) (M 62 2) (dgs (M 63) (M 62 1) 3 (M 62 2)).toNat))) from (by rw [hm0]; rfl)]
    refine v_istore_n ok [(2, iv 1), (0, rf g 62), (1, iv 12)] dX5_readNumbers_5 rfl (by decide) rfl ?_
    refine v_iconst (n := 1) ok dX5_readNumbers_6 ?_
    refine v_istore_n ok [(3, iv 1), (2, iv 1), (0, rf g 62), (1, iv 12)] dX5_readNumbers_7 rfl (by decide) rfl ?_
    have lp8x : ∀ (fu : Nat) (w n e c : Int) (N : Int → Int), (1 ≤ n ∧ n ≤ 12 ∧ 0 ≤ c ∧ c ≤ n ∧ 0 ≤ e ∧ e ≤ 801) → ((w = 1 ∧ c = n ∧ e = (nst (M 63) (M 62 1) (M 62 2) (n - 1).toNat) + (dgs (M 63) (M 62 1) 3 (nst (M 63) (M 62 1) (M 62 2) (n - 1).toNat)) ∧ 0 < (dgs (M 63) (M 62 1) 3 (nst (M 63) (M 62 1) (M 62 2) (n - 1).toNat)) ∧ (nrd (M 63) (M 62 1) (M 62 2) 12 0) = nrd (M 63) (M 62 1) (M 62 2) (12 - n + 1).toNat (n - 1).toNat) ∨ (w = 0 ∧ (nrd (M 63) (M 62 1) (M 62 2) 12 0) = (0, e, c))) → (∀ j : Int, 0 ≤ j → j < c → N j = nmv (M 63) (nst (M 63) (M 62 1) (M 62 2) j.toNat) (dgs (M 63) (M 62 1) 3 (nst (M 63) (M 62 1) (M 62 2) j.toNat)).toNat) → (w = 1 → e ≤ 100) → (12 + 1 - n).toNat < fu → V z g 4 (up1 (up1 M 62 (up (up (M 62) 2 e) 5 c)) 64 N) [(0, rf g 62), (1, iv 12), (2, iv w), (3, iv n)] [] 8 := by
      intro fu
      induction fu with
      | zero => intro w n e c N _ _ _ _ hm; exact absurd hm (Nat.not_lt_zero _)
      | succ fu ih8 =>
        intro w n e c N i8_0 i8_1 i8_2 i8_3 hm8
        refine v_iload_n ok 3 dX5_readNumbers_8 rfl rfl ?_
        refine v_iload_n ok 1 dX5_readNumbers_9 rfl rfl ?_
        refine v_icmp_ge (tgt := 38) ok ⟨by omega, by omega⟩ (by decide) dX5_readNumbers_10 (by decide) (fun c20 => ?_) (fun c20 => ?_)
        · skip
          have hR : (nrd (M 63) (M 62 1) (M 62 2) 12 0) = (w, e, c) := by
            rcases i8_1 with q | q
            · rw [q.2.2.2.2, show (12 - n + 1).toNat = 0 + 1 by omega, nrd_e q.2.2.2.1 (Or.inl rfl), ← q.2.2.1, q.1, q.2.1]
              congr 2
              omega
            · rw [q.2, q.1]
          have hN : ∀ j : Int, 0 ≤ j → j < (nrd (M 63) (M 62 1) (M 62 2) 12 0).2.2 → N j = nmv (M 63) (nst (M 63) (M 62 1) (M 62 2) j.toNat) (dgs (M 63) (M 62 1) 3 (nst (M 63) (M 62 1) (M 62 2) j.toNat)).toNat := by
            rw [hR]
            exact i8_2
          refine v_iload_n ok 2 dX5_readNumbers_38 rfl rfl ?_
          exact v_zret ok rt (by (have h01 : w = 0 ∨ w = 1 := (by omega); exact h01)) dX5_readNumbers_39 (⟨N, (congrArg (fun q : Int => some (iv q)) (show w = (nrd (M 63) (M 62 1) (M 62 2) 12 0).1 from by (rw [hR]))), (by rw [hR]), hN⟩)
        · skip
          refine v_iload_n ok 2 dX5_readNumbers_13 rfl rfl ?_
          refine v_if_eq (tgt := 38) ok ⟨by omega, by omega⟩ dX5_readNumbers_14 (by decide) (fun c21 => ?_) (fun c21 => ?_)
          · skip
            have hR : (nrd (M 63) (M 62 1) (M 62 2) 12 0) = (w, e, c) := by
              rcases i8_1 with q | q
              · omega
              · rw [q.2, q.1]
            have hN : ∀ j : Int, 0 ≤ j → j < (nrd (M 63) (M 62 1) (M 62 2) 12 0).2.2 → N j = nmv (M 63) (nst (M 63) (M 62 1) (M 62 2) j.toNat) (dgs (M 63) (M 62 1) 3 (nst (M 63) (M 62 1) (M 62 2) j.toNat)).toNat := by
              rw [hR]
              exact i8_2
            refine v_iload_n ok 2 dX5_readNumbers_38 rfl rfl ?_
            exact v_zret ok rt (by (have h01 : w = 0 ∨ w = 1 := (by omega); exact h01)) dX5_readNumbers_39 (⟨N, (congrArg (fun q : Int => some (iv q)) (show w = (nrd (M 63) (M 62 1) (M 62 2) 12 0).1 from by (rw [hR]))), (by rw [hR]), hN⟩)
          · skip
            have hv : w = 1 ∧ c = n ∧ e = (nst (M 63) (M 62 1) (M 62 2) (n - 1).toNat) + (dgs (M 63) (M 62 1) 3 (nst (M 63) (M 62 1) (M 62 2) (n - 1).toNat)) ∧ 0 < (dgs (M 63) (M 62 1) 3 (nst (M 63) (M 62 1) (M 62 2) (n - 1).toNat)) ∧ (nrd (M 63) (M 62 1) (M 62 2) 12 0) = nrd (M 63) (M 62 1) (M 62 2) (12 - n + 1).toNat (n - 1).toNat := by
              rcases i8_1 with q | q
              · exact q
              · omega
            have he1 := i8_3 hv.1
            refine v_aload_n ok 0 dX5_readNumbers_17 rfl rfl ?_
            refine v_bipush (n := 44) ok rfl dX5_readNumbers_18 ?_
            refine v_callV (na := 1) (i := 62) (C := RX5) (T := TX5) (N := 6) (f0 := (up (up (M 62) 2 e) 5 c)) ok (ct_X5_stepOver z.2.1 g (up1 (up1 M 62 (up (up (M 62) 2 e) 5 c)) 64 N) 44 (by show 0 ≤ (M 62 1) ∧ (M 62 1) ≤ 100; first | omega | assumption) (by show 0 ≤ e ∧ e ≤ 1000; first | omega | assumption) (by show bdf ((M 63)) 100 0 127; first | omega | assumption) (by decide)) gX5_readNumbers_X5_stepOver (kd_lt (show kd 62 = 5 from rfl) (by decide)) rfl rfl (cellF_5 _ (by decide)) rfl (by decide +kernel) rfl (by decide) [] rfl (Nat.le_of_ble_eq_true rfl) dX5_readNumbers_20 (fun v23 M24 hp22 => ?_)
            rcases hp22 with ⟨rfl, rfl, h25⟩ | ⟨rfl, rfl, h26⟩
            · skip
              have h25 : (sgn ((M 63)) ((M 62 1)) (e)) ≠ 44 := h25
              show V z g 4 (up1 (up1 M 62 (up (up (M 62) 2 e) 5 c)) 64 N) [(0, rf g 62), (1, iv 12), (2, iv w), (3, iv n)] [iv 0] 23
              have hR : (nrd (M 63) (M 62 1) (M 62 2) 12 0) = (w, e, c) := by
                rw [hv.2.2.2.2, show (12 - n + 1).toNat = (12 - n).toNat + 1 by omega, nrd_e hv.2.2.2.1 (Or.inr (by rw [← hv.2.2.1]; exact h25)), ← hv.2.2.1, hv.1, hv.2.1]
                congr 2
                omega
              refine v_if_eq (tgt := 38) ok (by decide) dX5_readNumbers_23 (by decide) (fun c27 => ?_) (fun c27 => absurd c27 (by decide))
              have hN : ∀ j : Int, 0 ≤ j → j < (nrd (M 63) (M 62 1) (M 62 2) 12 0).2.2 → N j = nmv (M 63) (nst (M 63) (M 62 1) (M 62 2) j.toNat) (dgs (M 63) (M 62 1) 3 (nst (M 63) (M 62 1) (M 62 2) j.toNat)).toNat := by
                rw [hR]
                exact i8_2
              refine v_iload_n ok 2 dX5_readNumbers_38 rfl rfl ?_
              exact v_zret ok rt (by (have h01 : w = 0 ∨ w = 1 := (by omega); exact h01)) dX5_readNumbers_39 (⟨N, (congrArg (fun q : Int => some (iv q)) (show w = (nrd (M 63) (M 62 1) (M 62 2) 12 0).1 from by (rw [hR]))), (by rw [hR]), hN⟩)
            · skip
              have h26 : (sgn ((M 63)) ((M 62 1)) (e)) = 44 := h26
              show V z g 4 (up1 (up1 (up1 M 62 (up (up (M 62) 2 e) 5 c)) 64 N) 62 (up ((up (up (M 62) 2 e) 5 c)) 2 (e + 1))) [(0, rf g 62), (1, iv 12), (2, iv w), (3, iv n)] [iv 1] 23
              rw [show ((up1 (up1 (up1 M 62 (up (up (M 62) 2 e) 5 c)) 64 N) 62 (up ((up (up (M 62) 2 e) 5 c)) 2 (e + 1))) : Mem) = (up1 (up1 M 62 (up ((up (up (M 62) 2 e) 5 c)) 2 (e + 1))) 64 N) from (by
                    funext j
                    by_cases hj0 : j = 62
                    · subst hj0; simp [up1, up1_self]
                    by_cases hj1 : j = 64
                    · subst hj1; simp [up1, up1_self]
                    simp [up1, hj0, hj1])]
              have hcm := h26
              have hn1 : (n - 1).toNat + 1 = n.toNat := by omega
              have hst : (nst (M 63) (M 62 1) (M 62 2) n.toNat) = e + 1 := by
                rw [← hn1, nst, ← hv.2.2.1]
              have hRn : (nrd (M 63) (M 62 1) (M 62 2) 12 0) = nrd (M 63) (M 62 1) (M 62 2) (12 - n).toNat n.toNat := by
                rw [hv.2.2.2.2, show (12 - n + 1).toNat = (12 - n).toNat + 1 by omega, nrd_n hv.2.2.2.1 (by omega) (by rw [← hv.2.2.1]; exact hcm), hn1]
              have hrg := dgs_rng (T := M 63) (L := M 62 1) 3 (e + 1)
              rw [show ((up1 (up1 M 62 (up ((up (up (M 62) 2 e) 5 c)) 2 (e + 1))) 64 N) : Mem) = (up1 (up1 M 62 (up (up (M 62) 2 (e + 1)) 5 c)) 64 N) from (by rw [up3])]
              refine v_if_eq (tgt := 38) ok (by decide) dX5_readNumbers_23 (by decide) (fun c28 => absurd c28 (by decide)) (fun c28 => ?_)
              refine v_aload_n ok 0 dX5_readNumbers_26 rfl rfl ?_
              refine v_iconst (n := 3) ok dX5_readNumbers_27 ?_
              refine v_callV (na := 1) (i := 62) (C := RX5) (T := TX5) (N := 6) (f0 := (up (up (M 62) 2 (e + 1)) 5 c)) ok (ct_X5_readNumber_3 z.2.1 g (up1 (up1 M 62 (up (up (M 62) 2 (e + 1)) 5 c)) 64 N)  (by show 0 ≤ (M 62 1) ∧ (M 62 1) ≤ 100; first | omega | assumption) (by show 0 ≤ (e + 1) ∧ (e + 1) ≤ 900; first | omega | assumption) (by show bdf ((M 63)) 100 0 127; first | omega | assumption) (by show 0 ≤ c ∧ c < 12; first | omega | assumption)) gX5_readNumbers_X5_readNumber (kd_lt (show kd 62 = 5 from rfl) (by decide)) rfl rfl (cellF_5 _ (by decide)) rfl (by decide +kernel) rfl (by decide) [] rfl (Nat.le_of_ble_eq_true rfl) dX5_readNumbers_28 (fun v30 M31 hp29 => ?_)
              rcases hp29 with ⟨rfl, rfl, h32⟩ | ⟨rfl, rfl, h33⟩
              · skip
                have h32 : (dgs ((M 63)) ((M 62 1)) 3 ((e + 1))) = 0 := h32
                show V z g 4 (up1 (up1 (up1 M 62 (up (up (M 62) 2 (e + 1)) 5 c)) 64 N) 62 (up ((up (up (M 62) 2 (e + 1)) 5 c)) 2 ((e + 1) + (dgs ((M 63)) ((M 62 1)) 3 ((e + 1)))))) [(0, rf g 62), (1, iv 12), (2, iv w), (3, iv n)] [iv 0] 31
                rw [show ((up1 (up1 (up1 M 62 (up (up (M 62) 2 (e + 1)) 5 c)) 64 N) 62 (up ((up (up (M 62) 2 (e + 1)) 5 c)) 2 ((e + 1) + (dgs ((M 63)) ((M 62 1)) 3 ((e + 1)))))) : Mem) = (up1 (up1 M 62 (up ((up (up (M 62) 2 (e + 1)) 5 c)) 2 ((e + 1) + (dgs ((M 63)) ((M 62 1)) 3 ((e + 1)))))) 64 N) from (by
                      funext j
                      by_cases hj0 : j = 62
                      · subst hj0; simp [up1, up1_self]
                      by_cases hj1 : j = 64
                      · subst hj1; simp [up1, up1_self]
                      simp [up1, hj0, hj1])]
                have hz := h32
                have hb1 : ((0 : Int) = 1 ∧ c = (n + 1) ∧ (e + 1 + (dgs (M 63) (M 62 1) 3 (e + 1))) = (nst (M 63) (M 62 1) (M 62 2) ((n + 1) - 1).toNat) + (dgs (M 63) (M 62 1) 3 (nst (M 63) (M 62 1) (M 62 2) ((n + 1) - 1).toNat)) ∧ 0 < (dgs (M 63) (M 62 1) 3 (nst (M 63) (M 62 1) (M 62 2) ((n + 1) - 1).toNat)) ∧ (nrd (M 63) (M 62 1) (M 62 2) 12 0) = nrd (M 63) (M 62 1) (M 62 2) (12 - (n + 1) + 1).toNat ((n + 1) - 1).toNat) ∨ ((0 : Int) = 0 ∧ (nrd (M 63) (M 62 1) (M 62 2) 12 0) = (0, (e + 1 + (dgs (M 63) (M 62 1) 3 (e + 1))), c)) := Or.inr ⟨rfl, by
                  rw [hRn, show (12 - n).toNat = (12 - n - 1).toNat + 1 by omega, nrd_f (by rw [hst]; exact hz), hst, hz, Int.add_zero, hv.2.1, Int.toNat_of_nonneg (by omega)]⟩
                have hb0 : 1 ≤ n + 1 ∧ n + 1 ≤ 12 ∧ 0 ≤ c ∧ c ≤ n + 1 ∧ 0 ≤ e + 1 + (dgs (M 63) (M 62 1) 3 (e + 1)) ∧ e + 1 + (dgs (M 63) (M 62 1) 3 (e + 1)) ≤ 801 := by omega
                have hb2 := i8_2
                have hb3 : (0 : Int) = 1 → e + 1 + (dgs (M 63) (M 62 1) 3 (e + 1)) ≤ 100 := by omega
                rw [show ((up1 (up1 M 62 (up ((up (up (M 62) 2 (e + 1)) 5 c)) 2 ((e + 1) + (dgs ((M 63)) ((M 62 1)) 3 ((e + 1)))))) 64 N) : Mem) = (up1 (up1 M 62 (up (up (M 62) 2 (e + 1 + (dgs (M 63) (M 62 1) 3 (e + 1)))) 5 c)) 64 N) from (by rw [up3])]
                refine v_istore_n ok [(2, iv 0), (0, rf g 62), (1, iv 12), (3, iv n)] dX5_readNumbers_31 rfl (by decide) rfl ?_
                refine v_iinc ok 3 [(3, iv (n + 1)), (2, iv 0), (0, rf g 62), (1, iv 12)] dX5_readNumbers_32 rfl (by decide) rfl ?_
                refine v_goto (tgt := 8) ok dX5_readNumbers_35 (by decide) ?_
                refine v_lv (ls' := [(0, rf g 62), (1, iv 12), (2, iv 0), (3, iv (n + 1))]) ok [2, 3, 1, 0] rfl ?_
                exact ih8 0 (n + 1) (e + 1 + (dgs (M 63) (M 62 1) 3 (e + 1))) c N hb0 hb1 hb2 hb3 (by omega)
              · skip
                have h33 : 0 < (dgs ((M 63)) ((M 62 1)) 3 ((e + 1))) := h33
                show V z g 4 (up1 (up1 (up1 (up1 M 62 (up (up (M 62) 2 (e + 1)) 5 c)) 64 N) 62 (up (up ((up (up (M 62) 2 (e + 1)) 5 c)) 2 ((e + 1) + (dgs ((M 63)) ((M 62 1)) 3 ((e + 1))))) 5 (c + 1))) 64 (up (N) (c) (nmv ((M 63)) ((e + 1)) (dgs ((M 63)) ((M 62 1)) 3 ((e + 1))).toNat))) [(0, rf g 62), (1, iv 12), (2, iv w), (3, iv n)] [iv 1] 31
                rw [show ((up1 (up1 (up1 (up1 M 62 (up (up (M 62) 2 (e + 1)) 5 c)) 64 N) 62 (up (up ((up (up (M 62) 2 (e + 1)) 5 c)) 2 ((e + 1) + (dgs ((M 63)) ((M 62 1)) 3 ((e + 1))))) 5 (c + 1))) 64 (up (N) (c) (nmv ((M 63)) ((e + 1)) (dgs ((M 63)) ((M 62 1)) 3 ((e + 1))).toNat))) : Mem) = (up1 (up1 M 62 (up (up ((up (up (M 62) 2 (e + 1)) 5 c)) 2 ((e + 1) + (dgs ((M 63)) ((M 62 1)) 3 ((e + 1))))) 5 (c + 1))) 64 (up (N) (c) (nmv ((M 63)) ((e + 1)) (dgs ((M 63)) ((M 62 1)) 3 ((e + 1))).toNat))) from (by
                      funext j
                      by_cases hj0 : j = 62
                      · subst hj0; simp [up1, up1_self]
                      by_cases hj1 : j = 64
                      · subst hj1; simp [up1, up1_self]
                      simp [up1, hj0, hj1])]
                have hz := h33
                have hb1 : ((1 : Int) = 1 ∧ (c + 1) = (n + 1) ∧ (e + 1 + (dgs (M 63) (M 62 1) 3 (e + 1))) = (nst (M 63) (M 62 1) (M 62 2) ((n + 1) - 1).toNat) + (dgs (M 63) (M 62 1) 3 (nst (M 63) (M 62 1) (M 62 2) ((n + 1) - 1).toNat)) ∧ 0 < (dgs (M 63) (M 62 1) 3 (nst (M 63) (M 62 1) (M 62 2) ((n + 1) - 1).toNat)) ∧ (nrd (M 63) (M 62 1) (M 62 2) 12 0) = nrd (M 63) (M 62 1) (M 62 2) (12 - (n + 1) + 1).toNat ((n + 1) - 1).toNat) ∨ ((1 : Int) = 0 ∧ (nrd (M 63) (M 62 1) (M 62 2) 12 0) = (0, (e + 1 + (dgs (M 63) (M 62 1) 3 (e + 1))), (c + 1))) := Or.inl ⟨rfl, by omega, by rw [show n + 1 - 1 = n by omega, hst], by rw [show n + 1 - 1 = n by omega, hst]; exact hz, by rw [hRn, show n + 1 - 1 = n by omega, show (12 - n).toNat = (12 - (n + 1) + 1).toNat by omega]⟩
                have hb0 : 1 ≤ n + 1 ∧ n + 1 ≤ 12 ∧ 0 ≤ c + 1 ∧ c + 1 ≤ n + 1 ∧ 0 ≤ e + 1 + (dgs (M 63) (M 62 1) 3 (e + 1)) ∧ e + 1 + (dgs (M 63) (M 62 1) 3 (e + 1)) ≤ 801 := by omega
                have hb3 : (1 : Int) = 1 → e + 1 + (dgs (M 63) (M 62 1) 3 (e + 1)) ≤ 100 := by omega
                have hb2 := up_lt (G := (fun j => nmv (M 63) (nst (M 63) (M 62 1) (M 62 2) j.toNat) (dgs (M 63) (M 62 1) 3 (nst (M 63) (M 62 1) (M 62 2) j.toNat)).toNat)) (v := nmv (M 63) (e + 1) (dgs (M 63) (M 62 1) 3 (e + 1)).toNat) i8_2 (by show _ = nmv (M 63) (nst (M 63) (M 62 1) (M 62 2) c.toNat) (dgs (M 63) (M 62 1) 3 (nst (M 63) (M 62 1) (M 62 2) c.toNat)).toNat; rw [hv.2.1, hst])
                rw [show ((up1 (up1 M 62 (up (up ((up (up (M 62) 2 (e + 1)) 5 c)) 2 ((e + 1) + (dgs ((M 63)) ((M 62 1)) 3 ((e + 1))))) 5 (c + 1))) 64 (up (N) (c) (nmv ((M 63)) ((e + 1)) (dgs ((M 63)) ((M 62 1)) 3 ((e + 1))).toNat))) : Mem) = (up1 (up1 M 62 (up (up (M 62) 2 (e + 1 + (dgs (M 63) (M 62 1) 3 (e + 1)))) 5 (c + 1))) 64 (up N c (nmv (M 63) (e + 1) (dgs (M 63) (M 62 1) 3 (e + 1)).toNat))) from (by rw [up4])]
                refine v_istore_n ok [(2, iv 1), (0, rf g 62), (1, iv 12), (3, iv n)] dX5_readNumbers_31 rfl (by decide) rfl ?_
                refine v_iinc ok 3 [(3, iv (n + 1)), (2, iv 1), (0, rf g 62), (1, iv 12)] dX5_readNumbers_32 rfl (by decide) rfl ?_
                refine v_goto (tgt := 8) ok dX5_readNumbers_35 (by decide) ?_
                refine v_lv (ls' := [(0, rf g 62), (1, iv 12), (2, iv 1), (3, iv (n + 1))]) ok [2, 3, 1, 0] rfl ?_
                exact ih8 1 (n + 1) (e + 1 + (dgs (M 63) (M 62 1) 3 (e + 1))) (c + 1) (up N c (nmv (M 63) (e + 1) (dgs (M 63) (M 62 1) 3 (e + 1)).toNat)) hb0 hb1 hb2 hb3 (by omega)
    refine v_lv (ls' := [(0, rf g 62), (1, iv 12), (2, iv 1), (3, iv 1)]) ok [2, 3, 1, 0] rfl ?_
    rw [show ((up1 (up1 M 62 (up (up (M 62) 2 (M 62 2 + (dgs (M 63) (M 62 1) 3 (M 62 2)))) 5 1)) 64 (up (M 64) 0 (nmv (M 63) (M 62 2) (dgs (M 63) (M 62 1) 3 (M 62 2)).toNat))) : Mem) = (up1 (up1 M 62 (up (up (M 62) 2 (M 62 2 + (dgs (M 63) (M 62 1) 3 (M 62 2)))) 5 (1 : Int))) 64 (up (M 64) 0 (nmv (M 63) (M 62 2) (dgs (M 63) (M 62 1) 3 (M 62 2)).toNat))) from (by
          funext j
          by_cases hj0 : j = 62
          · subst hj0; simp [up1, up1_self]
          by_cases hj1 : j = 64
          · subst hj1; simp [up1, up1_self]
          simp [up1, hj0, hj1])]
    exact lp8x _ 1 1 (M 62 2 + (dgs (M 63) (M 62 1) 3 (M 62 2))) 1 (up (M 64) 0 (nmv (M 63) (M 62 2) (dgs (M 63) (M 62 1) 3 (M 62 2)).toNat)) hb0 hb1 hb2 hb3 (Nat.lt_succ_self _)
