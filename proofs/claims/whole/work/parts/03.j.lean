theorem mk_X9_see_12 : Cond.fieldLink RX9 12 "StormRunoff" "now" "LStormRunoff$State;" ∈ wsX9_see := by decide +kernel
theorem mi_X9_see_9 : ∀ w ∈ wsX90, w ∈ wsX9_see := by decide +kernel
theorem mk_X9_see_185 : Cond.fieldLink RX9 185 "StormRunoff$State" "seen" "LStormRunoff$Rows;" ∈ wsX9_see := by decide +kernel
theorem mi_X9_see_7 : ∀ w ∈ wsX70, w ∈ wsX9_see := by decide +kernel
set_option maxRecDepth 100000 in
set_option maxHeartbeats 400000 in
theorem ct_X9_see (l : Launch) (g : Gl) (M : Mem) (h n : Int) (hh : i32 h) (hn : i32 n) (hr : 0 ≤ M 12 3 ∧ M 12 3 ≤ M 12 2 ∧ M 12 2 ≤ 8) : Ct l g yX9_see wsX9_see 2 44 [rf g 0, iv h, iv n] M (fun rv M' => (rv = some (iv 0) ∧ M' = (up1 M 12 (up (M 12) 3 0)) ∧ (h = -1)) ∨ (rv = some (iv (-1)) ∧ M' = M ∧ (h ≠ -1) ∧ (¬ (0 ≤ h ∧ h ≤ 29))) ∨ (rv = some (iv (-2)) ∧ M' = M ∧ (0 ≤ h ∧ h ≤ 29) ∧ (¬ (0 ≤ n ∧ n ≤ 9999))) ∨ (rv = some (iv (-4)) ∧ M' = M ∧ (0 ≤ h ∧ h ≤ 29) ∧ (0 ≤ n ∧ n ≤ 9999) ∧ (M 12 3 = M 12 2)) ∨ (rv = some (iv (M 12 3 + 1)) ∧ M' = (up1 (up1 (up1 M 13 (up (M 13) (M 12 3) h)) 14 (up (M 14) (M 12 3) n)) 12 (up (M 12) 3 (M 12 3 + 1))) ∧ (0 ≤ h ∧ h ≤ 29) ∧ (0 ≤ n ∧ n ≤ 9999) ∧ (M 12 3 < M 12 2))) := by
  refine Ct.of (cc := cX9_see) (nL := 3) (ret := (some .int)) (by decide) rfl (Nat.le_of_ble_eq_true rfl) (fun z hz ok rt => ?_)
  have ok : Ok z g cX9_see 3 RX9 wsX9_see 2 44 := ok
  show V z g 3 M [(0, rf g 0), (1, iv h), (2, iv n)] [] 0
  refine v_aload_n ok 0 dX9_see_0 rfl rfl ?_
  refine v_get (T := TX9) (N := 9) (f0 := (M 0)) (v := rf g 1) ok mi_X9_see_9 (kd_lt (show kd 0 = 9 from rfl) (by decide)) rfl rfl (cellF_9 _ (by decide)) 0 (by decide) mk_X9_see_12 rfl rfl dX9_see_1 ?_
  refine v_get (T := TX7) (N := 5) (f0 := (M 1)) (v := rf g 12) ok mi_X9_see_7 (kd_lt (show kd 1 = 7 from rfl) (by decide)) rfl rfl (cellF_7 _ (by decide)) 2 (by decide) mk_X9_see_185 rfl rfl dX9_see_4 ?_
  refine v_iload_n ok 1 dX9_see_7 rfl rfl ?_
  refine v_iload_n ok 2 dX9_see_8 rfl rfl ?_
  refine v_callS (na := 3) ok (ct_X9_tellByHand z.2.1 g M 12 h n (by decide) hr hh hn) gX9_see_X9_tellByHand rfl (by decide +kernel) rfl (by decide) [] rfl (Nat.le_of_ble_eq_true rfl) dX9_see_9 (fun v2 M3 hp1 => ?_)
  rcases hp1 with ⟨rfl, rfl, h4⟩ | ⟨rfl, eM3, h5, h6⟩ | ⟨rfl, eM3, h7, h8⟩ | ⟨rfl, eM3, h9, h10, h11⟩ | ⟨rfl, rfl, h12, h13, h14⟩
  · skip
    show V z g 3 (up1 M 12 (up ((M 12)) 3 0)) [(0, rf g 0), (1, iv h), (2, iv n)] [iv 0] 12
    first | (exact v_iret ok rt dX9_see_12 (Or.inl (⟨rfl, rfl, (by omega)⟩))) | (exact v_iret ok rt dX9_see_12 (Or.inr (Or.inr (Or.inr (Or.inr (⟨(congrArg (fun q : Int => some (iv q)) (show 0 = (M 12 3 + 1) from by omega)), (by
          funext j
          by_cases hj0 : j = 13
          · subst hj0; simp [up1, up1_self]
          by_cases hj1 : j = 14
          · subst hj1; simp [up1, up1_self]
          by_cases hj2 : j = 12
          · subst hj2; simp [up1, up1_self]
          simp [up1, hj0, hj1, hj2]), (by omega), (by omega), (by omega)⟩))))))
  · skip
    subst M3
    show V z g 3 M [(0, rf g 0), (1, iv h), (2, iv n)] [iv (-1)] 12
    first | (exact v_iret ok rt dX9_see_12 (Or.inr (Or.inl (⟨rfl, rfl, (by omega), (by omega)⟩)))) | (exact v_iret ok rt dX9_see_12 (Or.inr (Or.inr (Or.inr (Or.inr (⟨(congrArg (fun q : Int => some (iv q)) (show (-1) = (M 12 3 + 1) from by omega)), (by
          funext j
          by_cases hj0 : j = 13
          · subst hj0; simp [up1, up1_self]
          by_cases hj1 : j = 14
          · subst hj1; simp [up1, up1_self]
          by_cases hj2 : j = 12
          · subst hj2; simp [up1, up1_self]
          simp [up1, hj0, hj1, hj2]), (by omega), (by omega), (by omega)⟩))))))
  · skip
    subst M3
    show V z g 3 M [(0, rf g 0), (1, iv h), (2, iv n)] [iv (-2)] 12
    first | (exact v_iret ok rt dX9_see_12 (Or.inr (Or.inr (Or.inl (⟨rfl, rfl, (by omega), (by omega)⟩))))) | (exact v_iret ok rt dX9_see_12 (Or.inr (Or.inr (Or.inr (Or.inr (⟨(congrArg (fun q : Int => some (iv q)) (show (-2) = (M 12 3 + 1) from by omega)), (by
          funext j
          by_cases hj0 : j = 13
          · subst hj0; simp [up1, up1_self]
          by_cases hj1 : j = 14
          · subst hj1; simp [up1, up1_self]
          by_cases hj2 : j = 12
          · subst hj2; simp [up1, up1_self]
          simp [up1, hj0, hj1, hj2]), (by omega), (by omega), (by omega)⟩))))))
  · skip
    subst M3
    have h11 : (M 12) 3 = (M 12) 2 := h11
    show V z g 3 M [(0, rf g 0), (1, iv h), (2, iv n)] [iv (-4)] 12
    first | (exact v_iret ok rt dX9_see_12 (Or.inr (Or.inr (Or.inr (Or.inl (⟨rfl, rfl, (by omega), (by omega), (by omega)⟩)))))) | (exact v_iret ok rt dX9_see_12 (Or.inr (Or.inr (Or.inr (Or.inr (⟨(congrArg (fun q : Int => some (iv q)) (show (-4) = (M 12 3 + 1) from by omega)), (by
          funext j
          by_cases hj0 : j = 13
          · subst hj0; simp [up1, up1_self]
          by_cases hj1 : j = 14
          · subst hj1; simp [up1, up1_self]
          by_cases hj2 : j = 12
          · subst hj2; simp [up1, up1_self]
          simp [up1, hj0, hj1, hj2]), (by omega), (by omega), (by omega)⟩))))))
  · skip
    have h14 : (M 12) 3 < (M 12) 2 := h14
    show V z g 3 (up1 (up1 (up1 M 13 (up ((M 13)) ((M 12) 3) h)) 14 (up ((M 14)) ((M 12) 3) n)) 12 (up ((M 12)) 3 ((M 12) 3 + 1))) [(0, rf g 0), (1, iv h), (2, iv n)] [iv ((M 12) 3 + 1)] 12
    first | (exact v_iret ok rt dX9_see_12 (Or.inl (⟨rfl, (by
          funext j
          by_cases hj0 : j = 12
          · subst hj0; simp [up1, up1_self]
          by_cases hj1 : j = 13
          · subst hj1; simp [up1, up1_self]
          by_cases hj2 : j = 14
          · subst hj2; simp [up1, up1_self]
          simp [up1, hj0, hj1, hj2]), (by omega)⟩))) | (exact v_iret ok rt dX9_see_12 (Or.inr (Or.inl (⟨rfl, (by
          funext j
          by_cases hj0 : j = 13
          · subst hj0; simp [up1, up1_self]
          by_cases hj1 : j = 14
          · subst hj1; simp [up1, up1_self]
          by_cases hj2 : j = 12
          · subst hj2; simp [up1, up1_self]
          simp [up1, hj0, hj1, hj2]), (by omega), (by omega)⟩)))) | (exact v_iret ok rt dX9_see_12 (Or.inr (Or.inr (Or.inl (⟨rfl, (by
          funext j
          by_cases hj0 : j = 13
          · subst hj0; simp [up1, up1_self]
          by_cases hj1 : j = 14
          · subst hj1; simp [up1, up1_self]
          by_cases hj2 : j = 12
          · subst hj2; simp [up1, up1_self]
          simp [up1, hj0, hj1, hj2]), (by omega), (by omega)⟩))))) | (exact v_iret ok rt dX9_see_12 (Or.inr (Or.inr (Or.inr (Or.inl (⟨rfl, (by
          funext j
          by_cases hj0 : j = 13
          · subst hj0; simp [up1, up1_self]
          by_cases hj1 : j = 14
          · subst hj1; simp [up1, up1_self]
          by_cases hj2 : j = 12
          · subst hj2; simp [up1, up1_self]
          simp [up1, hj0, hj1, hj2]), (by omega), (by omega), (by omega)⟩)))))) | (exact v_iret ok rt dX9_see_12 (Or.inr (Or.inr (Or.inr (Or.inr (⟨(congrArg (fun q : Int => some (iv q)) (show ((M 12) 3 + 1) = (M 12 3 + 1) from by omega)), (by
          funext j
          by_cases hj0 : j = 13
          · subst hj0; simp [up1, up1_self]
          by_cases hj1 : j = 14
          · subst hj1; simp [up1, up1_self]
          by_cases hj2 : j = 12
          · subst hj2; simp [up1, up1_self]
          simp [up1, hj0, hj1, hj2]), (by omega), (by omega), (by omega)⟩))))))

theorem mk_X9_book_12 : Cond.fieldLink RX9 12 "StormRunoff" "now" "LStormRunoff$State;" ∈ wsX9_book := by decide +kernel
theorem mi_X9_book_9 : ∀ w ∈ wsX90, w ∈ wsX9_book := by decide +kernel
theorem mk_X9_book_229 : Cond.fieldLink RX9 229 "StormRunoff$State" "book" "LStormRunoff$Rows;" ∈ wsX9_book := by decide +kernel
theorem mi_X9_book_7 : ∀ w ∈ wsX70, w ∈ wsX9_book := by decide +kernel
set_option maxRecDepth 100000 in
set_option maxHeartbeats 400000 in
theorem ct_X9_book (l : Launch) (g : Gl) (M : Mem) (h n : Int) (hh : i32 h) (hn : i32 n) (hr : 0 ≤ M 18 3 ∧ M 18 3 ≤ M 18 2 ∧ M 18 2 ≤ 8) : Ct l g yX9_book wsX9_book 2 44 [rf g 0, iv h, iv n] M (fun rv M' => (rv = some (iv 0) ∧ M' = (up1 M 18 (up (M 18) 3 0)) ∧ (h = -1)) ∨ (rv = some (iv (-1)) ∧ M' = M ∧ (h ≠ -1) ∧ (¬ (0 ≤ h ∧ h ≤ 29))) ∨ (rv = some (iv (-2)) ∧ M' = M ∧ (0 ≤ h ∧ h ≤ 29) ∧ (¬ (0 ≤ n ∧ n ≤ 9999))) ∨ (rv = some (iv (-4)) ∧ M' = M ∧ (0 ≤ h ∧ h ≤ 29) ∧ (0 ≤ n ∧ n ≤ 9999) ∧ (M 18 3 = M 18 2)) ∨ (rv = some (iv (M 18 3 + 1)) ∧ M' = (up1 (up1 (up1 M 19 (up (M 19) (M 18 3) h)) 20 (up (M 20) (M 18 3) n)) 18 (up (M 18) 3 (M 18 3 + 1))) ∧ (0 ≤ h ∧ h ≤ 29) ∧ (0 ≤ n ∧ n ≤ 9999) ∧ (M 18 3 < M 18 2))) := by
  refine Ct.of (cc := cX9_book) (nL := 3) (ret := (some .int)) (by decide) rfl (Nat.le_of_ble_eq_true rfl) (fun z hz ok rt => ?_)
  have ok : Ok z g cX9_book 3 RX9 wsX9_book 2 44 := ok
  show V z g 3 M [(0, rf g 0), (1, iv h), (2, iv n)] [] 0
  refine v_aload_n ok 0 dX9_book_0 rfl rfl ?_
  refine v_get (T := TX9) (N := 9) (f0 := (M 0)) (v := rf g 1) ok mi_X9_book_9 (kd_lt (show kd 0 = 9 from rfl) (by decide)) rfl rfl (cellF_9 _ (by decide)) 0 (by decide) mk_X9_book_12 rfl rfl dX9_book_1 ?_
  refine v_get (T := TX7) (N := 5) (f0 := (M 1)) (v := rf g 18) ok mi_X9_book_7 (kd_lt (show kd 1 = 7 from rfl) (by decide)) rfl rfl (cellF_7 _ (by decide)) 4 (by decide) mk_X9_book_229 rfl rfl dX9_book_4 ?_
  refine v_iload_n ok 1 dX9_book_7 rfl rfl ?_
  refine v_iload_n ok 2 dX9_book_8 rfl rfl ?_
  refine v_callS (na := 3) ok (ct_X9_tellByHand z.2.1 g M 18 h n (by decide) hr hh hn) gX9_book_X9_tellByHand rfl (by decide +kernel) rfl (by decide) [] rfl (Nat.le_of_ble_eq_true rfl) dX9_book_9 (fun v2 M3 hp1 => ?_)
  rcases hp1 with ⟨rfl, rfl, h4⟩ | ⟨rfl, eM3, h5, h6⟩ | ⟨rfl, eM3, h7, h8⟩ | ⟨rfl, eM3, h9, h10, h11⟩ | ⟨rfl, rfl, h12, h13, h14⟩
  · skip
    show V z g 3 (up1 M 18 (up ((M 18)) 3 0)) [(0, rf g 0), (1, iv h), (2, iv n)] [iv 0] 12
    first | (exact v_iret ok rt dX9_book_12 (Or.inl (⟨rfl, rfl, (by omega)⟩))) | (exact v_iret ok rt dX9_book_12 (Or.inr (Or.inr (Or.inr (Or.inr (⟨(congrArg (fun q : Int => some (iv q)) (show 0 = (M 18 3 + 1) from by omega)), (by
          funext j
          by_cases hj0 : j = 19
          · subst hj0; simp [up1, up1_self]
          by_cases hj1 : j = 20
          · subst hj1; simp [up1, up1_self]
          by_cases hj2 : j = 18
          · subst hj2; simp [up1, up1_self]
          simp [up1, hj0, hj1, hj2]), (by omega), (by omega), (by omega)⟩))))))
  · skip
    subst M3
    show V z g 3 M [(0, rf g 0), (1, iv h), (2, iv n)] [iv (-1)] 12
    first | (exact v_iret ok rt dX9_book_12 (Or.inr (Or.inl (⟨rfl, rfl, (by omega), (by omega)⟩)))) | (exact v_iret ok rt dX9_book_12 (Or.inr (Or.inr (Or.inr (Or.inr (⟨(congrArg (fun q : Int => some (iv q)) (show (-1) = (M 18 3 + 1) from by omega)), (by
          funext j
          by_cases hj0 : j = 19
          · subst hj0; simp [up1, up1_self]
          by_cases hj1 : j = 20
          · subst hj1; simp [up1, up1_self]
          by_cases hj2 : j = 18
          · subst hj2; simp [up1, up1_self]
          simp [up1, hj0, hj1, hj2]), (by omega), (by omega), (by omega)⟩))))))
  · skip
    subst M3
    show V z g 3 M [(0, rf g 0), (1, iv h), (2, iv n)] [iv (-2)] 12
    first | (exact v_iret ok rt dX9_book_12 (Or.inr (Or.inr (Or.inl (⟨rfl, rfl, (by omega), (by omega)⟩))))) | (exact v_iret ok rt dX9_book_12 (Or.inr (Or.inr (Or.inr (Or.inr (⟨(congrArg (fun q : Int => some (iv q)) (show (-2) = (M 18 3 + 1) from by omega)), (by
          funext j
          by_cases hj0 : j = 19
          · subst hj0; simp [up1, up1_self]
          by_cases hj1 : j = 20
          · subst hj1; simp [up1, up1_self]
          by_cases hj2 : j = 18
          · subst hj2; simp [up1, up1_self]
          simp [up1, hj0, hj1, hj2]), (by omega), (by omega), (by omega)⟩))))))
  · skip
    subst M3
    have h11 : (M 18) 3 = (M 18) 2 := h11
    show V z g 3 M [(0, rf g 0), (1, iv h), (2, iv n)] [iv (-4)] 12
    first | (exact v_iret ok rt dX9_book_12 (Or.inr (Or.inr (Or.inr (Or.inl (⟨rfl, rfl, (by omega), (by omega), (by omega)⟩)))))) | (exact v_iret ok rt dX9_book_12 (Or.inr (Or.inr (Or.inr (Or.inr (⟨(congrArg (fun q : Int => some (iv q)) (show (-4) = (M 18 3 + 1) from by omega)), (by
          funext j
          by_cases hj0 : j = 19
          · subst hj0; simp [up1, up1_self]
          by_cases hj1 : j = 20
          · subst hj1; simp [up1, up1_self]
          by_cases hj2 : j = 18
          · subst hj2; simp [up1, up1_self]
          simp [up1, hj0, hj1, hj2]), (by omega), (by omega), (by omega)⟩))))))
  · skip
    have h14 : (M 18) 3 < (M 18) 2 := h14
    show V z g 3 (up1 (up1 (up1 M 19 (up ((M 19)) ((M 18) 3) h)) 20 (up ((M 20)) ((M 18) 3) n)) 18 (up ((M 18)) 3 ((M 18) 3 + 1))) [(0, rf g 0), (1, iv h), (2, iv n)] [iv ((M 18) 3 + 1)] 12
    first | (exact v_iret ok rt dX9_book_12 (Or.inl (⟨rfl, (by
          funext j
          by_cases hj0 : j = 18
          · subst hj0; simp [up1, up1_self]
          by_cases hj1 : j = 19
          · subst hj1; simp [up1, up1_self]
          by_cases hj2 : j = 20
          · subst hj2; simp [up1, up1_self]
          simp [up1, hj0, hj1, hj2]), (by omega)⟩))) | (exact v_iret ok rt dX9_book_12 (Or.inr (Or.inl (⟨rfl, (by
          funext j
          by_cases hj0 : j = 19
          · subst hj0; simp [up1, up1_self]
          by_cases hj1 : j = 20
          · subst hj1; simp [up1, up1_self]
          by_cases hj2 : j = 18
          · subst hj2; simp [up1, up1_self]
          simp [up1, hj0, hj1, hj2]), (by omega), (by omega)⟩)))) | (exact v_iret ok rt dX9_book_12 (Or.inr (Or.inr (Or.inl (⟨rfl, (by
          funext j
          by_cases hj0 : j = 19
          · subst hj0; simp [up1, up1_self]
          by_cases hj1 : j = 20
          · subst hj1; simp [up1, up1_self]
          by_cases hj2 : j = 18
          · subst hj2; simp [up1, up1_self]
          simp [up1, hj0, hj1, hj2]), (by omega), (by omega)⟩))))) | (exact v_iret ok rt dX9_book_12 (Or.inr (Or.inr (Or.inr (Or.inl (⟨rfl, (by
          funext j
          by_cases hj0 : j = 19
          · subst hj0; simp [up1, up1_self]
          by_cases hj1 : j = 20
          · subst hj1; simp [up1, up1_self]
          by_cases hj2 : j = 18
          · subst hj2; simp [up1, up1_self]
          simp [up1, hj0, hj1, hj2]), (by omega), (by omega), (by omega)⟩)))))) | (exact v_iret ok rt dX9_book_12 (Or.inr (Or.inr (Or.inr (Or.inr (⟨(congrArg (fun q : Int => some (iv q)) (show ((M 18) 3 + 1) = (M 18 3 + 1) from by omega)), (by
          funext j
          by_cases hj0 : j = 19
          · subst hj0; simp [up1, up1_self]
          by_cases hj1 : j = 20
          · subst hj1; simp [up1, up1_self]
          by_cases hj2 : j = 18
          · subst hj2; simp [up1, up1_self]
          simp [up1, hj0, hj1, hj2]), (by omega), (by omega), (by omega)⟩))))))

theorem mk_X9_event_12 : Cond.fieldLink RX9 12 "StormRunoff" "now" "LStormRunoff$State;" ∈ wsX9_event := by decide +kernel
theorem mi_X9_event_9 : ∀ w ∈ wsX90, w ∈ wsX9_event := by decide +kernel
theorem mk_X9_event_211 : Cond.fieldLink RX9 211 "StormRunoff$State" "events" "LStormRunoff$Rows;" ∈ wsX9_event := by decide +kernel
theorem mi_X9_event_7 : ∀ w ∈ wsX70, w ∈ wsX9_event := by decide +kernel
theorem mk_X9_event_67 : Cond.fieldLink RX9 67 "StormRunoff$State" "site" "LStormRunoff$Site;" ∈ wsX9_event := by decide +kernel
theorem mk_X9_event_214 : Cond.fieldLink RX9 214 "StormRunoff$Rows" "many" "I" ∈ wsX9_event := by decide +kernel
theorem mi_X9_event_4 : ∀ w ∈ wsX40, w ∈ wsX9_event := by decide +kernel
set_option maxRecDepth 100000 in
set_option maxHeartbeats 400000 in
theorem ct_X9_event (l : Launch) (g : Gl) (M : Mem) (w n : Int) (hw : i32 w) (hn : i32 n) (hr : 0 ≤ M 15 3 ∧ M 15 3 ≤ M 15 2 ∧ M 15 2 ≤ 8) (hm : 0 ≤ M 2 2 ∧ M 2 2 ≤ 3) : Ct l g yX9_event wsX9_event 1 22 [rf g 0, iv w, iv n] M (fun rv M' => (rv = some (iv 0) ∧ M' = (up1 M 15 (up (M 15) 3 0)) ∧ (w = -1)) ∨ (rv = some (iv (-1)) ∧ M' = M ∧ (w ≠ -1) ∧ (¬ (0 ≤ w ∧ w ≤ 3) ∨ (0 ≤ w ∧ w ≤ 1 ∧ ¬ (0 ≤ n ∧ n ≤ 7)) ∨ (w = 2 ∧ ¬ (0 ≤ n ∧ n < M 2 2)))) ∨ (rv = some (iv (-2)) ∧ M' = M ∧ (w = 3) ∧ (¬ (0 ≤ n ∧ n ≤ 7))) ∨ (rv = some (iv (-4)) ∧ M' = M ∧ ((0 ≤ w ∧ w ≤ 1 ∧ 0 ≤ n ∧ n ≤ 7) ∨ (w = 2 ∧ 0 ≤ n ∧ n < M 2 2) ∨ (w = 3 ∧ 0 ≤ n ∧ n ≤ 7)) ∧ (M 15 3 = M 15 2)) ∨ (rv = some (iv (M 15 3 + 1)) ∧ M' = (up1 (up1 (up1 M 16 (up (M 16) (M 15 3) w)) 17 (up (M 17) (M 15 3) n)) 15 (up (M 15) 3 (M 15 3 + 1))) ∧ ((0 ≤ w ∧ w ≤ 1 ∧ 0 ≤ n ∧ n ≤ 7) ∨ (w = 2 ∧ 0 ≤ n ∧ n < M 2 2) ∨ (w = 3 ∧ 0 ≤ n ∧ n ≤ 7)) ∧ (M 15 3 < M 15 2))) := by
  refine Ct.of (cc := cX9_event) (nL := 4) (ret := (some .int)) (by decide) rfl (Nat.le_of_ble_eq_true rfl) (fun z hz ok rt => ?_)
  have ok : Ok z g cX9_event 4 RX9 wsX9_event 1 22 := ok
  show V z g 4 M [(0, rf g 0), (1, iv w), (2, iv n)] [] 0
  refine v_iload_n ok 1 dX9_event_0 rfl rfl ?_
  refine v_iconst (n := -1) ok dX9_event_1 ?_
  refine v_icmp_ne (tgt := 18) ok ⟨by omega, by omega⟩ (by decide) dX9_event_2 (by decide) (fun c1 => ?_) (fun c1 => ?_)
  · skip
    refine v_iload_n ok 1 dX9_event_18 rfl rfl ?_
    refine v_iconst (n := 0) ok dX9_event_19 ?_
    refine v_iconst (n := 3) ok dX9_event_20 ?_
    refine v_callS (na := 3) ok (ct_X9_between z.2.1 g M w 0 3 ⟨by omega, by omega⟩ (by decide) (by decide)) gX9_event_X9_between rfl (by decide +kernel) rfl (by decide) [] rfl (Nat.le_of_ble_eq_true rfl) dX9_event_21 (fun v3 M4 hp2 => ?_)
    rcases hp2 with ⟨rfl, eM4, h5⟩ | ⟨rfl, eM4, h6⟩
    · skip
      subst M4
      show V z g 4 M [(0, rf g 0), (1, iv w), (2, iv n)] [iv 1] 24
      refine v_if_ne (tgt := 29) ok (by decide) dX9_event_24 (by decide) (fun c7 => ?_) (fun c7 => absurd c7 (by decide))
      refine v_iload_n ok 1 dX9_event_29 rfl rfl ?_
      refine v_iconst (n := 3) ok dX9_event_30 ?_
      refine v_icmp_ne (tgt := 62) ok ⟨by omega, by omega⟩ (by decide) dX9_event_31 (by decide) (fun c8 => ?_) (fun c8 => ?_)
      · skip
        refine v_iload_n ok 1 dX9_event_62 rfl rfl ?_
        refine v_iconst (n := 2) ok dX9_event_63 ?_
        refine v_icmp_ne (tgt := 81) ok ⟨by omega, by omega⟩ (by decide) dX9_event_64 (by decide) (fun c9 => ?_) (fun c9 => ?_)
        · skip
          refine v_iload_n ok 2 dX9_event_81 rfl rfl ?_
          refine v_iconst (n := 0) ok dX9_event_82 ?_
          refine v_bipush (n := 7) ok rfl dX9_event_83 ?_
          refine v_callS (na := 3) ok (ct_X9_between z.2.1 g M n 0 7 ⟨by omega, by omega⟩ (by decide) (by decide)) gX9_event_X9_between rfl (by decide +kernel) rfl (by decide) [] rfl (Nat.le_of_ble_eq_true rfl) dX9_event_85 (fun v11 M12 hp10 => ?_)
          rcases hp10 with ⟨rfl, eM12, h13⟩ | ⟨rfl, eM12, h14⟩
          · skip
            subst M12
            show V z g 4 M [(0, rf g 0), (1, iv w), (2, iv n)] [iv 1] 88
            refine v_istore_n ok [(3, iv 1), (0, rf g 0), (1, iv w), (2, iv n)] dX9_event_88 rfl (by decide) rfl ?_
            refine v_iload_n ok 0 dX9_event_89 rfl rfl ?_
            refine v_if_eq (tgt := 108) ok (by decide) dX9_event_90 (by decide) (fun c15 => absurd c15 (by decide)) (fun c15 => ?_)
            refine v_aload_n ok 1 dX9_event_93 rfl rfl ?_
            refine v_get (T := TX9) (N := 9) (f0 := (M 0)) (v := rf g 1) ok mi_X9_event_9 (kd_lt (show kd 0 = 9 from rfl) (by decide)) rfl rfl (cellF_9 _ (by decide)) 0 (by decide) mk_X9_event_12 rfl rfl dX9_event_94 ?_
            refine v_get (T := TX7) (N := 5) (f0 := (M 1)) (v := rf g 15) ok mi_X9_event_7 (kd_lt (show kd 1 = 7 from rfl) (by decide)) rfl rfl (cellF_7 _ (by decide)) 3 (by decide) mk_X9_event_211 rfl rfl dX9_event_97 ?_
            refine v_iload_n ok 2 dX9_event_100 rfl rfl ?_
            refine v_iload_n ok 3 dX9_event_101 rfl rfl ?_
            refine v_callV (na := 2) (i := 15) (C := RX4) (T := TX4) (N := 4) (f0 := (M 15)) ok (ct_X4_addRow z.2.1 g M 15 w n (by decide) hr) gX9_event_X4_addRow (kd_lt (show kd 15 = 4 from rfl) (by decide)) rfl rfl (cellF_4 _ (by decide)) rfl (by decide +kernel) rfl (by decide) [] rfl (Nat.le_of_ble_eq_true rfl) dX9_event_102 (fun v17 M18 hp16 => ?_)
            rcases hp16 with ⟨rfl, eM18, h19⟩ | ⟨rfl, rfl, h20⟩
            · skip
              subst M18
              have h19 : (M 15) 3 = (M 15) 2 := h19
              show V z g 4 M [(3, iv 1), (0, rf g 0), (1, iv w), (2, iv n)] [iv (-4)] 105
              refine v_goto (tgt := 109) ok dX9_event_105 (by decide) ?_
              first | (exact v_iret ok rt dX9_event_109 (Or.inr (Or.inr (Or.inr (Or.inl (⟨rfl, rfl, (by omega), (by omega)⟩)))))) | (exact v_iret ok rt dX9_event_109 (Or.inr (Or.inr (Or.inr (Or.inr (⟨(congrArg (fun q : Int => some (iv q)) (show (-4) = (M 15 3 + 1) from by omega)), (by
                    funext j
                    by_cases hj0 : j = 16
                    · subst hj0; simp [up1, up1_self]
                    by_cases hj1 : j = 17
                    · subst hj1; simp [up1, up1_self]
                    by_cases hj2 : j = 15
                    · subst hj2; simp [up1, up1_self]
                    simp [up1, hj0, hj1, hj2]), (by omega), (by omega)⟩))))))
            · skip
              have h20 : (M 15) 3 < (M 15) 2 := h20
              show V z g 4 (up1 (up1 (up1 M 16 (up ((M 16)) ((M 15) 3) w)) 17 (up ((M 17)) ((M 15) 3) n)) 15 (up ((M 15)) 3 ((M 15) 3 + 1))) [(3, iv 1), (0, rf g 0), (1, iv w), (2, iv n)] [iv ((M 15) 3 + 1)] 105
              refine v_goto (tgt := 109) ok dX9_event_105 (by decide) ?_
              first | (exact v_iret ok rt dX9_event_109 (Or.inl (⟨rfl, (by
                    funext j
                    by_cases hj0 : j = 15
                    · subst hj0; simp [up1, up1_self]
                    by_cases hj1 : j = 16
                    · subst hj1; simp [up1, up1_self]
                    by_cases hj2 : j = 17
                    · subst hj2; simp [up1, up1_self]
                    simp [up1, hj0, hj1, hj2]), (by omega)⟩))) | (exact v_iret ok rt dX9_event_109 (Or.inr (Or.inl (⟨rfl, (by
                    funext j
                    by_cases hj0 : j = 16
                    · subst hj0; simp [up1, up1_self]
                    by_cases hj1 : j = 17
                    · subst hj1; simp [up1, up1_self]
                    by_cases hj2 : j = 15
                    · subst hj2; simp [up1, up1_self]
                    simp [up1, hj0, hj1, hj2]), (by omega), (by omega)⟩)))) | (exact v_iret ok rt dX9_event_109 (Or.inr (Or.inr (Or.inl (⟨rfl, (by
                    funext j
                    by_cases hj0 : j = 16
                    · subst hj0; simp [up1, up1_self]
                    by_cases hj1 : j = 17
                    · subst hj1; simp [up1, up1_self]
                    by_cases hj2 : j = 15
                    · subst hj2; simp [up1, up1_self]
                    simp [up1, hj0, hj1, hj2]), (by omega), (by omega)⟩))))) | (exact v_iret ok rt dX9_event_109 (Or.inr (Or.inr (Or.inr (Or.inl (⟨rfl, (by
                    funext j
                    by_cases hj0 : j = 16
                    · subst hj0; simp [up1, up1_self]
                    by_cases hj1 : j = 17
                    · subst hj1; simp [up1, up1_self]
                    by_cases hj2 : j = 15
                    · subst hj2; simp [up1, up1_self]
                    simp [up1, hj0, hj1, hj2]), (by omega), (by omega)⟩)))))) | (exact v_iret ok rt dX9_event_109 (Or.inr (Or.inr (Or.inr (Or.inr (⟨(congrArg (fun q : Int => some (iv q)) (show ((M 15) 3 + 1) = (M 15 3 + 1) from by omega)), (by
                    funext j
                    by_cases hj0 : j = 16
                    · subst hj0; simp [up1, up1_self]
                    by_cases hj1 : j = 17
                    · subst hj1; simp [up1, up1_self]
                    by_cases hj2 : j = 15
                    · subst hj2; simp [up1, up1_self]
                    simp [up1, hj0, hj1, hj2]), (by omega), (by omega)⟩))))))
          · skip
            subst M12
            show V z g 4 M [(0, rf g 0), (1, iv w), (2, iv n)] [iv 0] 88
            refine v_istore_n ok [(3, iv 0), (0, rf g 0), (1, iv w), (2, iv n)] dX9_event_88 rfl (by decide) rfl ?_
            refine v_iload_n ok 0 dX9_event_89 rfl rfl ?_
            refine v_if_eq (tgt := 108) ok (by decide) dX9_event_90 (by decide) (fun c21 => ?_) (fun c21 => absurd c21 (by decide))
            refine v_iconst (n := -1) ok dX9_event_108 ?_
            first | (exact v_iret ok rt dX9_event_109 (Or.inr (Or.inl (⟨rfl, rfl, (by omega), (by omega)⟩)))) | (exact v_iret ok rt dX9_event_109 (Or.inr (Or.inr (Or.inr (Or.inr (⟨(congrArg (fun q : Int => some (iv q)) (show (-1) = (M 15 3 + 1) from by omega)), (by
                  funext j
                  by_cases hj0 : j = 16
                  · subst hj0; simp [up1, up1_self]
                  by_cases hj1 : j = 17
                  · subst hj1; simp [up1, up1_self]
                  by_cases hj2 : j = 15
                  · subst hj2; simp [up1, up1_self]
                  simp [up1, hj0, hj1, hj2]), (by omega), (by omega)⟩))))))
        · skip
          refine v_aload_n ok 0 dX9_event_67 rfl rfl ?_
          refine v_get (T := TX9) (N := 9) (f0 := (M 0)) (v := rf g 1) ok mi_X9_event_9 (kd_lt (show kd 0 = 9 from rfl) (by decide)) rfl rfl (cellF_9 _ (by decide)) 0 (by decide) mk_X9_event_12 rfl rfl dX9_event_68 ?_
          refine v_get (T := TX7) (N := 5) (f0 := (M 1)) (v := rf g 2) ok mi_X9_event_7 (kd_lt (show kd 1 = 7 from rfl) (by decide)) rfl rfl (cellF_7 _ (by decide)) 0 (by decide) mk_X9_event_67 rfl rfl dX9_event_71 ?_
          refine v_iload_n ok 2 dX9_event_74 rfl rfl ?_
          refine v_callV (na := 1) (i := 2) (C := RX6) (T := TX6) (N := 3) (f0 := (M 2)) ok (ct_X6_has z.2.1 g M 2 n (by decide) hn hm) gX9_event_X6_has (kd_lt (show kd 2 = 6 from rfl) (by decide)) rfl rfl (cellF_6 _ (by decide)) rfl (by decide +kernel) rfl (by decide) [] rfl (Nat.le_of_ble_eq_true rfl) dX9_event_75 (fun v23 M24 hp22 => ?_)
          rcases hp22 with ⟨rfl, eM24, h25⟩ | ⟨rfl, eM24, h26⟩
          · skip
            subst M24
            have h25 : 0 ≤ n ∧ n < (M 2) 2 := h25
            show V z g 4 M [(0, rf g 0), (1, iv w), (2, iv n)] [iv 1] 78
            refine v_goto (tgt := 88) ok dX9_event_78 (by decide) ?_
            refine v_istore_n ok [(3, iv 1), (0, rf g 0), (1, iv w), (2, iv n)] dX9_event_88 rfl (by decide) rfl ?_
            refine v_iload_n ok 0 dX9_event_89 rfl rfl ?_
            refine v_if_eq (tgt := 108) ok (by decide) dX9_event_90 (by decide) (fun c27 => absurd c27 (by decide)) (fun c27 => ?_)
            refine v_aload_n ok 1 dX9_event_93 rfl rfl ?_
            refine v_get (T := TX9) (N := 9) (f0 := (M 0)) (v := rf g 1) ok mi_X9_event_9 (kd_lt (show kd 0 = 9 from rfl) (by decide)) rfl rfl (cellF_9 _ (by decide)) 0 (by decide) mk_X9_event_12 rfl rfl dX9_event_94 ?_
            refine v_get (T := TX7) (N := 5) (f0 := (M 1)) (v := rf g 15) ok mi_X9_event_7 (kd_lt (show kd 1 = 7 from rfl) (by decide)) rfl rfl (cellF_7 _ (by decide)) 3 (by decide) mk_X9_event_211 rfl rfl dX9_event_97 ?_
            refine v_iload_n ok 2 dX9_event_100 rfl rfl ?_
            refine v_iload_n ok 3 dX9_event_101 rfl rfl ?_
            refine v_callV (na := 2) (i := 15) (C := RX4) (T := TX4) (N := 4) (f0 := (M 15)) ok (ct_X4_addRow z.2.1 g M 15 w n (by decide) hr) gX9_event_X4_addRow (kd_lt (show kd 15 = 4 from rfl) (by decide)) rfl rfl (cellF_4 _ (by decide)) rfl (by decide +kernel) rfl (by decide) [] rfl (Nat.le_of_ble_eq_true rfl) dX9_event_102 (fun v29 M30 hp28 => ?_)
            rcases hp28 with ⟨rfl, eM30, h31⟩ | ⟨rfl, rfl, h32⟩
            · skip
              subst M30
              have h31 : (M 15) 3 = (M 15) 2 := h31
              show V z g 4 M [(3, iv 1), (0, rf g 0), (1, iv w), (2, iv n)] [iv (-4)] 105
              refine v_goto (tgt := 109) ok dX9_event_105 (by decide) ?_
              first | (exact v_iret ok rt dX9_event_109 (Or.inr (Or.inr (Or.inr (Or.inl (⟨rfl, rfl, (by omega), (by omega)⟩)))))) | (exact v_iret ok rt dX9_event_109 (Or.inr (Or.inr (Or.inr (Or.inr (⟨(congrArg (fun q : Int => some (iv q)) (show (-4) = (M 15 3 + 1) from by omega)), (by
                    funext j
                    by_cases hj0 : j = 16
                    · subst hj0; simp [up1, up1_self]
                    by_cases hj1 : j = 17
                    · subst hj1; simp [up1, up1_self]
                    by_cases hj2 : j = 15
                    · subst hj2; simp [up1, up1_self]
                    simp [up1, hj0, hj1, hj2]), (by omega), (by omega)⟩))))))
            · skip
              have h32 : (M 15) 3 < (M 15) 2 := h32
              show V z g 4 (up1 (up1 (up1 M 16 (up ((M 16)) ((M 15) 3) w)) 17 (up ((M 17)) ((M 15) 3) n)) 15 (up ((M 15)) 3 ((M 15) 3 + 1))) [(3, iv 1), (0, rf g 0), (1, iv w), (2, iv n)] [iv ((M 15) 3 + 1)] 105
              refine v_goto (tgt := 109) ok dX9_event_105 (by decide) ?_
              first | (exact v_iret ok rt dX9_event_109 (Or.inl (⟨rfl, (by
                    funext j
                    by_cases hj0 : j = 15
                    · subst hj0; simp [up1, up1_self]
                    by_cases hj1 : j = 16
                    · subst hj1; simp [up1, up1_self]
                    by_cases hj2 : j = 17
                    · subst hj2; simp [up1, up1_self]
                    simp [up1, hj0, hj1, hj2]), (by omega)⟩))) | (exact v_iret ok rt dX9_event_109 (Or.inr (Or.inl (⟨rfl, (by
                    funext j
                    by_cases hj0 : j = 16
                    · subst hj0; simp [up1, up1_self]
                    by_cases hj1 : j = 17
                    · subst hj1; simp [up1, up1_self]
                    by_cases hj2 : j = 15
                    · subst hj2; simp [up1, up1_self]
                    simp [up1, hj0, hj1, hj2]), (by omega), (by omega)⟩)))) | (exact v_iret ok rt dX9_event_109 (Or.inr (Or.inr (Or.inl (⟨rfl, (by
                    funext j
                    by_cases hj0 : j = 16
                    · subst hj0; simp [up1, up1_self]
                    by_cases hj1 : j = 17
                    · subst hj1; simp [up1, up1_self]
                    by_cases hj2 : j = 15
                    · subst hj2; simp [up1, up1_self]
                    simp [up1, hj0, hj1, hj2]), (by omega), (by omega)⟩))))) | (exact v_iret ok rt dX9_event_109 (Or.inr (Or.inr (Or.inr (Or.inl (⟨rfl, (by
                    funext j
                    by_cases hj0 : j = 16
                    · subst hj0; simp [up1, up1_self]
                    by_cases hj1 : j = 17
                    · subst hj1; simp [up1, up1_self]
                    by_cases hj2 : j = 15
                    · subst hj2; simp [up1, up1_self]
                    simp [up1, hj0, hj1, hj2]), (by omega), (by omega)⟩)))))) | (exact v_iret ok rt dX9_event_109 (Or.inr (Or.inr (Or.inr (Or.inr (⟨(congrArg (fun q : Int => some (iv q)) (show ((M 15) 3 + 1) = (M 15 3 + 1) from by omega)), (by
                    funext j
                    by_cases hj0 : j = 16
                    · subst hj0; simp [up1, up1_self]
                    by_cases hj1 : j = 17
                    · subst hj1; simp [up1, up1_self]
                    by_cases hj2 : j = 15
                    · subst hj2; simp [up1, up1_self]
                    simp [up1, hj0, hj1, hj2]), (by omega), (by omega)⟩))))))
          · skip
            subst M24
            have h26 : ¬ (0 ≤ n ∧ n < (M 2) 2) := h26
            show V z g 4 M [(0, rf g 0), (1, iv w), (2, iv n)] [iv 0] 78
            refine v_goto (tgt := 88) ok dX9_event_78 (by decide) ?_
            refine v_istore_n ok [(3, iv 0), (0, rf g 0), (1, iv w), (2, iv n)] dX9_event_88 rfl (by decide) rfl ?_
            refine v_iload_n ok 0 dX9_event_89 rfl rfl ?_
            refine v_if_eq (tgt := 108) ok (by decide) dX9_event_90 (by decide) (fun c33 => ?_) (fun c33 => absurd c33 (by decide))
            refine v_iconst (n := -1) ok dX9_event_108 ?_
            first | (exact v_iret ok rt dX9_event_109 (Or.inr (Or.inl (⟨rfl, rfl, (by omega), (by omega)⟩)))) | (exact v_iret ok rt dX9_event_109 (Or.inr (Or.inr (Or.inr (Or.inr (⟨(congrArg (fun q : Int => some (iv q)) (show (-1) = (M 15 3 + 1) from by omega)), (by
                  funext j
                  by_cases hj0 : j = 16
                  · subst hj0; simp [up1, up1_self]
                  by_cases hj1 : j = 17
                  · subst hj1; simp [up1, up1_self]
                  by_cases hj2 : j = 15
                  · subst hj2; simp [up1, up1_self]
                  simp [up1, hj0, hj1, hj2]), (by omega), (by omega)⟩))))))
      · skip
        refine v_iload_n ok 2 dX9_event_34 rfl rfl ?_
        refine v_iconst (n := 0) ok dX9_event_35 ?_
        refine v_bipush (n := 7) ok rfl dX9_event_36 ?_
        refine v_callS (na := 3) ok (ct_X9_between z.2.1 g M n 0 7 ⟨by omega, by omega⟩ (by decide) (by decide)) gX9_event_X9_between rfl (by decide +kernel) rfl (by decide) [] rfl (Nat.le_of_ble_eq_true rfl) dX9_event_38 (fun v35 M36 hp34 => ?_)
        rcases hp34 with ⟨rfl, eM36, h37⟩ | ⟨rfl, eM36, h38⟩
        · skip
          subst M36
          show V z g 4 M [(0, rf g 0), (1, iv w), (2, iv n)] [iv 1] 41
          refine v_if_eq (tgt := 59) ok (by decide) dX9_event_41 (by decide) (fun c39 => absurd c39 (by decide)) (fun c39 => ?_)
          refine v_aload_n ok 0 dX9_event_44 rfl rfl ?_
          refine v_get (T := TX9) (N := 9) (f0 := (M 0)) (v := rf g 1) ok mi_X9_event_9 (kd_lt (show kd 0 = 9 from rfl) (by decide)) rfl rfl (cellF_9 _ (by decide)) 0 (by decide) mk_X9_event_12 rfl rfl dX9_event_45 ?_
          refine v_get (T := TX7) (N := 5) (f0 := (M 1)) (v := rf g 15) ok mi_X9_event_7 (kd_lt (show kd 1 = 7 from rfl) (by decide)) rfl rfl (cellF_7 _ (by decide)) 3 (by decide) mk_X9_event_211 rfl rfl dX9_event_48 ?_
          refine v_iload_n ok 1 dX9_event_51 rfl rfl ?_
          refine v_iload_n ok 2 dX9_event_52 rfl rfl ?_
          refine v_callV (na := 2) (i := 15) (C := RX4) (T := TX4) (N := 4) (f0 := (M 15)) ok (ct_X4_addRow z.2.1 g M 15 w n (by decide) hr) gX9_event_X4_addRow (kd_lt (show kd 15 = 4 from rfl) (by decide)) rfl rfl (cellF_4 _ (by decide)) rfl (by decide +kernel) rfl (by decide) [] rfl (Nat.le_of_ble_eq_true rfl) dX9_event_53 (fun v41 M42 hp40 => ?_)
          rcases hp40 with ⟨rfl, eM42, h43⟩ | ⟨rfl, rfl, h44⟩
          · skip
            subst M42
            have h43 : (M 15) 3 = (M 15) 2 := h43
            show V z g 4 M [(0, rf g 0), (1, iv w), (2, iv n)] [iv (-4)] 56
            refine v_goto (tgt := 61) ok dX9_event_56 (by decide) ?_
            first | (exact v_iret ok rt dX9_event_61 (Or.inr (Or.inr (Or.inr (Or.inl (⟨rfl, rfl, (by omega), (by omega)⟩)))))) | (exact v_iret ok rt dX9_event_61 (Or.inr (Or.inr (Or.inr (Or.inr (⟨(congrArg (fun q : Int => some (iv q)) (show (-4) = (M 15 3 + 1) from by omega)), (by
                  funext j
                  by_cases hj0 : j = 16
                  · subst hj0; simp [up1, up1_self]
                  by_cases hj1 : j = 17
                  · subst hj1; simp [up1, up1_self]
                  by_cases hj2 : j = 15
                  · subst hj2; simp [up1, up1_self]
                  simp [up1, hj0, hj1, hj2]), (by omega), (by omega)⟩))))))
          · skip
            have h44 : (M 15) 3 < (M 15) 2 := h44
            show V z g 4 (up1 (up1 (up1 M 16 (up ((M 16)) ((M 15) 3) w)) 17 (up ((M 17)) ((M 15) 3) n)) 15 (up ((M 15)) 3 ((M 15) 3 + 1))) [(0, rf g 0), (1, iv w), (2, iv n)] [iv ((M 15) 3 + 1)] 56
            refine v_goto (tgt := 61) ok dX9_event_56 (by decide) ?_
            first | (exact v_iret ok rt dX9_event_61 (Or.inl (⟨rfl, (by
                  funext j
                  by_cases hj0 : j = 15
                  · subst hj0; simp [up1, up1_self]
                  by_cases hj1 : j = 16
                  · subst hj1; simp [up1, up1_self]
                  by_cases hj2 : j = 17
                  · subst hj2; simp [up1, up1_self]
                  simp [up1, hj0, hj1, hj2]), (by omega)⟩))) | (exact v_iret ok rt dX9_event_61 (Or.inr (Or.inl (⟨rfl, (by
                  funext j
                  by_cases hj0 : j = 16
                  · subst hj0; simp [up1, up1_self]
                  by_cases hj1 : j = 17
                  · subst hj1; simp [up1, up1_self]
                  by_cases hj2 : j = 15
                  · subst hj2; simp [up1, up1_self]
                  simp [up1, hj0, hj1, hj2]), (by omega), (by omega)⟩)))) | (exact v_iret ok rt dX9_event_61 (Or.inr (Or.inr (Or.inl (⟨rfl, (by
                  funext j
                  by_cases hj0 : j = 16
                  · subst hj0; simp [up1, up1_self]
                  by_cases hj1 : j = 17
                  · subst hj1; simp [up1, up1_self]
                  by_cases hj2 : j = 15
                  · subst hj2; simp [up1, up1_self]
                  simp [up1, hj0, hj1, hj2]), (by omega), (by omega)⟩))))) | (exact v_iret ok rt dX9_event_61 (Or.inr (Or.inr (Or.inr (Or.inl (⟨rfl, (by
                  funext j
                  by_cases hj0 : j = 16
                  · subst hj0; simp [up1, up1_self]
                  by_cases hj1 : j = 17
                  · subst hj1; simp [up1, up1_self]
                  by_cases hj2 : j = 15
                  · subst hj2; simp [up1, up1_self]
                  simp [up1, hj0, hj1, hj2]), (by omega), (by omega)⟩)))))) | (exact v_iret ok rt dX9_event_61 (Or.inr (Or.inr (Or.inr (Or.inr (⟨(congrArg (fun q : Int => some (iv q)) (show ((M 15) 3 + 1) = (M 15 3 + 1) from by omega)), (by
                  funext j
                  by_cases hj0 : j = 16
                  · subst hj0; simp [up1, up1_self]
                  by_cases hj1 : j = 17
                  · subst hj1; simp [up1, up1_self]
                  by_cases hj2 : j = 15
                  · subst hj2; simp [up1, up1_self]
                  simp [up1, hj0, hj1, hj2]), (by omega), (by omega)⟩))))))
        · skip
          subst M36
          show V z g 4 M [(0, rf g 0), (1, iv w), (2, iv n)] [iv 0] 41
          refine v_if_eq (tgt := 59) ok (by decide) dX9_event_41 (by decide) (fun c45 => ?_) (fun c45 => absurd c45 (by decide))
          refine v_bipush (n := -2) ok rfl dX9_event_59 ?_
          first | (exact v_iret ok rt dX9_event_61 (Or.inr (Or.inr (Or.inl (⟨rfl, rfl, (by omega), (by omega)⟩))))) | (exact v_iret ok rt dX9_event_61 (Or.inr (Or.inr (Or.inr (Or.inr (⟨(congrArg (fun q : Int => some (iv q)) (show (-2) = (M 15 3 + 1) from by omega)), (by
                funext j
                by_cases hj0 : j = 16
                · subst hj0; simp [up1, up1_self]
                by_cases hj1 : j = 17
                · subst hj1; simp [up1, up1_self]
                by_cases hj2 : j = 15
                · subst hj2; simp [up1, up1_self]
                simp [up1, hj0, hj1, hj2]), (by omega), (by omega)⟩))))))
    · skip
      subst M4
      show V z g 4 M [(0, rf g 0), (1, iv w), (2, iv n)] [iv 0] 24
      refine v_if_ne (tgt := 29) ok (by decide) dX9_event_24 (by decide) (fun c46 => absurd c46 (by decide)) (fun c46 => ?_)
      refine v_iconst (n := -1) ok dX9_event_27 ?_
      exact v_iret ok rt dX9_event_28 (Or.inr (Or.inl (⟨rfl, rfl, (by omega), (by omega)⟩)))
  · skip
    refine v_aload_n ok 0 dX9_event_5 rfl rfl ?_
    refine v_get (T := TX9) (N := 9) (f0 := (M 0)) (v := rf g 1) ok mi_X9_event_9 (kd_lt (show kd 0 = 9 from rfl) (by decide)) rfl rfl (cellF_9 _ (by decide)) 0 (by decide) mk_X9_event_12 rfl rfl dX9_event_6 ?_
    refine v_get (T := TX7) (N := 5) (f0 := (M 1)) (v := rf g 15) ok mi_X9_event_7 (kd_lt (show kd 1 = 7 from rfl) (by decide)) rfl rfl (cellF_7 _ (by decide)) 3 (by decide) mk_X9_event_211 rfl rfl dX9_event_9 ?_
    refine v_iconst (n := 0) ok dX9_event_12 ?_
    refine v_put (T := TX4) (N := 4) (f0 := (M 15)) (f' := up (M 15) 3 0) (ty := .int) ok mi_X9_event_4 (kd_lt (show kd 15 = 4 from rfl) (by decide)) rfl rfl (cellF_4 _ (by decide)) tyX4 tyX4_ok nmX4 3 (by decide) mk_X9_event_214 rfl rfl (by decide +kernel) rfl rfl (Nat.le_of_ble_eq_true rfl) ((cellF_4 _ (by decide)).trans rfl) dX9_event_13 ?_
    refine v_iconst (n := 0) ok dX9_event_16 ?_
    exact v_iret ok rt dX9_event_17 (Or.inl (⟨rfl, rfl, (by omega)⟩))

theorem mk_X9_looked_35 : Cond.fieldLink RX9 35 "StormRunoff" "course" "LStormRunoff$Course;" ∈ wsX9_looked := by decide +kernel
theorem mi_X9_looked_9 : ∀ w ∈ wsX90, w ∈ wsX9_looked := by decide +kernel
theorem mk_X9_looked_12 : Cond.fieldLink RX9 12 "StormRunoff" "now" "LStormRunoff$State;" ∈ wsX9_looked := by decide +kernel
theorem mk_X9_looked_67 : Cond.fieldLink RX9 67 "StormRunoff$State" "site" "LStormRunoff$Site;" ∈ wsX9_looked := by decide +kernel
theorem mi_X9_looked_7 : ∀ w ∈ wsX70, w ∈ wsX9_looked := by decide +kernel
theorem mk_X9_looked_229 : Cond.fieldLink RX9 229 "StormRunoff$State" "book" "LStormRunoff$Rows;" ∈ wsX9_looked := by decide +kernel
theorem mk_X9_looked_196 : Cond.fieldLink RX9 196 "StormRunoff$Course" "joined" "[I" ∈ wsX9_looked := by decide +kernel
theorem mi_X9_looked_1 : ∀ w ∈ wsX10, w ∈ wsX9_looked := by decide +kernel
set_option maxRecDepth 100000 in
set_option maxHeartbeats 400000 in
theorem ct_X9_looked (l : Launch) (g : Gl) (M : Mem)  (hs : SiteOk M 2) (hrow : RowOk M 18) : Ct l g yX9_looked wsX9_looked 5 111 [rf g 0] M (fun rv M' => ∃ (F O : Int → Int), rv = some (iv (fot (M 19) (M 20) (jnS M 2 (M 2 2).toNat) (M 18 3).toNat 0)) ∧ M' = (up1 (up1 (up1 M 53 (jnS M 2 (M 2 2).toNat)) 51 F) 52 O)) := by
  refine Ct.of (cc := cX9_looked) (nL := 1) (ret := (some .int)) (by decide) rfl (Nat.le_of_ble_eq_true rfl) (fun z hz ok rt => ?_)
  have ok : Ok z g cX9_looked 1 RX9 wsX9_looked 5 111 := ok
  show V z g 1 M [(0, rf g 0)] [] 0
  have hr1 : 0 ≤ M 18 3 ∧ M 18 3 ≤ 8 := by have := hrow.1; omega
  refine v_aload_n ok 0 dX9_looked_0 rfl rfl ?_
  refine v_get (T := TX9) (N := 9) (f0 := (M 0)) (v := rf g 50) ok mi_X9_looked_9 (kd_lt (show kd 0 = 9 from rfl) (by decide)) rfl rfl (cellF_9 _ (by decide)) 4 (by decide) mk_X9_looked_35 rfl rfl dX9_looked_1 ?_
  refine v_aload_n ok 0 dX9_looked_4 rfl rfl ?_
  refine v_get (T := TX9) (N := 9) (f0 := (M 0)) (v := rf g 1) ok mi_X9_looked_9 (kd_lt (show kd 0 = 9 from rfl) (by decide)) rfl rfl (cellF_9 _ (by decide)) 0 (by decide) mk_X9_looked_12 rfl rfl dX9_looked_5 ?_
  refine v_get (T := TX7) (N := 5) (f0 := (M 1)) (v := rf g 2) ok mi_X9_looked_7 (kd_lt (show kd 1 = 7 from rfl) (by decide)) rfl rfl (cellF_7 _ (by decide)) 0 (by decide) mk_X9_looked_67 rfl rfl dX9_looked_8 ?_
  refine v_callV (na := 1) (i := 50) (C := RX1) (T := TX1) (N := 3) (f0 := (M 50)) ok (ct_X1_join_2 z.2.1 g M  hs) gX9_looked_X1_join (kd_lt (show kd 50 = 1 from rfl) (by decide)) rfl rfl (cellF_1 _ (by decide)) rfl (by decide +kernel) rfl (by decide) [] rfl (Nat.le_of_ble_eq_true rfl) dX9_looked_11 (fun v2 M3 hp1 => ?_)
  obtain ⟨F4, O5, rfl, rfl⟩ := hp1
  show V z g 1 (up1 (up1 (up1 M 53 (jnS M 2 ((M 2) 2).toNat)) 51 F4) 52 O5) [(0, rf g 0)] [] 14
  refine v_aload_n ok 0 dX9_looked_14 rfl rfl ?_
  refine v_get (T := TX9) (N := 9) (f0 := (M 0)) (v := rf g 1) ok mi_X9_looked_9 (kd_lt (show kd 0 = 9 from rfl) (by decide)) rfl rfl (cellF_9 _ (by decide)) 0 (by decide) mk_X9_looked_12 rfl rfl dX9_looked_15 ?_
  refine v_get (T := TX7) (N := 5) (f0 := (M 1)) (v := rf g 18) ok mi_X9_looked_7 (kd_lt (show kd 1 = 7 from rfl) (by decide)) rfl rfl (cellF_7 _ (by decide)) 4 (by decide) mk_X9_looked_229 rfl rfl dX9_looked_18 ?_
  refine v_aload_n ok 0 dX9_looked_21 rfl rfl ?_
  refine v_get (T := TX9) (N := 9) (f0 := (M 0)) (v := rf g 50) ok mi_X9_looked_9 (kd_lt (show kd 0 = 9 from rfl) (by decide)) rfl rfl (cellF_9 _ (by decide)) 4 (by decide) mk_X9_looked_35 rfl rfl dX9_looked_22 ?_
  refine v_get (T := TX1) (N := 3) (f0 := (M 50)) (v := rf g 53) ok mi_X9_looked_1 (kd_lt (show kd 50 = 1 from rfl) (by decide)) rfl rfl (cellF_1 _ (by decide)) 2 (by decide) mk_X9_looked_196 rfl rfl dX9_looked_25 ?_
  refine v_callV (na := 1) (i := 18) (C := RX4) (T := TX4) (N := 4) (f0 := (M 18)) ok (ct_X4_firstOtherwise z.2.1 g (up1 (up1 (up1 M 53 (jnS M 2 ((M 2) 2).toNat)) 51 F4) 52 O5) 18 (by decide) hr1 hrow.2.1 hrow.2.2 (jnS_rng hs)) gX9_looked_X4_firstOtherwise (kd_lt (show kd 18 = 4 from rfl) (by decide)) rfl rfl (cellF_4 _ (by decide)) rfl (by decide +kernel) rfl (by decide) [] rfl (Nat.le_of_ble_eq_true rfl) dX9_looked_28 (fun v7 M8 hp6 => ?_)
  obtain ⟨rfl, rfl⟩ := hp6
  show V z g 1 (up1 (up1 (up1 M 53 (jnS M 2 ((M 2) 2).toNat)) 51 F4) 52 O5) [(0, rf g 0)] [iv (fot ((M 19)) ((M 20)) ((jnS M 2 ((M 2) 2).toNat)) ((M 18) 3).toNat 0)] 31
  exact v_iret ok rt dX9_looked_31 (⟨F4, O5, (congrArg (fun q : Int => some (iv q)) (show (fot ((M 19)) ((M 20)) ((jnS M 2 ((M 2) 2).toNat)) ((M 18) 3).toNat 0) = (fot (M 19) (M 20) (jnS M 2 (M 2 2).toNat) (M 18 3).toNat 0) from by omega)), (by
        funext j
        by_cases hj0 : j = 53
        · subst hj0; simp [up1, up1_self]
        by_cases hj1 : j = 51
        · subst hj1; simp [up1, up1_self]
        by_cases hj2 : j = 52
        · subst hj2; simp [up1, up1_self]
        simp [up1, hj0, hj1, hj2])⟩)

theorem mk_X9_count_12 : Cond.fieldLink RX9 12 "StormRunoff" "now" "LStormRunoff$State;" ∈ wsX9_count := by decide +kernel
theorem mi_X9_count_9 : ∀ w ∈ wsX90, w ∈ wsX9_count := by decide +kernel
theorem mk_X9_count_185 : Cond.fieldLink RX9 185 "StormRunoff$State" "seen" "LStormRunoff$Rows;" ∈ wsX9_count := by decide +kernel
theorem mi_X9_count_7 : ∀ w ∈ wsX70, w ∈ wsX9_count := by decide +kernel
theorem mk_X9_count_214 : Cond.fieldLink RX9 214 "StormRunoff$Rows" "many" "I" ∈ wsX9_count := by decide +kernel
theorem mi_X9_count_4 : ∀ w ∈ wsX40, w ∈ wsX9_count := by decide +kernel
theorem mk_X9_count_211 : Cond.fieldLink RX9 211 "StormRunoff$State" "events" "LStormRunoff$Rows;" ∈ wsX9_count := by decide +kernel
theorem mk_X9_count_229 : Cond.fieldLink RX9 229 "StormRunoff$State" "book" "LStormRunoff$Rows;" ∈ wsX9_count := by decide +kernel
theorem mk_X9_count_56 : Cond.fieldLink RX9 56 "StormRunoff" "text" "LStormRunoff$SetUp;" ∈ wsX9_count := by decide +kernel
theorem mk_X9_count_126 : Cond.fieldLink RX9 126 "StormRunoff$SetUp" "length" "I" ∈ wsX9_count := by decide +kernel
theorem mi_X9_count_5 : ∀ w ∈ wsX50, w ∈ wsX9_count := by decide +kernel
set_option maxRecDepth 100000 in
set_option maxHeartbeats 400000 in
theorem ct_X9_count (l : Launch) (g : Gl) (M : Mem) (w : Int) (hw : i32 w) : Ct l g yX9_count wsX9_count 0 0 [rf g 0, iv w] M (fun rv M' => (rv = some (iv (M 12 3)) ∧ M' = M ∧ (w = 0)) ∨ (rv = some (iv (M 15 3)) ∧ M' = M ∧ (w = 1)) ∨ (rv = some (iv (M 18 3)) ∧ M' = M ∧ (w = 2)) ∨ (rv = some (iv (M 62 1)) ∧ M' = M ∧ (w = 3)) ∨ (rv = some (iv (-2)) ∧ M' = M ∧ (¬ (0 ≤ w ∧ w ≤ 3)))) := by
  refine Ct.of (cc := cX9_count) (nL := 2) (ret := (some .int)) (by decide) rfl (Nat.le_of_ble_eq_true rfl) (fun z hz ok rt => ?_)
  have ok : Ok z g cX9_count 2 RX9 wsX9_count 0 0 := ok
  show V z g 2 M [(0, rf g 0), (1, iv w)] [] 0
  refine v_iload_n ok 1 dX9_count_0 rfl rfl ?_
  by_cases e1 : w = 0
  · skip
    refine v_tblIn (off := 31) (tgt := 32) ok ⟨by omega, by omega⟩ (by omega) (by omega) (by rw [e1]; rfl) dX9_count_1 (by decide) ?_
    refine v_aload_n ok 0 dX9_count_32 rfl rfl ?_
    refine v_get (T := TX9) (N := 9) (f0 := (M 0)) (v := rf g 1) ok mi_X9_count_9 (kd_lt (show kd 0 = 9 from rfl) (by decide)) rfl rfl (cellF_9 _ (by decide)) 0 (by decide) mk_X9_count_12 rfl rfl dX9_count_33 ?_
    refine v_get (T := TX7) (N := 5) (f0 := (M 1)) (v := rf g 12) ok mi_X9_count_7 (kd_lt (show kd 1 = 7 from rfl) (by decide)) rfl rfl (cellF_7 _ (by decide)) 2 (by decide) mk_X9_count_185 rfl rfl dX9_count_36 ?_
    refine v_get (T := TX4) (N := 4) (f0 := (M 12)) (v := iv (M 12 3)) ok mi_X9_count_4 (kd_lt (show kd 12 = 4 from rfl) (by decide)) rfl rfl (cellF_4 _ (by decide)) 3 (by decide) mk_X9_count_214 rfl rfl dX9_count_39 ?_
    exact v_iret ok rt dX9_count_42 (Or.inl (⟨rfl, rfl, (by omega)⟩))
  · skip
    by_cases e2 : w = 1
    · skip
      refine v_tblIn (off := 42) (tgt := 43) ok ⟨by omega, by omega⟩ (by omega) (by omega) (by rw [e2]; rfl) dX9_count_1 (by decide) ?_
      refine v_aload_n ok 0 dX9_count_43 rfl rfl ?_
      refine v_get (T := TX9) (N := 9) (f0 := (M 0)) (v := rf g 1) ok mi_X9_count_9 (kd_lt (show kd 0 = 9 from rfl) (by decide)) rfl rfl (cellF_9 _ (by decide)) 0 (by decide) mk_X9_count_12 rfl rfl dX9_count_44 ?_
      refine v_get (T := TX7) (N := 5) (f0 := (M 1)) (v := rf g 15) ok mi_X9_count_7 (kd_lt (show kd 1 = 7 from rfl) (by decide)) rfl rfl (cellF_7 _ (by decide)) 3 (by decide) mk_X9_count_211 rfl rfl dX9_count_47 ?_
      refine v_get (T := TX4) (N := 4) (f0 := (M 15)) (v := iv (M 15 3)) ok mi_X9_count_4 (kd_lt (show kd 15 = 4 from rfl) (by decide)) rfl rfl (cellF_4 _ (by decide)) 3 (by decide) mk_X9_count_214 rfl rfl dX9_count_50 ?_
      exact v_iret ok rt dX9_count_53 (Or.inr (Or.inl (⟨rfl, rfl, (by omega)⟩)))
    · skip
      by_cases e3 : w = 2
      · skip
        refine v_tblIn (off := 53) (tgt := 54) ok ⟨by omega, by omega⟩ (by omega) (by omega) (by rw [e3]; rfl) dX9_count_1 (by decide) ?_
        refine v_aload_n ok 0 dX9_count_54 rfl rfl ?_
        refine v_get (T := TX9) (N := 9) (f0 := (M 0)) (v := rf g 1) ok mi_X9_count_9 (kd_lt (show kd 0 = 9 from rfl) (by decide)) rfl rfl (cellF_9 _ (by decide)) 0 (by decide) mk_X9_count_12 rfl rfl dX9_count_55 ?_
        refine v_get (T := TX7) (N := 5) (f0 := (M 1)) (v := rf g 18) ok mi_X9_count_7 (kd_lt (show kd 1 = 7 from rfl) (by decide)) rfl rfl (cellF_7 _ (by decide)) 4 (by decide) mk_X9_count_229 rfl rfl dX9_count_58 ?_
        refine v_get (T := TX4) (N := 4) (f0 := (M 18)) (v := iv (M 18 3)) ok mi_X9_count_4 (kd_lt (show kd 18 = 4 from rfl) (by decide)) rfl rfl (cellF_4 _ (by decide)) 3 (by decide) mk_X9_count_214 rfl rfl dX9_count_61 ?_
        exact v_iret ok rt dX9_count_64 (Or.inr (Or.inr (Or.inl (⟨rfl, rfl, (by omega)⟩))))
      · skip
        by_cases e4 : w = 3
        · skip
          refine v_tblIn (off := 64) (tgt := 65) ok ⟨by omega, by omega⟩ (by omega) (by omega) (by rw [e4]; rfl) dX9_count_1 (by decide) ?_
          refine v_aload_n ok 0 dX9_count_65 rfl rfl ?_
          refine v_get (T := TX9) (N := 9) (f0 := (M 0)) (v := rf g 62) ok mi_X9_count_9 (kd_lt (show kd 0 = 9 from rfl) (by decide)) rfl rfl (cellF_9 _ (by decide)) 7 (by decide) mk_X9_count_56 rfl rfl dX9_count_66 ?_
          refine v_get (T := TX5) (N := 6) (f0 := (M 62)) (v := iv (M 62 1)) ok mi_X9_count_5 (kd_lt (show kd 62 = 5 from rfl) (by decide)) rfl rfl (cellF_5 _ (by decide)) 1 (by decide) mk_X9_count_126 rfl rfl dX9_count_69 ?_
          exact v_iret ok rt dX9_count_72 (Or.inr (Or.inr (Or.inr (Or.inl (⟨rfl, rfl, (by omega)⟩)))))
        · skip
          refine v_tblOut (tgt := 73) ok ⟨by omega, by omega⟩ (by omega) dX9_count_1 (by decide) ?_
          refine v_bipush (n := -2) ok rfl dX9_count_73 ?_
          exact v_iret ok rt dX9_count_75 (Or.inr (Or.inr (Or.inr (Or.inr (⟨rfl, rfl, (by omega)⟩)))))

theorem mk_X9_image_18 : Cond.fieldLink RX9 18 "StormRunoff" "kept" "LStormRunoff$State;" ∈ wsX9_image := by decide +kernel
theorem mi_X9_image_9 : ∀ w ∈ wsX90, w ∈ wsX9_image := by decide +kernel
theorem mk_X9_image_12 : Cond.fieldLink RX9 12 "StormRunoff" "now" "LStormRunoff$State;" ∈ wsX9_image := by decide +kernel
theorem mk_X9_image_21 : Cond.fieldLink RX9 21 "StormRunoff" "keptOnce" "Z" ∈ wsX9_image := by decide +kernel
theorem mk_X9_image_67 : Cond.fieldLink RX9 67 "StormRunoff$State" "site" "LStormRunoff$Site;" ∈ wsX9_image := by decide +kernel
theorem mi_X9_image_7 : ∀ w ∈ wsX70, w ∈ wsX9_image := by decide +kernel
theorem mk_X9_image_83 : Cond.fieldLink RX9 83 "StormRunoff$Site" "many" "I" ∈ wsX9_image := by decide +kernel
theorem mi_X9_image_6 : ∀ w ∈ wsX60, w ∈ wsX9_image := by decide +kernel
set_option maxRecDepth 100000 in
set_option maxHeartbeats 400000 in
theorem ct_X9_image (l : Launch) (g : Gl) (M : Mem)   : Ct l g yX9_image wsX9_image 4 86 [rf g 0] M (fun rv M' => rv = some (iv (M 2 2)) ∧ M' = (up1 (up1 (up1 (up1 (up1 (up1 (up1 (up1 (up1 (up1 (up1 (up1 (up1 (up1 (up1 (up1 (up1 (up1 (up1 M 23 (M 3)) 26 (M 6)) 25 (up (up (up (M 25) 1 (M 5 1)) 2 (M 5 2)) 3 (M 5 3))) 28 (M 8)) 27 (up (up (up (M 27) 1 (M 7 1)) 2 (M 7 2)) 3 (M 7 3))) 30 (M 10)) 29 (up (up (up (M 29) 1 (M 9 1)) 2 (M 9 2)) 3 (M 9 3))) 22 (up (M 22) 2 (M 2 2))) 31 (M 11)) 33 (M 13)) 34 (M 14)) 32 (up (M 32) 3 (M 12 3))) 36 (M 16)) 37 (M 17)) 35 (up (M 35) 3 (M 15 3))) 39 (M 19)) 40 (M 20)) 38 (up (M 38) 3 (M 18 3))) 0 (up (M 0) 2 1))) := by
  refine Ct.of (cc := cX9_image) (nL := 1) (ret := (some .int)) (by decide) rfl (Nat.le_of_ble_eq_true rfl) (fun z hz ok rt => ?_)
  have ok : Ok z g cX9_image 1 RX9 wsX9_image 4 86 := ok
  show V z g 1 M [(0, rf g 0)] [] 0
  refine v_aload_n ok 0 dX9_image_0 rfl rfl ?_
  refine v_get (T := TX9) (N := 9) (f0 := (M 0)) (v := rf g 21) ok mi_X9_image_9 (kd_lt (show kd 0 = 9 from rfl) (by decide)) rfl rfl (cellF_9 _ (by decide)) 1 (by decide) mk_X9_image_18 rfl rfl dX9_image_1 ?_
  refine v_aload_n ok 0 dX9_image_4 rfl rfl ?_
  refine v_get (T := TX9) (N := 9) (f0 := (M 0)) (v := rf g 1) ok mi_X9_image_9 (kd_lt (show kd 0 = 9 from rfl) (by decide)) rfl rfl (cellF_9 _ (by decide)) 0 (by decide) mk_X9_image_12 rfl rfl dX9_image_5 ?_
  refine v_callV (na := 1) (i := 21) (C := RX7) (T := TX7) (N := 5) (f0 := (M 21)) ok (ct_X7_become_21_1 z.2.1 g M  ) gX9_image_X7_become (kd_lt (show kd 21 = 7 from rfl) (by decide)) rfl rfl (cellF_7 _ (by decide)) rfl (by decide +kernel) rfl (by decide) [] rfl (Nat.le_of_ble_eq_true rfl) dX9_image_8 (fun v2 M3 hp1 => ?_)
  obtain ⟨rfl, rfl⟩ := hp1
  show V z g 1 (up1 (up1 (up1 (up1 (up1 (up1 (up1 (up1 (up1 (up1 (up1 (up1 (up1 (up1 (up1 (up1 (up1 (up1 M 23 ((M 3))) 26 ((M 6))) 25 (up (up (up ((M 25)) 1 ((M 5) 1)) 2 ((M 5) 2)) 3 ((M 5) 3))) 28 ((M 8))) 27 (up (up (up ((M 27)) 1 ((M 7) 1)) 2 ((M 7) 2)) 3 ((M 7) 3))) 30 ((M 10))) 29 (up (up (up ((M 29)) 1 ((M 9) 1)) 2 ((M 9) 2)) 3 ((M 9) 3))) 22 (up ((M 22)) 2 ((M 2) 2))) 31 ((M 11))) 33 ((M 13))) 34 ((M 14))) 32 (up ((M 32)) 3 ((M 12) 3))) 36 ((M 16))) 37 ((M 17))) 35 (up ((M 35)) 3 ((M 15) 3))) 39 ((M 19))) 40 ((M 20))) 38 (up ((M 38)) 3 ((M 18) 3))) [(0, rf g 0)] [] 11
  refine v_aload_n ok 0 dX9_image_11 rfl rfl ?_
  refine v_iconst (n := 1) ok dX9_image_12 ?_
  refine v_put (T := TX9) (N := 9) (f0 := (M 0)) (f' := up (M 0) 2 1) (ty := .boolean) ok mi_X9_image_9 (kd_lt (show kd 0 = 9 from rfl) (by decide)) rfl rfl (cellF_9 _ (by decide)) tyX9 tyX9_ok nmX9 2 (by decide) mk_X9_image_21 rfl rfl (by decide +kernel) rfl rfl (Nat.le_of_ble_eq_true rfl) ((cellF_9 _ (by decide)).trans rfl) dX9_image_13 ?_
  refine v_aload_n ok 0 dX9_image_16 rfl rfl ?_
  refine v_get (T := TX9) (N := 9) (f0 := up (M 0) 2 1) (v := rf g 1) ok mi_X9_image_9 (kd_lt (show kd 0 = 9 from rfl) (by decide)) rfl rfl (cellF_9 _ (by decide)) 0 (by decide) mk_X9_image_12 rfl rfl dX9_image_17 ?_
  refine v_get (T := TX7) (N := 5) (f0 := (M 1)) (v := rf g 2) ok mi_X9_image_7 (kd_lt (show kd 1 = 7 from rfl) (by decide)) rfl rfl (cellF_7 _ (by decide)) 0 (by decide) mk_X9_image_67 rfl rfl dX9_image_20 ?_
  refine v_get (T := TX6) (N := 3) (f0 := (M 2)) (v := iv (M 2 2)) ok mi_X9_image_6 (kd_lt (show kd 2 = 6 from rfl) (by decide)) rfl rfl (cellF_6 _ (by decide)) 2 (by decide) mk_X9_image_83 rfl rfl dX9_image_23 ?_
  exact v_iret ok rt dX9_image_26 (⟨rfl, (by
        funext j
        by_cases hj0 : j = 23
        · subst hj0; simp [up1, up1_self]
        by_cases hj1 : j = 26
        · subst hj1; simp [up1, up1_self]
        by_cases hj2 : j = 25
        · subst hj2; simp [up1, up1_self]
        by_cases hj3 : j = 28
        · subst hj3; simp [up1, up1_self]
        by_cases hj4 : j = 27
        · subst hj4; simp [up1, up1_self]
        by_cases hj5 : j = 30
        · subst hj5; simp [up1, up1_self]
        by_cases hj6 : j = 29
        · subst hj6; simp [up1, up1_self]
        by_cases hj7 : j = 22
        · subst hj7; simp [up1, up1_self]
        by_cases hj8 : j = 31
        · subst hj8; simp [up1, up1_self]
        by_cases hj9 : j = 33
        · subst hj9; simp [up1, up1_self]
        by_cases hj10 : j = 34
        · subst hj10; simp [up1, up1_self]
        by_cases hj11 : j = 32
        · subst hj11; simp [up1, up1_self]
        by_cases hj12 : j = 36
        · subst hj12; simp [up1, up1_self]
        by_cases hj13 : j = 37
        · subst hj13; simp [up1, up1_self]
        by_cases hj14 : j = 35
        · subst hj14; simp [up1, up1_self]
        by_cases hj15 : j = 39
        · subst hj15; simp [up1, up1_self]
        by_cases hj16 : j = 40
        · subst hj16; simp [up1, up1_self]
        by_cases hj17 : j = 38
        · subst hj17; simp [up1, up1_self]
        by_cases hj18 : j = 0
        · subst hj18; simp [up1, up1_self]
        simp [up1, hj0, hj1, hj2, hj3, hj4, hj5, hj6, hj7, hj8, hj9, hj10, hj11, hj12, hj13, hj14, hj15, hj16, hj17, hj18])⟩)

theorem mk_X9_undo_21 : Cond.fieldLink RX9 21 "StormRunoff" "keptOnce" "Z" ∈ wsX9_undo := by decide +kernel
theorem mi_X9_undo_9 : ∀ w ∈ wsX90, w ∈ wsX9_undo := by decide +kernel
theorem mk_X9_undo_12 : Cond.fieldLink RX9 12 "StormRunoff" "now" "LStormRunoff$State;" ∈ wsX9_undo := by decide +kernel
theorem mk_X9_undo_18 : Cond.fieldLink RX9 18 "StormRunoff" "kept" "LStormRunoff$State;" ∈ wsX9_undo := by decide +kernel
theorem mk_X9_undo_67 : Cond.fieldLink RX9 67 "StormRunoff$State" "site" "LStormRunoff$Site;" ∈ wsX9_undo := by decide +kernel
theorem mi_X9_undo_7 : ∀ w ∈ wsX70, w ∈ wsX9_undo := by decide +kernel
theorem mk_X9_undo_83 : Cond.fieldLink RX9 83 "StormRunoff$Site" "many" "I" ∈ wsX9_undo := by decide +kernel
theorem mi_X9_undo_6 : ∀ w ∈ wsX60, w ∈ wsX9_undo := by decide +kernel
set_option maxRecDepth 100000 in
set_option maxHeartbeats 400000 in
theorem ct_X9_undo (l : Launch) (g : Gl) (M : Mem)  (hk : 0 ≤ M 0 2 ∧ M 0 2 ≤ 1) : Ct l g yX9_undo wsX9_undo 4 86 [rf g 0] M (fun rv M' => (rv = some (iv (-3)) ∧ M' = M ∧ (M 0 2 = 0)) ∨ (rv = some (iv (M 22 2)) ∧ M' = (up1 (up1 (up1 (up1 (up1 (up1 (up1 (up1 (up1 (up1 (up1 (up1 (up1 (up1 (up1 (up1 (up1 (up1 M 3 (M 23)) 6 (M 26)) 5 (up (up (up (M 5) 1 (M 25 1)) 2 (M 25 2)) 3 (M 25 3))) 8 (M 28)) 7 (up (up (up (M 7) 1 (M 27 1)) 2 (M 27 2)) 3 (M 27 3))) 10 (M 30)) 9 (up (up (up (M 9) 1 (M 29 1)) 2 (M 29 2)) 3 (M 29 3))) 2 (up (M 2) 2 (M 22 2))) 11 (M 31)) 13 (M 33)) 14 (M 34)) 12 (up (M 12) 3 (M 32 3))) 16 (M 36)) 17 (M 37)) 15 (up (M 15) 3 (M 35 3))) 19 (M 39)) 20 (M 40)) 18 (up (M 18) 3 (M 38 3))) ∧ (M 0 2 = 1))) := by
  refine Ct.of (cc := cX9_undo) (nL := 1) (ret := (some .int)) (by decide) rfl (Nat.le_of_ble_eq_true rfl) (fun z hz ok rt => ?_)
  have ok : Ok z g cX9_undo 1 RX9 wsX9_undo 4 86 := ok
  show V z g 1 M [(0, rf g 0)] [] 0
  refine v_aload_n ok 0 dX9_undo_0 rfl rfl ?_
  refine v_get (T := TX9) (N := 9) (f0 := (M 0)) (v := iv (M 0 2)) ok mi_X9_undo_9 (kd_lt (show kd 0 = 9 from rfl) (by decide)) rfl rfl (cellF_9 _ (by decide)) 2 (by decide) mk_X9_undo_21 rfl rfl dX9_undo_1 ?_
  refine v_if_ne (tgt := 10) ok ⟨by omega, by omega⟩ dX9_undo_4 (by decide) (fun c1 => ?_) (fun c1 => ?_)
  · skip
    refine v_aload_n ok 0 dX9_undo_10 rfl rfl ?_
    refine v_get (T := TX9) (N := 9) (f0 := (M 0)) (v := rf g 1) ok mi_X9_undo_9 (kd_lt (show kd 0 = 9 from rfl) (by decide)) rfl rfl (cellF_9 _ (by decide)) 0 (by decide) mk_X9_undo_12 rfl rfl dX9_undo_11 ?_
    refine v_aload_n ok 0 dX9_undo_14 rfl rfl ?_
    refine v_get (T := TX9) (N := 9) (f0 := (M 0)) (v := rf g 21) ok mi_X9_undo_9 (kd_lt (show kd 0 = 9 from rfl) (by decide)) rfl rfl (cellF_9 _ (by decide)) 1 (by decide) mk_X9_undo_18 rfl rfl dX9_undo_15 ?_
    refine v_callV (na := 1) (i := 1) (C := RX7) (T := TX7) (N := 5) (f0 := (M 1)) ok (ct_X7_become_1_21 z.2.1 g M  ) gX9_undo_X7_become (kd_lt (show kd 1 = 7 from rfl) (by decide)) rfl rfl (cellF_7 _ (by decide)) rfl (by decide +kernel) rfl (by decide) [] rfl (Nat.le_of_ble_eq_true rfl) dX9_undo_18 (fun v3 M4 hp2 => ?_)
    obtain ⟨rfl, rfl⟩ := hp2
    show V z g 1 (up1 (up1 (up1 (up1 (up1 (up1 (up1 (up1 (up1 (up1 (up1 (up1 (up1 (up1 (up1 (up1 (up1 (up1 M 3 ((M 23))) 6 ((M 26))) 5 (up (up (up ((M 5)) 1 ((M 25) 1)) 2 ((M 25) 2)) 3 ((M 25) 3))) 8 ((M 28))) 7 (up (up (up ((M 7)) 1 ((M 27) 1)) 2 ((M 27) 2)) 3 ((M 27) 3))) 10 ((M 30))) 9 (up (up (up ((M 9)) 1 ((M 29) 1)) 2 ((M 29) 2)) 3 ((M 29) 3))) 2 (up ((M 2)) 2 ((M 22) 2))) 11 ((M 31))) 13 ((M 33))) 14 ((M 34))) 12 (up ((M 12)) 3 ((M 32) 3))) 16 ((M 36))) 17 ((M 37))) 15 (up ((M 15)) 3 ((M 35) 3))) 19 ((M 39))) 20 ((M 40))) 18 (up ((M 18)) 3 ((M 38) 3))) [(0, rf g 0)] [] 21
    refine v_aload_n ok 0 dX9_undo_21 rfl rfl ?_
    refine v_get (T := TX9) (N := 9) (f0 := (M 0)) (v := rf g 1) ok mi_X9_undo_9 (kd_lt (show kd 0 = 9 from rfl) (by decide)) rfl rfl (cellF_9 _ (by decide)) 0 (by decide) mk_X9_undo_12 rfl rfl dX9_undo_22 ?_
    refine v_get (T := TX7) (N := 5) (f0 := (M 1)) (v := rf g 2) ok mi_X9_undo_7 (kd_lt (show kd 1 = 7 from rfl) (by decide)) rfl rfl (cellF_7 _ (by decide)) 0 (by decide) mk_X9_undo_67 rfl rfl dX9_undo_25 ?_
    refine v_get (T := TX6) (N := 3) (f0 := (up ((M 2)) 2 ((M 22) 2))) (v := iv ((M 22) 2)) ok mi_X9_undo_6 (kd_lt (show kd 2 = 6 from rfl) (by decide)) rfl rfl (cellF_6 _ (by decide)) 2 (by decide) mk_X9_undo_83 rfl rfl dX9_undo_28 ?_
    first | (exact v_iret ok rt dX9_undo_31 (Or.inl (⟨rfl, (by
          funext j
          by_cases hj0 : j = 3
          · subst hj0; simp [up1, up1_self]
          by_cases hj1 : j = 6
          · subst hj1; simp [up1, up1_self]
          by_cases hj2 : j = 5
          · subst hj2; simp [up1, up1_self]
          by_cases hj3 : j = 8
          · subst hj3; simp [up1, up1_self]
          by_cases hj4 : j = 7
          · subst hj4; simp [up1, up1_self]
          by_cases hj5 : j = 10
          · subst hj5; simp [up1, up1_self]
          by_cases hj6 : j = 9
          · subst hj6; simp [up1, up1_self]
          by_cases hj7 : j = 2
          · subst hj7; simp [up1, up1_self]
          by_cases hj8 : j = 11
          · subst hj8; simp [up1, up1_self]
          by_cases hj9 : j = 13
          · subst hj9; simp [up1, up1_self]
          by_cases hj10 : j = 14
          · subst hj10; simp [up1, up1_self]
          by_cases hj11 : j = 12
          · subst hj11; simp [up1, up1_self]
          by_cases hj12 : j = 16
          · subst hj12; simp [up1, up1_self]
          by_cases hj13 : j = 17
          · subst hj13; simp [up1, up1_self]
          by_cases hj14 : j = 15
          · subst hj14; simp [up1, up1_self]
          by_cases hj15 : j = 19
          · subst hj15; simp [up1, up1_self]
          by_cases hj16 : j = 20
          · subst hj16; simp [up1, up1_self]
          by_cases hj17 : j = 18
          · subst hj17; simp [up1, up1_self]
          simp [up1, hj0, hj1, hj2, hj3, hj4, hj5, hj6, hj7, hj8, hj9, hj10, hj11, hj12, hj13, hj14, hj15, hj16, hj17]), (by omega)⟩))) | (exact v_iret ok rt dX9_undo_31 (Or.inr (⟨(congrArg (fun q : Int => some (iv q)) (show ((M 22) 2) = (M 22 2) from by omega)), (by
          funext j
          by_cases hj0 : j = 3
          · subst hj0; simp [up1, up1_self]
          by_cases hj1 : j = 6
          · subst hj1; simp [up1, up1_self]
          by_cases hj2 : j = 5
          · subst hj2; simp [up1, up1_self]
          by_cases hj3 : j = 8
          · subst hj3; simp [up1, up1_self]
          by_cases hj4 : j = 7
          · subst hj4; simp [up1, up1_self]
          by_cases hj5 : j = 10
          · subst hj5; simp [up1, up1_self]
          by_cases hj6 : j = 9
          · subst hj6; simp [up1, up1_self]
          by_cases hj7 : j = 2
          · subst hj7; simp [up1, up1_self]
          by_cases hj8 : j = 11
          · subst hj8; simp [up1, up1_self]
          by_cases hj9 : j = 13
          · subst hj9; simp [up1, up1_self]
          by_cases hj10 : j = 14
          · subst hj10; simp [up1, up1_self]
          by_cases hj11 : j = 12
          · subst hj11; simp [up1, up1_self]
          by_cases hj12 : j = 16
          · subst hj12; simp [up1, up1_self]
          by_cases hj13 : j = 17
          · subst hj13; simp [up1, up1_self]
          by_cases hj14 : j = 15
          · subst hj14; simp [up1, up1_self]
          by_cases hj15 : j = 19
          · subst hj15; simp [up1, up1_self]
          by_cases hj16 : j = 20
          · subst hj16; simp [up1, up1_self]
          by_cases hj17 : j = 18
          · subst hj17; simp [up1, up1_self]
          simp [up1, hj0, hj1, hj2, hj3, hj4, hj5, hj6, hj7, hj8, hj9, hj10, hj11, hj12, hj13, hj14, hj15, hj16, hj17]), (by omega)⟩)))
  · skip
    refine v_bipush (n := -3) ok rfl dX9_undo_7 ?_
    first | (exact v_iret ok rt dX9_undo_9 (Or.inl (⟨rfl, rfl, (by omega)⟩))) | (exact v_iret ok rt dX9_undo_9 (Or.inr (⟨(congrArg (fun q : Int => some (iv q)) (show (-3) = (M 22 2) from by omega)), (by
          funext j
          by_cases hj0 : j = 3
          · subst hj0; simp [up1, up1_self]
          by_cases hj1 : j = 6
          · subst hj1; simp [up1, up1_self]
          by_cases hj2 : j = 5
          · subst hj2; simp [up1, up1_self]
          by_cases hj3 : j = 8
          · subst hj3; simp [up1, up1_self]
          by_cases hj4 : j = 7
          · subst hj4; simp [up1, up1_self]
          by_cases hj5 : j = 10
          · subst hj5; simp [up1, up1_self]
          by_cases hj6 : j = 9
          · subst hj6; simp [up1, up1_self]
          by_cases hj7 : j = 2
          · subst hj7; simp [up1, up1_self]
          by_cases hj8 : j = 11
          · subst hj8; simp [up1, up1_self]
          by_cases hj9 : j = 13
          · subst hj9; simp [up1, up1_self]
          by_cases hj10 : j = 14
          · subst hj10; simp [up1, up1_self]
          by_cases hj11 : j = 12
          · subst hj11; simp [up1, up1_self]
          by_cases hj12 : j = 16
          · subst hj12; simp [up1, up1_self]
          by_cases hj13 : j = 17
          · subst hj13; simp [up1, up1_self]
          by_cases hj14 : j = 15
          · subst hj14; simp [up1, up1_self]
          by_cases hj15 : j = 19
          · subst hj15; simp [up1, up1_self]
          by_cases hj16 : j = 20
          · subst hj16; simp [up1, up1_self]
          by_cases hj17 : j = 18
          · subst hj17; simp [up1, up1_self]
          simp [up1, hj0, hj1, hj2, hj3, hj4, hj5, hj6, hj7, hj8, hj9, hj10, hj11, hj12, hj13, hj14, hj15, hj16, hj17]), (by omega)⟩)))
