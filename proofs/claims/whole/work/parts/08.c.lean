theorem si_0 : Cond.instantiable RX0 4 ∈ lw_tbl := List.mem_append_right _ (List.mem_of_getElem? (l := tables_1) (i := 37) (by decide +kernel))
theorem si_1 : Cond.instantiable RX1 3 ∈ lw_tbl := List.mem_append_right _ (List.mem_of_getElem? (l := tables_1) (i := 124) (by decide +kernel))
theorem si_2 : Cond.instantiable RX2 3 ∈ lw_tbl := List.mem_append_right _ (List.mem_of_getElem? (l := tables_1) (i := 143) (by decide +kernel))
theorem si_3 : Cond.instantiable RX3 4 ∈ lw_tbl := List.mem_append_right _ (List.mem_of_getElem? (l := tables_1) (i := 161) (by decide +kernel))
theorem si_4 : Cond.instantiable RX4 4 ∈ lw_tbl := List.mem_append_right _ (List.mem_of_getElem? (l := tables_1) (i := 79) (by decide +kernel))
theorem si_5 : Cond.instantiable RX5 6 ∈ lw_tbl := List.mem_append_right _ (List.mem_of_getElem? (l := tables_1) (i := 182) (by decide +kernel))
theorem si_6 : Cond.instantiable RX6 3 ∈ lw_tbl := List.mem_append_right _ (List.mem_of_getElem? (l := tables_1) (i := 30) (by decide +kernel))
theorem si_7 : Cond.instantiable RX7 5 ∈ lw_tbl := List.mem_append_right _ (List.mem_of_getElem? (l := tables_1) (i := 24) (by decide +kernel))
theorem si_8 : Cond.instantiable RX8 3 ∈ lw_tbl := List.mem_append_right _ (List.mem_of_getElem? (l := tables_1) (i := 211) (by decide +kernel))
theorem si_9 : Cond.instantiable RX9 9 ∈ lw_tbl := List.mem_append_right _ (List.mem_of_getElem? (l := tables_1) (i := 16) (by decide +kernel))
theorem si_10 : Cond.instantiable RX10 22 ∈ lw_tbl := List.mem_append_right _ (List.mem_of_getElem? (l := tables_1) (i := 638) (by decide +kernel))
theorem sa_i : Cond.arrayClass .int ∈ lw_tbl := List.mem_append_right _ (List.mem_of_getElem? (l := tables_1) (i := 61) (by decide +kernel))
theorem sa_l : Cond.arrayClass .long ∈ lw_tbl := List.mem_append_right _ (List.mem_of_getElem? (l := tables_1) (i := 229) (by decide +kernel))
theorem sa_0 : Cond.arrayOver (.object RX0) ∈ lw_tbl := List.mem_append_right _ (List.mem_of_getElem? (l := tables_1) (i := 36) (by decide +kernel))
theorem sa_8 : Cond.arrayOver (.object RX8) ∈ lw_tbl := List.mem_append_right _ (List.mem_of_getElem? (l := tables_1) (i := 210) (by decide +kernel))
theorem sn_0 : Cond.methodLinkNest RX9 11 yX7_init RX9 ∈ lw_tbl := List.mem_append_right _ (List.mem_of_getElem? (l := tables_1) (i := 25) (by decide +kernel))
theorem sn_1 : Cond.methodLinkNest RX9 27 yX6_init RX9 ∈ lw_tbl := List.mem_append_right _ (List.mem_of_getElem? (l := tables_1) (i := 122) (by decide +kernel))
theorem sn_2 : Cond.methodLinkNest RX9 34 yX1_init RX9 ∈ lw_tbl := List.mem_append_right _ (List.mem_of_getElem? (l := tables_1) (i := 125) (by decide +kernel))
theorem sn_3 : Cond.methodLinkNest RX9 41 yX2_init RX9 ∈ lw_tbl := List.mem_append_right _ (List.mem_of_getElem? (l := tables_1) (i := 144) (by decide +kernel))
theorem sn_4 : Cond.methodLinkNest RX9 48 yX3_init RX9 ∈ lw_tbl := List.mem_append_right _ (List.mem_of_getElem? (l := tables_1) (i := 162) (by decide +kernel))
theorem sn_5 : Cond.methodLinkNest RX9 55 yX5_init RX9 ∈ lw_tbl := List.mem_append_right _ (List.mem_of_getElem? (l := tables_1) (i := 183) (by decide +kernel))
theorem sn_6 : Cond.methodLinkNest RX9 62 yX8_init RX9 ∈ lw_tbl := List.mem_append_right _ (List.mem_of_getElem? (l := tables_1) (i := 212) (by decide +kernel))
theorem sn_7 : Cond.methodLinkNest RX0 25 yX9_copyNumbers RX9 ∈ lw_tbl := List.mem_append_right _ (List.mem_of_getElem? (l := tables_1) (i := 496) (by decide +kernel))
theorem sn_8 : Cond.methodLinkNest RX0 35 yX9_between RX9 ∈ lw_tbl := List.mem_append_right _ (List.mem_of_getElem? (l := tables_1) (i := 410) (by decide +kernel))
theorem sn_9 : Cond.methodLinkNest RX1 58 yX9_measure RX9 ∈ lw_tbl := List.mem_append_right _ (List.mem_of_getElem? (l := tables_1) (i := 502) (by decide +kernel))
theorem sn_10 : Cond.methodLinkNest RX2 21 yX9_copyNumbers RX9 ∈ lw_tbl := List.mem_append_right _ (List.mem_of_getElem? (l := tables_1) (i := 297) (by decide +kernel))
theorem sn_11 : Cond.methodLinkNest RX2 44 yX9_between RX9 ∈ lw_tbl := List.mem_append_right _ (List.mem_of_getElem? (l := tables_1) (i := 307) (by decide +kernel))
theorem sn_12 : Cond.methodLinkNest RX3 39 yX9_copyNumbers RX9 ∈ lw_tbl := List.mem_append_right _ (List.mem_of_getElem? (l := tables_1) (i := 482) (by decide +kernel))
theorem sn_13 : Cond.methodLinkNest RX4 25 yX9_copyNumbers RX9 ∈ lw_tbl := List.mem_append_right _ (List.mem_of_getElem? (l := tables_1) (i := 591) (by decide +kernel))
theorem sn_14 : Cond.methodLinkNest RX4 29 yX9_between RX9 ∈ lw_tbl := List.mem_append_right _ (List.mem_of_getElem? (l := tables_1) (i := 525) (by decide +kernel))
theorem sn_15 : Cond.methodLinkNest RX5 31 yX9_between RX9 ∈ lw_tbl := List.mem_append_right _ (List.mem_of_getElem? (l := tables_1) (i := 324) (by decide +kernel))
theorem sn_16 : Cond.methodLinkNest RX6 17 yX0_init RX9 ∈ lw_tbl := List.mem_append_right _ (List.mem_of_getElem? (l := tables_1) (i := 38) (by decide +kernel))
theorem sn_17 : Cond.methodLinkNest RX6 26 yX9_copyNumbers RX9 ∈ lw_tbl := List.mem_append_right _ (List.mem_of_getElem? (l := tables_1) (i := 491) (by decide +kernel))
theorem sn_18 : Cond.methodLinkNest RX6 41 yX9_between RX9 ∈ lw_tbl := List.mem_append_right _ (List.mem_of_getElem? (l := tables_1) (i := 555) (by decide +kernel))
theorem sn_19 : Cond.methodLinkNest RX7 11 yX6_init RX9 ∈ lw_tbl := List.mem_append_right _ (List.mem_of_getElem? (l := tables_1) (i := 31) (by decide +kernel))
theorem sn_20 : Cond.methodLinkNest RX7 41 yX9_copyNumbers RX9 ∈ lw_tbl := List.mem_append_right _ (List.mem_of_getElem? (l := tables_1) (i := 586) (by decide +kernel))
theorem wl_7 : Cond.classLink RL 7 RX9 ∈ wsL_law := by decide +kernel
theorem wl_9i : Cond.instantiable RX9 9 ∈ wsL_law := by decide +kernel
theorem wl_9z : Cond.initialized RX9 ∈ wsL_law := by decide +kernel
theorem wl_9m : Cond.methodLink RL 9 yX9_init ∈ wsL_law := by decide +kernel
theorem wl_9n : Cond.initialized yX9_init.cls ∈ wsL_law := by decide +kernel
theorem wl_9s : Cond.instanceMethod yX9_init ∈ wsL_law := by decide +kernel
theorem wl_10 : Cond.classLink RL 10 RX10 ∈ wsL_law := by decide +kernel
theorem wl_10i : Cond.instantiable RX10 22 ∈ wsL_law := by decide +kernel
theorem wl_10z : Cond.initialized RX10 ∈ wsL_law := by decide +kernel
theorem wl_10m : Cond.methodLink RL 12 yX10_init ∈ wsL_law := by decide +kernel
theorem wl_10n : Cond.initialized yX10_init.cls ∈ wsL_law := by decide +kernel
theorem wl_10s : Cond.instanceMethod yX10_init ∈ wsL_law := by decide +kernel
set_option maxRecDepth 100000 in
set_option maxHeartbeats 4000000 in
theorem law_y {z : Fz} {d : Gc} {A : Nat → Prop} {b : Nat} (ok : OkC z d A code 4 RL wsL_law 9 320 95 1991) (kk : ∀ (a1 a2 : Nat) (b0 b1 : Nat → Nat), Y z d A 4 (wF d a1 a2 b0 b1) [(2, .ref a2), (1, .ref a1), (0, .ref b)] [] 16 95 1991) : Y z d A 4 [] [(0, .ref b)] [] 0 0 0 := by
  refine y_new (C := RX9) (T := TX9) (N := 9) (ci := 9) (fs := [.null, .null, iv 0, .null, .null, .null, .null, .null, .null]) ok inlX9 tyX9 tyX9_ok wl_7 wl_9i wl_9z rfl (fun j hj => by rcases (show j = 0 ∨ j = 1 ∨ j = 2 ∨ j = 3 ∨ j = 4 ∨ j = 5 ∨ j = 6 ∨ j = 7 ∨ j = 8 by omega) with rfl | rfl | rfl | rfl | rfl | rfl | rfl | rfl | rfl <;> rfl) ⟨Nat.le_of_ble_eq_true rfl, Nat.le_of_ble_eq_true rfl⟩ dL_law_0 (fun a1 => ?_)
  refine y_ws (ws' := [(a1, .inr (9, [.null, .null, iv 0, .null, .null, .null, .null, .null, .null]))]) rfl ?_
  refine y_dup ok rfl dL_law_3 ?_
  refine y_iniI (wr := []) ok (fun sz => cn_X9_init z.2.1 d a1 sz) gL_law_X9_init wl_9m wl_9n wl_9s rfl rfl (by decide +kernel) rfl ⟨Nat.le_of_ble_eq_true rfl, Nat.le_of_ble_eq_true rfl, Nat.le_of_ble_eq_true rfl, Nat.le_of_ble_eq_true rfl⟩ [.ref a1] rfl (Nat.le_of_ble_eq_true rfl) 0 [] rfl rfl rfl (by decide) dL_law_4 (fun b0 => ?_)
  refine y_ws (ws' := wC9 d a1 b0) rfl ?_
  refine y_astore_n ok [(1, .ref a1), (0, .ref b)] dL_law_7 rfl (by decide) rfl ?_
  refine y_new (C := RX10) (T := TX10) (N := 22) (ci := 10) (fs := [.null, .null, iv 0, .null, .null, iv 0, iv 0, iv 0, .null, iv 0, .null, .null, .null, iv 0, .null, .null, .null, .null, .null, .null, .null, .null]) ok inlX10 tyX10 tyX10_ok wl_10 wl_10i wl_10z rfl (fun j hj => by rcases (show j = 0 ∨ j = 1 ∨ j = 2 ∨ j = 3 ∨ j = 4 ∨ j = 5 ∨ j = 6 ∨ j = 7 ∨ j = 8 ∨ j = 9 ∨ j = 10 ∨ j = 11 ∨ j = 12 ∨ j = 13 ∨ j = 14 ∨ j = 15 ∨ j = 16 ∨ j = 17 ∨ j = 18 ∨ j = 19 ∨ j = 20 ∨ j = 21 by omega) with rfl | rfl | rfl | rfl | rfl | rfl | rfl | rfl | rfl | rfl | rfl | rfl | rfl | rfl | rfl | rfl | rfl | rfl | rfl | rfl | rfl | rfl <;> rfl) ⟨Nat.le_of_ble_eq_true rfl, Nat.le_of_ble_eq_true rfl⟩ dL_law_8 (fun a2 => ?_)
  refine y_dup ok rfl dL_law_11 ?_
  refine y_iniI (wr := wC9 d a1 b0) ok (fun sz => cn_X10_init z.2.1 d a2 sz) gL_law_X10_init wl_10m wl_10n wl_10s rfl rfl (by decide +kernel) rfl ⟨Nat.le_of_ble_eq_true rfl, Nat.le_of_ble_eq_true rfl, Nat.le_of_ble_eq_true rfl, Nat.le_of_ble_eq_true rfl⟩ [.ref a2] rfl (Nat.le_of_ble_eq_true rfl) 78 (List.range 78) rfl rfl rfl (by decide +kernel) dL_law_12 (fun b1 => ?_)
  refine y_ws (ws' := wF d a1 a2 b0 b1) rfl ?_
  refine y_astore_n ok [(2, .ref a2), (1, .ref a1), (0, .ref b)] dL_law_15 rfl (by decide) rfl ?_
  exact kk a1 a2 b0 b1
theorem cls_of {s : State} (h : ∀ (c : Nat) (q : vw_C), vwCl[c]? = some q → ∃ (cC : ClassId) (iS : Nat → Nat), u_Kn s q.1 q.2.1 q.2.2 cC iS) : ∃ D : va_G, ∀ (c : Nat) (q : vw_C), vwCl[c]? = some q → u_Kn s q.1 q.2.1 q.2.2 (D.1 c) (D.2 c) := by
  have h9 : ∀ c : Nat, ∃ x : ClassId × (Nat → Nat), ∀ q : vw_C, vwCl[c]? = some q → u_Kn s q.1 q.2.1 q.2.2 x.1 x.2 := by
    intro c
    cases hq : vwCl[c]? with
    | none => exact ⟨((0 : Nat), fun _ => 0), fun q h1 => by cases h1⟩
    | some q =>
      obtain ⟨cC, iS, h1⟩ := h c q hq
      exact ⟨(cC, iS), fun q1 h2 => by cases h2; exact h1⟩
  exact ⟨(fun c => (Classical.choose (h9 c)).1, fun c => (Classical.choose (h9 c)).2), fun c q hq => Classical.choose_spec (h9 c) q hq⟩
theorem arr_i {s : State} {args : Array Value} (h : (Cond.arrayClass .int).before args s = true) : ∃ cA : ClassId, ArrOfT s cA .int ∧ va_RA s cA .int := by
  obtain ⟨cA, kA, comp, h1, h2, h3⟩ := Cond.arrayClass_spec h
  exact ⟨cA, fun n z => ⟨fun k h => (by cases h), kA, h2, comp, h3⟩, h1⟩
theorem arr_l {s : State} {args : Array Value} (h : (Cond.arrayClass .long).before args s = true) : ∃ cA : ClassId, ArrOfT s cA .long ∧ va_RA s cA .long := by
  obtain ⟨cA, kA, comp, h1, h2, h3⟩ := Cond.arrayClass_spec h
  exact ⟨cA, fun n z => ⟨fun k h => (by cases h), kA, h2, comp, h3⟩, h1⟩
theorem arr_o {s : State} {args : Array Value} {C : String} (h : (Cond.arrayOver (.object C)).before args s = true) : ∃ cA : ClassId, ArrOfT s cA (.object C) ∧ va_RA s cA (.object C) := by
  obtain ⟨comp, cA, kA, f4, -, f2, f3, f1⟩ := Cond.arrayOver_spec h
  exact ⟨cA, fun n z => ⟨fun k h => (by cases h), kA, f2, comp, f3⟩, kA, comp, f2, f3, f4, f1⟩
