set_option maxRecDepth 100000 in
set_option maxHeartbeats 2000000 in
theorem law_loop {z : Fz} {g : Gl} {b L : Nat} {xs : Nat → Int32} (ok : Ok z g code 4 RL wsL_law 9 320) (hX : SX z g b L xs) (hL : L ≤ 3072) (hE : ∀ (M : Mem) (ls : List (Nat × Value)), V z g 4 M ls [iv 1] 1226) : ∀ (n : Nat) (i : Int) (M : Mem), InvF M → 0 ≤ i → i ≤ 3078 → ((L : Int) - i).toNat < n → V z g 4 M [(3, iv i), (2, rf g 78), (1, rf g 0), (0, .ref b)] [] 18 := by
  intro n
  induction n with
  | zero => intro i M _ _ _ hn; exact absurd hn (Nat.not_lt_zero _)
  | succ n ih =>
    intro i M hI h0 h1 hn
    refine v_iload_n ok 0 dL_law_18 rfl rfl ?_
    refine v_aload_n ok 3 dL_law_19 rfl rfl ?_
    refine v_slen ok hX dL_law_20 ?_
    refine v_bipush (n := 6) ok rfl dL_law_21 ?_
    refine v_isub ok dL_law_23 ?_
    refine v_icmp_gt (tgt := 1225) ok ⟨by omega, by omega⟩ ⟨by omega, by omega⟩ dL_law_24 (by decide) (fun c1 => ?_) (fun c1 => ?_)
    · refine v_iconst (n := 1) ok dL_law_1225 ?_
      exact hE M _
    · have h6 : i + 6 ≤ L := by omega
      have K : ∀ M2 : Mem, InvP M2 → V z g 4 M2 [(3, iv i), (2, rf g 78), (1, rf g 0), (0, .ref b)] [] 1219 := fun M2 hP => by
        refine v_iinc ok 0 [(3, iv (i + 6)), (2, rf g 78), (1, rf g 0), (0, .ref b)] dL_law_1219 rfl (by decide) rfl ?_
        refine v_goto (tgt := 18) ok dL_law_1222 (by decide) ?_
        refine v_eqv (cnI M2) (cnI_eq hP) ?_
        exact ih (i + 6) (cnI M2) (cnI_F hP) (by omega) (by omega) (by omega)
      refine v_aload_n ok 3 dL_law_27 rfl rfl ?_
      refine v_iload_n ok 0 dL_law_28 rfl rfl ?_
      refine v_sld ok hX (by omega) (by omega) hL dL_law_29 ?_
      refine v_bipush (n := 63) ok rfl dL_law_30 ?_
      refine v_iand63 ok dL_law_32 (fun r r0 r1 => ?_)
      by_cases y0 : r = 0
      · subst y0; exact v_tblIn (off := 151) (tgt := 184) ok (by decide) (by decide) (by decide) rfl dL_law_33 (by decide) (lc_rain ok hX hL h0 h6 hI K)
      by_cases y1 : r = 1
      · subst y1; exact v_tblIn (off := 184) (tgt := 217) ok (by decide) (by decide) (by decide) rfl dL_law_33 (by decide) (lc_basin ok hX hL h0 h6 hI K)
      by_cases y2 : r = 2
      · subst y2; exact v_tblIn (off := 207) (tgt := 240) ok (by decide) (by decide) (by decide) rfl dL_law_33 (by decide) (lc_hold ok hX hL h0 h6 hI K)
      by_cases y3 : r = 3
      · subst y3; exact v_tblIn (off := 250) (tgt := 283) ok (by decide) (by decide) (by decide) rfl dL_law_33 (by decide) (lc_tell ok hX hL h0 h6 hI K)
      by_cases y4 : r = 4
      · subst y4; exact v_tblIn (off := 283) (tgt := 316) ok (by decide) (by decide) (by decide) rfl dL_law_33 (by decide) (lc_take ok hX hL h0 h6 hI K)
      by_cases y5 : r = 5
      · subst y5; exact v_tblIn (off := 306) (tgt := 339) ok (by decide) (by decide) (by decide) rfl dL_law_33 (by decide) (lc_feed ok hX hL h0 h6 hI K)
      by_cases y6 : r = 6
      · subst y6; exact v_tblIn (off := 329) (tgt := 362) ok (by decide) (by decide) (by decide) rfl dL_law_33 (by decide) (lc_read ok hX hL h0 h6 hI K)
      by_cases y7 : r = 7
      · subst y7; exact v_tblIn (off := 342) (tgt := 375) ok (by decide) (by decide) (by decide) rfl dL_law_33 (by decide) (lc_of ok hX hL h0 h6 hI K)
      by_cases y8 : r = 8
      · subst y8; exact v_tblIn (off := 375) (tgt := 408) ok (by decide) (by decide) (by decide) rfl dL_law_33 (by decide) (lc_told ok hX hL h0 h6 hI K)
      by_cases y9 : r = 9
      · subst y9; exact v_tblIn (off := 408) (tgt := 441) ok (by decide) (by decide) (by decide) rfl dL_law_33 (by decide) (lc_flow ok hX hL h0 h6 hI K)
      by_cases y10 : r = 10
      · subst y10; exact v_tblIn (off := 451) (tgt := 484) ok (by decide) (by decide) (by decide) rfl dL_law_33 (by decide) (lc_row ok hX hL h0 h6 hI K)
      by_cases y11 : r = 11
      · subst y11; exact v_tblIn (off := 484) (tgt := 517) ok (by decide) (by decide) (by decide) rfl dL_law_33 (by decide) (lc_basins ok hX hL h0 h6 hI K)
      by_cases y12 : r = 12
      · subst y12; exact v_tblIn (off := 497) (tgt := 530) ok (by decide) (by decide) (by decide) rfl dL_law_33 (by decide) (lc_flaw ok hX hL h0 h6 hI K)
      by_cases y13 : r = 13
      · subst y13; exact v_tblIn (off := 520) (tgt := 553) ok (by decide) (by decide) (by decide) rfl dL_law_33 (by decide) (lc_unfold ok hX hL h0 h6 hI K)
      by_cases y14 : r = 14
      · subst y14; exact v_tblIn (off := 553) (tgt := 586) ok (by decide) (by decide) (by decide) rfl dL_law_33 (by decide) (lc_backFlaw ok hX hL h0 h6 hI K)
      by_cases y15 : r = 15
      · subst y15; exact v_tblIn (off := 566) (tgt := 599) ok (by decide) (by decide) (by decide) rfl dL_law_33 (by decide) (lc_back ok hX hL h0 h6 hI K)
      by_cases y16 : r = 16
      · subst y16; exact v_tblIn (off := 589) (tgt := 622) ok (by decide) (by decide) (by decide) rfl dL_law_33 (by decide) (lc_nearest ok hX hL h0 h6 hI K)
      by_cases y17 : r = 17
      · subst y17; exact v_tblIn (off := 622) (tgt := 655) ok (by decide) (by decide) (by decide) rfl dL_law_33 (by decide) (lc_exchange ok hX hL h0 h6 hI K)
      by_cases y18 : r = 18
      · subst y18; exact v_tblIn (off := 645) (tgt := 678) ok (by decide) (by decide) (by decide) rfl dL_law_33 (by decide) (lc_see ok hX hL h0 h6 hI K)
      by_cases y19 : r = 19
      · subst y19; exact v_tblIn (off := 678) (tgt := 711) ok (by decide) (by decide) (by decide) rfl dL_law_33 (by decide) (lc_fits ok hX hL h0 h6 hI K)
      by_cases y20 : r = 20
      · subst y20; exact v_tblIn (off := 711) (tgt := 744) ok (by decide) (by decide) (by decide) rfl dL_law_33 (by decide) (lc_odds ok hX hL h0 h6 hI K)
      by_cases y21 : r = 21
      · subst y21; exact v_tblIn (off := 755) (tgt := 788) ok (by decide) (by decide) (by decide) rfl dL_law_33 (by decide) (lc_mean ok hX hL h0 h6 hI K)
      by_cases y22 : r = 22
      · subst y22; exact v_tblIn (off := 779) (tgt := 812) ok (by decide) (by decide) (by decide) rfl dL_law_33 (by decide) (lc_event ok hX hL h0 h6 hI K)
      by_cases y23 : r = 23
      · subst y23; exact v_tblIn (off := 812) (tgt := 845) ok (by decide) (by decide) (by decide) rfl dL_law_33 (by decide) (lc_after ok hX hL h0 h6 hI K)
      by_cases y24 : r = 24
      · subst y24; exact v_tblIn (off := 835) (tgt := 868) ok (by decide) (by decide) (by decide) rfl dL_law_33 (by decide) (lc_book ok hX hL h0 h6 hI K)
      by_cases y25 : r = 25
      · subst y25; exact v_tblIn (off := 868) (tgt := 901) ok (by decide) (by decide) (by decide) rfl dL_law_33 (by decide) (lc_looked ok hX hL h0 h6 hI K)
      by_cases y26 : r = 26
      · subst y26; exact v_tblIn (off := 881) (tgt := 914) ok (by decide) (by decide) (by decide) rfl dL_law_33 (by decide) (lc_judge ok hX hL h0 h6 hI K)
      by_cases y27 : r = 27
      · subst y27; exact v_tblIn (off := 924) (tgt := 957) ok (by decide) (by decide) (by decide) rfl dL_law_33 (by decide) (lc_image ok hX hL h0 h6 hI K)
      by_cases y28 : r = 28
      · subst y28; exact v_tblIn (off := 937) (tgt := 970) ok (by decide) (by decide) (by decide) rfl dL_law_33 (by decide) (lc_undo ok hX hL h0 h6 hI K)
      by_cases y29 : r = 29
      · subst y29; exact v_tblIn (off := 950) (tgt := 983) ok (by decide) (by decide) (by decide) rfl dL_law_33 (by decide) (lc_count ok hX hL h0 h6 hI K)
      by_cases y30 : r = 30
      · subst y30; exact v_tblIn (off := 973) (tgt := 1006) ok (by decide) (by decide) (by decide) rfl dL_law_33 (by decide) (lc_tape ok hX hL h0 h6 hI K)
      by_cases y31 : r = 31
      · subst y31; exact v_tblIn (off := 1016) (tgt := 1049) ok (by decide) (by decide) (by decide) rfl dL_law_33 (by decide) (lc_item ok hX hL h0 h6 hI K)
      by_cases y32 : r = 32
      · subst y32; exact v_tblIn (off := 1089) (tgt := 1122) ok (by decide) (by decide) (by decide) rfl dL_law_33 (by decide) (lc_peek ok hX hL h0 h6 hI K)
      by_cases y33 : r = 33
      · subst y33; exact v_tblIn (off := 1123) (tgt := 1156) ok (by decide) (by decide) (by decide) rfl dL_law_33 (by decide) (lc_shift ok hX hL h0 h6 hI K)
      exact v_tblOut (tgt := 1219) ok ⟨by omega, by omega⟩ (by omega) dL_law_33 (by decide) (K M ⟨⟨hI.1.1.P, hI.1.2⟩, ⟨hI.2.1.1.P, hI.2.1.2⟩, ⟨⟨hI.2.2.1.1.1.P, hI.2.2.1.1.2⟩, hI.2.2.1.2.1.P, hI.2.2.1.2.2⟩, hI.2.2.2.1, hI.2.2.2.2.1, ⟨⟨hI.2.2.2.2.2.1.1.1, fun k _ _ => congrFun hI.2.2.2.2.2.1.1.2 k⟩, hI.2.2.2.2.2.1.2⟩, ⟨⟨hI.2.2.2.2.2.2.1.1.P, hI.2.2.2.2.2.2.1.2.1.P, hI.2.2.2.2.2.2.1.2.2.1.P, hI.2.2.2.2.2.2.1.2.2.2.1.P, hI.2.2.2.2.2.2.1.2.2.2.2.1.P, hI.2.2.2.2.2.2.1.2.2.2.2.2.P⟩, hI.2.2.2.2.2.2.2⟩⟩)
