set_option maxRecDepth 100000 in
set_option maxHeartbeats 800000 in
theorem lc_exchange {z : Fz} {g : Gl} {b L : Nat} {xs : Nat → Int32} (ok : Ok z g code 4 RL wsL_law 9 320) (hX : SX z g b L xs) (hL : L ≤ 3072) {i : Int} (h0 : 0 ≤ i) (h6 : i + 6 ≤ L) {M : Mem} (hI : InvF M) (K : ∀ M2 : Mem, InvP M2 → V z g 4 M2 [(3, iv i), (2, rf g 78), (1, rf g 0), (0, .ref b)] [] 1219) : V z g 4 M [(3, iv i), (2, rf g 78), (1, rf g 0), (0, .ref b)] [] 655 := by
  refine v_aload_n ok 2 dL_law_655 rfl rfl ?_
  refine v_aload_n ok 3 dL_law_656 rfl rfl ?_
  refine v_iload_n ok 0 dL_law_657 rfl rfl ?_
  refine v_iconst (n := 1) ok dL_law_658 ?_
  refine v_iadd ok dL_law_659 ?_
  refine v_sld ok hX (by omega) (by omega) hL dL_law_660 ?_
  refine v_callV (na := 1) (i := 0) (C := RX9) (T := TX9) (N := 9) (f0 := (M 0)) ok (ct_X9_exchange z.2.1 g M (sx xs (i + 1)) (i32_of _) (hI.1.1.site hI.1.2)) gL_law_X9_exchange (kd_lt (show kd 0 = 9 from rfl) (by decide)) rfl rfl (cellF_9 _ rfl) rfl (by decide +kernel) rfl (by decide) [] rfl (Nat.le_of_ble_eq_true rfl) dL_law_661 (fun v1 M1 hp1 => ?_)
  obtain ⟨⟨y, rfl⟩, hk⟩ := kp_exchange (inv_m hI) hp1
  have e78 : M1 78 = M 78 := hk 78 (by decide)
  have e79 : M1 79 = M 79 := hk 79 (by decide)
  have e82 : M1 82 = M 82 := hk 82 (by decide)
  have e92 : M1 92 = M 92 := hk 92 (by decide)
  have e93 : M1 93 = M 93 := hk 93 (by decide)
  have e94 : M1 94 = M 94 := hk 94 (by decide)
  show V z g 4 M1 [(3, iv i), (2, rf g 78), (1, rf g 0), (0, .ref b)] [iv y] 664
  refine v_aload_n ok 1 dL_law_664 rfl rfl ?_
  refine v_aload_n ok 3 dL_law_665 rfl rfl ?_
  refine v_iload_n ok 0 dL_law_666 rfl rfl ?_
  refine v_iconst (n := 1) ok dL_law_667 ?_
  refine v_iadd ok dL_law_668 ?_
  refine v_sld ok hX (by omega) (by omega) hL dL_law_669 ?_
  refine v_callV (na := 1) (i := 78) (C := RX10) (T := TX10) (N := 22) (f0 := (M1 78)) ok (ct_X10_exchange z.2.1 g M1 (sx xs (i + 1)) (i32_of _) (by rw [e79]; exact hI.1.2)) gL_law_X10_exchange (kd_lt (show kd 78 = 10 from rfl) (by decide)) rfl rfl (cellF_10 _ rfl) rfl (by decide +kernel) rfl (by decide) [iv y] rfl (Nat.le_of_ble_eq_true rfl) dL_law_670 (fun v2 M2 hp2 => ?_)
  obtain ⟨x, q1, q2, hP⟩ := pr_exchange hI hp1 hp2
  have q3 : (iv y : Value) = iv x := Option.some.inj q1
  rw [q2]
  show V z g 4 M2 [(3, iv i), (2, rf g 78), (1, rf g 0), (0, .ref b)] [iv x, iv y] 673
  rw [q3]
  exact v_same ok dL_law_673 (by decide) (K M2 hP)
set_option maxRecDepth 100000 in
set_option maxHeartbeats 800000 in
theorem lc_see {z : Fz} {g : Gl} {b L : Nat} {xs : Nat → Int32} (ok : Ok z g code 4 RL wsL_law 9 320) (hX : SX z g b L xs) (hL : L ≤ 3072) {i : Int} (h0 : 0 ≤ i) (h6 : i + 6 ≤ L) {M : Mem} (hI : InvF M) (K : ∀ M2 : Mem, InvP M2 → V z g 4 M2 [(3, iv i), (2, rf g 78), (1, rf g 0), (0, .ref b)] [] 1219) : V z g 4 M [(3, iv i), (2, rf g 78), (1, rf g 0), (0, .ref b)] [] 678 := by
  refine v_aload_n ok 2 dL_law_678 rfl rfl ?_
  refine v_aload_n ok 3 dL_law_679 rfl rfl ?_
  refine v_iload_n ok 0 dL_law_680 rfl rfl ?_
  refine v_iconst (n := 1) ok dL_law_681 ?_
  refine v_iadd ok dL_law_682 ?_
  refine v_sld ok hX (by omega) (by omega) hL dL_law_683 ?_
  refine v_aload_n ok 3 dL_law_684 rfl rfl ?_
  refine v_iload_n ok 0 dL_law_685 rfl rfl ?_
  refine v_iconst (n := 2) ok dL_law_686 ?_
  refine v_iadd ok dL_law_687 ?_
  refine v_sld ok hX (by omega) (by omega) hL dL_law_688 ?_
  refine v_callV (na := 2) (i := 0) (C := RX9) (T := TX9) (N := 9) (f0 := (M 0)) ok (ct_X9_see z.2.1 g M (sx xs (i + 1)) (sx xs (i + 2)) (i32_of _) (i32_of _) (inv_r12 hI)) gL_law_X9_see (kd_lt (show kd 0 = 9 from rfl) (by decide)) rfl rfl (cellF_9 _ rfl) rfl (by decide +kernel) rfl (by decide) [] rfl (Nat.le_of_ble_eq_true rfl) dL_law_689 (fun v1 M1 hp1 => ?_)
  obtain ⟨⟨y, rfl⟩, hk⟩ := kp_see (inv_m hI) hp1
  have e78 : M1 78 = M 78 := hk 78 (by decide)
  have e79 : M1 79 = M 79 := hk 79 (by decide)
  have e82 : M1 82 = M 82 := hk 82 (by decide)
  have e92 : M1 92 = M 92 := hk 92 (by decide)
  have e93 : M1 93 = M 93 := hk 93 (by decide)
  have e94 : M1 94 = M 94 := hk 94 (by decide)
  show V z g 4 M1 [(3, iv i), (2, rf g 78), (1, rf g 0), (0, .ref b)] [iv y] 692
  refine v_aload_n ok 1 dL_law_692 rfl rfl ?_
  refine v_aload_n ok 3 dL_law_693 rfl rfl ?_
  refine v_iload_n ok 0 dL_law_694 rfl rfl ?_
  refine v_iconst (n := 1) ok dL_law_695 ?_
  refine v_iadd ok dL_law_696 ?_
  refine v_sld ok hX (by omega) (by omega) hL dL_law_697 ?_
  refine v_aload_n ok 3 dL_law_698 rfl rfl ?_
  refine v_iload_n ok 0 dL_law_699 rfl rfl ?_
  refine v_iconst (n := 2) ok dL_law_700 ?_
  refine v_iadd ok dL_law_701 ?_
  refine v_sld ok hX (by omega) (by omega) hL dL_law_702 ?_
  refine v_callV (na := 2) (i := 78) (C := RX10) (T := TX10) (N := 22) (f0 := (M1 78)) ok (ct_X10_see z.2.1 g M1 (sx xs (i + 1)) (sx xs (i + 2)) (i32_of _) (i32_of _) (by rw [e79]; exact hI.2.1.2.1.1)) gL_law_X10_see (kd_lt (show kd 78 = 10 from rfl) (by decide)) rfl rfl (cellF_10 _ rfl) rfl (by decide +kernel) rfl (by decide) [iv y] rfl (Nat.le_of_ble_eq_true rfl) dL_law_703 (fun v2 M2 hp2 => ?_)
  obtain ⟨x, q1, q2, hP⟩ := pr_see hI hp1 hp2
  have q3 : (iv y : Value) = iv x := Option.some.inj q1
  rw [q2]
  show V z g 4 M2 [(3, iv i), (2, rf g 78), (1, rf g 0), (0, .ref b)] [iv x, iv y] 706
  rw [q3]
  exact v_same ok dL_law_706 (by decide) (K M2 hP)
set_option maxRecDepth 100000 in
set_option maxHeartbeats 800000 in
theorem lc_fits {z : Fz} {g : Gl} {b L : Nat} {xs : Nat → Int32} (ok : Ok z g code 4 RL wsL_law 9 320) (hX : SX z g b L xs) (hL : L ≤ 3072) {i : Int} (h0 : 0 ≤ i) (h6 : i + 6 ≤ L) {M : Mem} (hI : InvF M) (K : ∀ M2 : Mem, InvP M2 → V z g 4 M2 [(3, iv i), (2, rf g 78), (1, rf g 0), (0, .ref b)] [] 1219) : V z g 4 M [(3, iv i), (2, rf g 78), (1, rf g 0), (0, .ref b)] [] 711 := by
  refine v_aload_n ok 2 dL_law_711 rfl rfl ?_
  refine v_aload_n ok 3 dL_law_712 rfl rfl ?_
  refine v_iload_n ok 0 dL_law_713 rfl rfl ?_
  refine v_iconst (n := 1) ok dL_law_714 ?_
  refine v_iadd ok dL_law_715 ?_
  refine v_sld ok hX (by omega) (by omega) hL dL_law_716 ?_
  refine v_aload_n ok 3 dL_law_717 rfl rfl ?_
  refine v_iload_n ok 0 dL_law_718 rfl rfl ?_
  refine v_iconst (n := 2) ok dL_law_719 ?_
  refine v_iadd ok dL_law_720 ?_
  refine v_sld ok hX (by omega) (by omega) hL dL_law_721 ?_
  refine v_callV (na := 2) (i := 0) (C := RX9) (T := TX9) (N := 9) (f0 := (M 0)) ok (ct_X9_fits z.2.1 g M (sx xs (i + 1)) (sx xs (i + 2)) (i32_of _) (i32_of _) (hI.1.1.site hI.1.2) (inv_row12 hI)) gL_law_X9_fits (kd_lt (show kd 0 = 9 from rfl) (by decide)) rfl rfl (cellF_9 _ rfl) rfl (by decide +kernel) rfl (by decide) [] rfl (Nat.le_of_ble_eq_true rfl) dL_law_722 (fun v1 M1 hp1 => ?_)
  obtain ⟨⟨y, rfl⟩, hk⟩ := kp_fits (inv_m hI) hp1
  have e78 : M1 78 = M 78 := hk 78 (by decide)
  have e79 : M1 79 = M 79 := hk 79 (by decide)
  have e82 : M1 82 = M 82 := hk 82 (by decide)
  have e92 : M1 92 = M 92 := hk 92 (by decide)
  have e93 : M1 93 = M 93 := hk 93 (by decide)
  have e94 : M1 94 = M 94 := hk 94 (by decide)
  show V z g 4 M1 [(3, iv i), (2, rf g 78), (1, rf g 0), (0, .ref b)] [iv y] 725
  refine v_aload_n ok 1 dL_law_725 rfl rfl ?_
  refine v_aload_n ok 3 dL_law_726 rfl rfl ?_
  refine v_iload_n ok 0 dL_law_727 rfl rfl ?_
  refine v_iconst (n := 1) ok dL_law_728 ?_
  refine v_iadd ok dL_law_729 ?_
  refine v_sld ok hX (by omega) (by omega) hL dL_law_730 ?_
  refine v_aload_n ok 3 dL_law_731 rfl rfl ?_
  refine v_iload_n ok 0 dL_law_732 rfl rfl ?_
  refine v_iconst (n := 2) ok dL_law_733 ?_
  refine v_iadd ok dL_law_734 ?_
  refine v_sld ok hX (by omega) (by omega) hL dL_law_735 ?_
  refine v_callV (na := 2) (i := 78) (C := RX10) (T := TX10) (N := 22) (f0 := (M1 78)) ok (ct_X10_fits z.2.1 g M1 (sx xs (i + 1)) (sx xs (i + 2)) (i32_of _) (i32_of _) (by rw [e79]; exact hI.1.2) (by rw [e79]; exact hI.2.1.2.1.1) (by rw [e79]; exact hI.2.1.2.1.2.1) (by rw [e79]; exact hI.2.1.2.1.2.2)) gL_law_X10_fits (kd_lt (show kd 78 = 10 from rfl) (by decide)) rfl rfl (cellF_10 _ rfl) rfl (by decide +kernel) rfl (by decide) [iv y] rfl (Nat.le_of_ble_eq_true rfl) dL_law_736 (fun v2 M2 hp2 => ?_)
  obtain ⟨x, q1, q2, hP⟩ := pr_fits hI hp1 hp2
  have q3 : (iv y : Value) = iv x := Option.some.inj q1
  rw [q2]
  show V z g 4 M2 [(3, iv i), (2, rf g 78), (1, rf g 0), (0, .ref b)] [iv x, iv y] 739
  rw [q3]
  exact v_same ok dL_law_739 (by decide) (K M2 hP)
set_option maxRecDepth 100000 in
set_option maxHeartbeats 800000 in
theorem lc_odds {z : Fz} {g : Gl} {b L : Nat} {xs : Nat → Int32} (ok : Ok z g code 4 RL wsL_law 9 320) (hX : SX z g b L xs) (hL : L ≤ 3072) {i : Int} (h0 : 0 ≤ i) (h6 : i + 6 ≤ L) {M : Mem} (hI : InvF M) (K : ∀ M2 : Mem, InvP M2 → V z g 4 M2 [(3, iv i), (2, rf g 78), (1, rf g 0), (0, .ref b)] [] 1219) : V z g 4 M [(3, iv i), (2, rf g 78), (1, rf g 0), (0, .ref b)] [] 744 := by
  refine v_aload_n ok 2 dL_law_744 rfl rfl ?_
  refine v_aload_n ok 3 dL_law_745 rfl rfl ?_
  refine v_iload_n ok 0 dL_law_746 rfl rfl ?_
  refine v_iconst (n := 1) ok dL_law_747 ?_
  refine v_iadd ok dL_law_748 ?_
  refine v_sld ok hX (by omega) (by omega) hL dL_law_749 ?_
  refine v_aload_n ok 3 dL_law_750 rfl rfl ?_
  refine v_iload_n ok 0 dL_law_751 rfl rfl ?_
  refine v_iconst (n := 2) ok dL_law_752 ?_
  refine v_iadd ok dL_law_753 ?_
  refine v_sld ok hX (by omega) (by omega) hL dL_law_754 ?_
  refine v_aload_n ok 3 dL_law_755 rfl rfl ?_
  refine v_iload_n ok 0 dL_law_756 rfl rfl ?_
  refine v_iconst (n := 3) ok dL_law_757 ?_
  refine v_iadd ok dL_law_758 ?_
  refine v_sld ok hX (by omega) (by omega) hL dL_law_759 ?_
  refine v_callV (na := 3) (i := 0) (C := RX9) (T := TX9) (N := 9) (f0 := (M 0)) ok (ct_X9_odds z.2.1 g M (sx xs (i + 1)) (sx xs (i + 2)) (sx xs (i + 3)) (i32_of _) (i32_of _) (i32_of _) (hI.1.1.site hI.1.2)) gL_law_X9_odds (kd_lt (show kd 0 = 9 from rfl) (by decide)) rfl rfl (cellF_9 _ rfl) rfl (by decide +kernel) rfl (by decide) [] rfl (Nat.le_of_ble_eq_true rfl) dL_law_760 (fun v1 M1 hp1 => ?_)
  obtain ⟨⟨y, rfl⟩, hk⟩ := kp_odds (inv_m hI) hp1
  have e78 : M1 78 = M 78 := hk 78 (by decide)
  have e79 : M1 79 = M 79 := hk 79 (by decide)
  have e82 : M1 82 = M 82 := hk 82 (by decide)
  have e92 : M1 92 = M 92 := hk 92 (by decide)
  have e93 : M1 93 = M 93 := hk 93 (by decide)
  have e94 : M1 94 = M 94 := hk 94 (by decide)
  show V z g 4 M1 [(3, iv i), (2, rf g 78), (1, rf g 0), (0, .ref b)] [jv y] 763
  refine v_aload_n ok 1 dL_law_763 rfl rfl ?_
  refine v_aload_n ok 3 dL_law_764 rfl rfl ?_
  refine v_iload_n ok 0 dL_law_765 rfl rfl ?_
  refine v_iconst (n := 1) ok dL_law_766 ?_
  refine v_iadd ok dL_law_767 ?_
  refine v_sld ok hX (by omega) (by omega) hL dL_law_768 ?_
  refine v_aload_n ok 3 dL_law_769 rfl rfl ?_
  refine v_iload_n ok 0 dL_law_770 rfl rfl ?_
  refine v_iconst (n := 2) ok dL_law_771 ?_
  refine v_iadd ok dL_law_772 ?_
  refine v_sld ok hX (by omega) (by omega) hL dL_law_773 ?_
  refine v_aload_n ok 3 dL_law_774 rfl rfl ?_
  refine v_iload_n ok 0 dL_law_775 rfl rfl ?_
  refine v_iconst (n := 3) ok dL_law_776 ?_
  refine v_iadd ok dL_law_777 ?_
  refine v_sld ok hX (by omega) (by omega) hL dL_law_778 ?_
  refine v_callV (na := 3) (i := 78) (C := RX10) (T := TX10) (N := 22) (f0 := (M1 78)) ok (ct_X10_odds z.2.1 g M1 (sx xs (i + 1)) (sx xs (i + 2)) (sx xs (i + 3)) (i32_of _) (i32_of _) (i32_of _) (by rw [e79]; exact hI.1.2)) gL_law_X10_odds (kd_lt (show kd 78 = 10 from rfl) (by decide)) rfl rfl (cellF_10 _ rfl) rfl (by decide +kernel) rfl (by decide) [jv y] rfl (Nat.le_of_ble_eq_true rfl) dL_law_779 (fun v2 M2 hp2 => ?_)
  obtain ⟨x, q1, q2, hP⟩ := pr_odds hI hp1 hp2
  have q3 : (jv y : Value) = jv x := Option.some.inj q1
  rw [q2]
  show V z g 4 M2 [(3, iv i), (2, rf g 78), (1, rf g 0), (0, .ref b)] [jv x, jv y] 782
  rw [q3]
  refine v_lsame ok dL_law_782 ?_
  exact v_if_eq (tgt := 1219) ok (by decide) dL_law_783 (by decide) (fun _ => K M2 hP) (fun h9 => absurd rfl h9)
set_option maxRecDepth 100000 in
set_option maxHeartbeats 800000 in
theorem lc_mean {z : Fz} {g : Gl} {b L : Nat} {xs : Nat → Int32} (ok : Ok z g code 4 RL wsL_law 9 320) (hX : SX z g b L xs) (hL : L ≤ 3072) {i : Int} (h0 : 0 ≤ i) (h6 : i + 6 ≤ L) {M : Mem} (hI : InvF M) (K : ∀ M2 : Mem, InvP M2 → V z g 4 M2 [(3, iv i), (2, rf g 78), (1, rf g 0), (0, .ref b)] [] 1219) : V z g 4 M [(3, iv i), (2, rf g 78), (1, rf g 0), (0, .ref b)] [] 788 := by
  refine v_aload_n ok 2 dL_law_788 rfl rfl ?_
  refine v_aload_n ok 3 dL_law_789 rfl rfl ?_
  refine v_iload_n ok 0 dL_law_790 rfl rfl ?_
  refine v_iconst (n := 1) ok dL_law_791 ?_
  refine v_iadd ok dL_law_792 ?_
  refine v_sld ok hX (by omega) (by omega) hL dL_law_793 ?_
  refine v_callV (na := 1) (i := 0) (C := RX9) (T := TX9) (N := 9) (f0 := (M 0)) ok (ct_X9_mean z.2.1 g M (sx xs (i + 1)) (i32_of _) (hI.1.1.site hI.1.2)) gL_law_X9_mean (kd_lt (show kd 0 = 9 from rfl) (by decide)) rfl rfl (cellF_9 _ rfl) rfl (by decide +kernel) rfl (by decide) [] rfl (Nat.le_of_ble_eq_true rfl) dL_law_794 (fun v1 M1 hp1 => ?_)
  obtain ⟨⟨y, rfl⟩, hk⟩ := kp_mean (inv_m hI) hp1
  have e78 : M1 78 = M 78 := hk 78 (by decide)
  have e79 : M1 79 = M 79 := hk 79 (by decide)
  have e82 : M1 82 = M 82 := hk 82 (by decide)
  have e92 : M1 92 = M 92 := hk 92 (by decide)
  have e93 : M1 93 = M 93 := hk 93 (by decide)
  have e94 : M1 94 = M 94 := hk 94 (by decide)
  show V z g 4 M1 [(3, iv i), (2, rf g 78), (1, rf g 0), (0, .ref b)] [jv y] 797
  refine v_aload_n ok 1 dL_law_797 rfl rfl ?_
  refine v_aload_n ok 3 dL_law_798 rfl rfl ?_
  refine v_iload_n ok 0 dL_law_799 rfl rfl ?_
  refine v_iconst (n := 1) ok dL_law_800 ?_
  refine v_iadd ok dL_law_801 ?_
  refine v_sld ok hX (by omega) (by omega) hL dL_law_802 ?_
  refine v_callV (na := 1) (i := 78) (C := RX10) (T := TX10) (N := 22) (f0 := (M1 78)) ok (ct_X10_mean z.2.1 g M1 (sx xs (i + 1)) (i32_of _) (by rw [e79]; exact hI.1.2)) gL_law_X10_mean (kd_lt (show kd 78 = 10 from rfl) (by decide)) rfl rfl (cellF_10 _ rfl) rfl (by decide +kernel) rfl (by decide) [jv y] rfl (Nat.le_of_ble_eq_true rfl) dL_law_803 (fun v2 M2 hp2 => ?_)
  obtain ⟨x, q1, q2, hP⟩ := pr_mean hI hp1 hp2
  have q3 : (jv y : Value) = jv x := Option.some.inj q1
  rw [q2]
  show V z g 4 M2 [(3, iv i), (2, rf g 78), (1, rf g 0), (0, .ref b)] [jv x, jv y] 806
  rw [q3]
  refine v_lsame ok dL_law_806 ?_
  exact v_if_eq (tgt := 1219) ok (by decide) dL_law_807 (by decide) (fun _ => K M2 hP) (fun h9 => absurd rfl h9)
set_option maxRecDepth 100000 in
set_option maxHeartbeats 800000 in
theorem lc_event {z : Fz} {g : Gl} {b L : Nat} {xs : Nat → Int32} (ok : Ok z g code 4 RL wsL_law 9 320) (hX : SX z g b L xs) (hL : L ≤ 3072) {i : Int} (h0 : 0 ≤ i) (h6 : i + 6 ≤ L) {M : Mem} (hI : InvF M) (K : ∀ M2 : Mem, InvP M2 → V z g 4 M2 [(3, iv i), (2, rf g 78), (1, rf g 0), (0, .ref b)] [] 1219) : V z g 4 M [(3, iv i), (2, rf g 78), (1, rf g 0), (0, .ref b)] [] 812 := by
  refine v_aload_n ok 2 dL_law_812 rfl rfl ?_
  refine v_aload_n ok 3 dL_law_813 rfl rfl ?_
  refine v_iload_n ok 0 dL_law_814 rfl rfl ?_
  refine v_iconst (n := 1) ok dL_law_815 ?_
  refine v_iadd ok dL_law_816 ?_
  refine v_sld ok hX (by omega) (by omega) hL dL_law_817 ?_
  refine v_aload_n ok 3 dL_law_818 rfl rfl ?_
  refine v_iload_n ok 0 dL_law_819 rfl rfl ?_
  refine v_iconst (n := 2) ok dL_law_820 ?_
  refine v_iadd ok dL_law_821 ?_
  refine v_sld ok hX (by omega) (by omega) hL dL_law_822 ?_
  refine v_callV (na := 2) (i := 0) (C := RX9) (T := TX9) (N := 9) (f0 := (M 0)) ok (ct_X9_event z.2.1 g M (sx xs (i + 1)) (sx xs (i + 2)) (i32_of _) (i32_of _) (inv_r15 hI) (inv_m hI)) gL_law_X9_event (kd_lt (show kd 0 = 9 from rfl) (by decide)) rfl rfl (cellF_9 _ rfl) rfl (by decide +kernel) rfl (by decide) [] rfl (Nat.le_of_ble_eq_true rfl) dL_law_823 (fun v1 M1 hp1 => ?_)
  obtain ⟨⟨y, rfl⟩, hk⟩ := kp_event (inv_m hI) hp1
  have e78 : M1 78 = M 78 := hk 78 (by decide)
  have e79 : M1 79 = M 79 := hk 79 (by decide)
  have e82 : M1 82 = M 82 := hk 82 (by decide)
  have e92 : M1 92 = M 92 := hk 92 (by decide)
  have e93 : M1 93 = M 93 := hk 93 (by decide)
  have e94 : M1 94 = M 94 := hk 94 (by decide)
  show V z g 4 M1 [(3, iv i), (2, rf g 78), (1, rf g 0), (0, .ref b)] [iv y] 826
  refine v_aload_n ok 1 dL_law_826 rfl rfl ?_
  refine v_aload_n ok 3 dL_law_827 rfl rfl ?_
  refine v_iload_n ok 0 dL_law_828 rfl rfl ?_
  refine v_iconst (n := 1) ok dL_law_829 ?_
  refine v_iadd ok dL_law_830 ?_
  refine v_sld ok hX (by omega) (by omega) hL dL_law_831 ?_
  refine v_aload_n ok 3 dL_law_832 rfl rfl ?_
  refine v_iload_n ok 0 dL_law_833 rfl rfl ?_
  refine v_iconst (n := 2) ok dL_law_834 ?_
  refine v_iadd ok dL_law_835 ?_
  refine v_sld ok hX (by omega) (by omega) hL dL_law_836 ?_
  refine v_callV (na := 2) (i := 78) (C := RX10) (T := TX10) (N := 22) (f0 := (M1 78)) ok (ct_X10_event z.2.1 g M1 (sx xs (i + 1)) (sx xs (i + 2)) (i32_of _) (i32_of _) (by rw [e79]; exact hI.1.2.2.2.1) (by rw [e79]; exact hI.2.1.2.2.1.1)) gL_law_X10_event (kd_lt (show kd 78 = 10 from rfl) (by decide)) rfl rfl (cellF_10 _ rfl) rfl (by decide +kernel) rfl (by decide) [iv y] rfl (Nat.le_of_ble_eq_true rfl) dL_law_837 (fun v2 M2 hp2 => ?_)
  obtain ⟨x, q1, q2, hP⟩ := pr_event hI hp1 hp2
  have q3 : (iv y : Value) = iv x := Option.some.inj q1
  rw [q2]
  show V z g 4 M2 [(3, iv i), (2, rf g 78), (1, rf g 0), (0, .ref b)] [iv x, iv y] 840
  rw [q3]
  exact v_same ok dL_law_840 (by decide) (K M2 hP)
set_option maxRecDepth 100000 in
set_option maxHeartbeats 800000 in
theorem lc_after {z : Fz} {g : Gl} {b L : Nat} {xs : Nat → Int32} (ok : Ok z g code 4 RL wsL_law 9 320) (hX : SX z g b L xs) (hL : L ≤ 3072) {i : Int} (h0 : 0 ≤ i) (h6 : i + 6 ≤ L) {M : Mem} (hI : InvF M) (K : ∀ M2 : Mem, InvP M2 → V z g 4 M2 [(3, iv i), (2, rf g 78), (1, rf g 0), (0, .ref b)] [] 1219) : V z g 4 M [(3, iv i), (2, rf g 78), (1, rf g 0), (0, .ref b)] [] 845 := by
  refine v_aload_n ok 2 dL_law_845 rfl rfl ?_
  refine v_aload_n ok 3 dL_law_846 rfl rfl ?_
  refine v_iload_n ok 0 dL_law_847 rfl rfl ?_
  refine v_iconst (n := 1) ok dL_law_848 ?_
  refine v_iadd ok dL_law_849 ?_
  refine v_sld ok hX (by omega) (by omega) hL dL_law_850 ?_
  refine v_callV (na := 1) (i := 0) (C := RX9) (T := TX9) (N := 9) (f0 := (M 0)) ok (ct_X9_after z.2.1 g M (sx xs (i + 1)) (i32_of _) (hI.1.1.site hI.1.2) (inv_ev hI)) gL_law_X9_after (kd_lt (show kd 0 = 9 from rfl) (by decide)) rfl rfl (cellF_9 _ rfl) rfl (by decide +kernel) rfl (by decide) [] rfl (Nat.le_of_ble_eq_true rfl) dL_law_851 (fun v1 M1 hp1 => ?_)
  obtain ⟨⟨y, rfl⟩, hk⟩ := kp_after (inv_m hI) hp1
  have e78 : M1 78 = M 78 := hk 78 (by decide)
  have e79 : M1 79 = M 79 := hk 79 (by decide)
  have e82 : M1 82 = M 82 := hk 82 (by decide)
  have e92 : M1 92 = M 92 := hk 92 (by decide)
  have e93 : M1 93 = M 93 := hk 93 (by decide)
  have e94 : M1 94 = M 94 := hk 94 (by decide)
  show V z g 4 M1 [(3, iv i), (2, rf g 78), (1, rf g 0), (0, .ref b)] [iv y] 854
  refine v_aload_n ok 1 dL_law_854 rfl rfl ?_
  refine v_aload_n ok 3 dL_law_855 rfl rfl ?_
  refine v_iload_n ok 0 dL_law_856 rfl rfl ?_
  refine v_iconst (n := 1) ok dL_law_857 ?_
  refine v_iadd ok dL_law_858 ?_
  refine v_sld ok hX (by omega) (by omega) hL dL_law_859 ?_
  refine v_callV (na := 1) (i := 78) (C := RX10) (T := TX10) (N := 22) (f0 := (M1 78)) ok (ct_X10_after z.2.1 g M1 (sx xs (i + 1)) (i32_of _) (by rw [e79]; exact hI.1.2) (by rw [e79]; exact (inv_EvW hI))) gL_law_X10_after (kd_lt (show kd 78 = 10 from rfl) (by decide)) rfl rfl (cellF_10 _ rfl) rfl (by decide +kernel) rfl (by decide) [iv y] rfl (Nat.le_of_ble_eq_true rfl) dL_law_860 (fun v2 M2 hp2 => ?_)
  obtain ⟨x, q1, q2, hP⟩ := pr_after hI hp1 hp2
  have q3 : (iv y : Value) = iv x := Option.some.inj q1
  rw [q2]
  show V z g 4 M2 [(3, iv i), (2, rf g 78), (1, rf g 0), (0, .ref b)] [iv x, iv y] 863
  rw [q3]
  exact v_same ok dL_law_863 (by decide) (K M2 hP)
set_option maxRecDepth 100000 in
set_option maxHeartbeats 800000 in
theorem lc_book {z : Fz} {g : Gl} {b L : Nat} {xs : Nat → Int32} (ok : Ok z g code 4 RL wsL_law 9 320) (hX : SX z g b L xs) (hL : L ≤ 3072) {i : Int} (h0 : 0 ≤ i) (h6 : i + 6 ≤ L) {M : Mem} (hI : InvF M) (K : ∀ M2 : Mem, InvP M2 → V z g 4 M2 [(3, iv i), (2, rf g 78), (1, rf g 0), (0, .ref b)] [] 1219) : V z g 4 M [(3, iv i), (2, rf g 78), (1, rf g 0), (0, .ref b)] [] 868 := by
  refine v_aload_n ok 2 dL_law_868 rfl rfl ?_
  refine v_aload_n ok 3 dL_law_869 rfl rfl ?_
  refine v_iload_n ok 0 dL_law_870 rfl rfl ?_
  refine v_iconst (n := 1) ok dL_law_871 ?_
  refine v_iadd ok dL_law_872 ?_
  refine v_sld ok hX (by omega) (by omega) hL dL_law_873 ?_
  refine v_aload_n ok 3 dL_law_874 rfl rfl ?_
  refine v_iload_n ok 0 dL_law_875 rfl rfl ?_
  refine v_iconst (n := 2) ok dL_law_876 ?_
  refine v_iadd ok dL_law_877 ?_
  refine v_sld ok hX (by omega) (by omega) hL dL_law_878 ?_
  refine v_callV (na := 2) (i := 0) (C := RX9) (T := TX9) (N := 9) (f0 := (M 0)) ok (ct_X9_book z.2.1 g M (sx xs (i + 1)) (sx xs (i + 2)) (i32_of _) (i32_of _) (inv_r18 hI)) gL_law_X9_book (kd_lt (show kd 0 = 9 from rfl) (by decide)) rfl rfl (cellF_9 _ rfl) rfl (by decide +kernel) rfl (by decide) [] rfl (Nat.le_of_ble_eq_true rfl) dL_law_879 (fun v1 M1 hp1 => ?_)
  obtain ⟨⟨y, rfl⟩, hk⟩ := kp_book (inv_m hI) hp1
  have e78 : M1 78 = M 78 := hk 78 (by decide)
  have e79 : M1 79 = M 79 := hk 79 (by decide)
  have e82 : M1 82 = M 82 := hk 82 (by decide)
  have e92 : M1 92 = M 92 := hk 92 (by decide)
  have e93 : M1 93 = M 93 := hk 93 (by decide)
  have e94 : M1 94 = M 94 := hk 94 (by decide)
  show V z g 4 M1 [(3, iv i), (2, rf g 78), (1, rf g 0), (0, .ref b)] [iv y] 882
  refine v_aload_n ok 1 dL_law_882 rfl rfl ?_
  refine v_aload_n ok 3 dL_law_883 rfl rfl ?_
  refine v_iload_n ok 0 dL_law_884 rfl rfl ?_
  refine v_iconst (n := 1) ok dL_law_885 ?_
  refine v_iadd ok dL_law_886 ?_
  refine v_sld ok hX (by omega) (by omega) hL dL_law_887 ?_
  refine v_aload_n ok 3 dL_law_888 rfl rfl ?_
  refine v_iload_n ok 0 dL_law_889 rfl rfl ?_
  refine v_iconst (n := 2) ok dL_law_890 ?_
  refine v_iadd ok dL_law_891 ?_
  refine v_sld ok hX (by omega) (by omega) hL dL_law_892 ?_
  refine v_callV (na := 2) (i := 78) (C := RX10) (T := TX10) (N := 22) (f0 := (M1 78)) ok (ct_X10_book z.2.1 g M1 (sx xs (i + 1)) (sx xs (i + 2)) (i32_of _) (i32_of _) (by rw [e79]; exact hI.2.1.2.2.2.1)) gL_law_X10_book (kd_lt (show kd 78 = 10 from rfl) (by decide)) rfl rfl (cellF_10 _ rfl) rfl (by decide +kernel) rfl (by decide) [iv y] rfl (Nat.le_of_ble_eq_true rfl) dL_law_893 (fun v2 M2 hp2 => ?_)
  obtain ⟨x, q1, q2, hP⟩ := pr_book hI hp1 hp2
  have q3 : (iv y : Value) = iv x := Option.some.inj q1
  rw [q2]
  show V z g 4 M2 [(3, iv i), (2, rf g 78), (1, rf g 0), (0, .ref b)] [iv x, iv y] 896
  rw [q3]
  exact v_same ok dL_law_896 (by decide) (K M2 hP)
set_option maxRecDepth 100000 in
set_option maxHeartbeats 800000 in
theorem lc_looked {z : Fz} {g : Gl} {b L : Nat} {xs : Nat → Int32} (ok : Ok z g code 4 RL wsL_law 9 320) (hX : SX z g b L xs) (hL : L ≤ 3072) {i : Int} (h0 : 0 ≤ i) (h6 : i + 6 ≤ L) {M : Mem} (hI : InvF M) (K : ∀ M2 : Mem, InvP M2 → V z g 4 M2 [(3, iv i), (2, rf g 78), (1, rf g 0), (0, .ref b)] [] 1219) : V z g 4 M [(3, iv i), (2, rf g 78), (1, rf g 0), (0, .ref b)] [] 901 := by
  refine v_aload_n ok 2 dL_law_901 rfl rfl ?_
  refine v_callV (na := 0) (i := 0) (C := RX9) (T := TX9) (N := 9) (f0 := (M 0)) ok (ct_X9_looked z.2.1 g M  (hI.1.1.site hI.1.2) (inv_row18 hI)) gL_law_X9_looked (kd_lt (show kd 0 = 9 from rfl) (by decide)) rfl rfl (cellF_9 _ rfl) rfl (by decide +kernel) rfl (by decide) [] rfl (Nat.le_of_ble_eq_true rfl) dL_law_902 (fun v1 M1 hp1 => ?_)
  obtain ⟨⟨y, rfl⟩, hk⟩ := kp_looked (inv_m hI) hp1
  have e78 : M1 78 = M 78 := hk 78 (by decide)
  have e79 : M1 79 = M 79 := hk 79 (by decide)
  have e82 : M1 82 = M 82 := hk 82 (by decide)
  have e92 : M1 92 = M 92 := hk 92 (by decide)
  have e93 : M1 93 = M 93 := hk 93 (by decide)
  have e94 : M1 94 = M 94 := hk 94 (by decide)
  show V z g 4 M1 [(3, iv i), (2, rf g 78), (1, rf g 0), (0, .ref b)] [iv y] 905
  refine v_aload_n ok 1 dL_law_905 rfl rfl ?_
  refine v_callV (na := 0) (i := 78) (C := RX10) (T := TX10) (N := 22) (f0 := (M1 78)) ok (ct_X10_looked z.2.1 g M1  (by rw [e79]; exact hI.1.2) (by rw [e79]; exact hI.2.1.2.2.2.1) (by rw [e79]; exact hI.2.1.2.2.2.2.1) (by rw [e79]; exact hI.2.1.2.2.2.2.2)) gL_law_X10_looked (kd_lt (show kd 78 = 10 from rfl) (by decide)) rfl rfl (cellF_10 _ rfl) rfl (by decide +kernel) rfl (by decide) [iv y] rfl (Nat.le_of_ble_eq_true rfl) dL_law_906 (fun v2 M2 hp2 => ?_)
  obtain ⟨x, q1, q2, hP⟩ := pr_looked hI hp1 hp2
  have q3 : (iv y : Value) = iv x := Option.some.inj q1
  rw [q2]
  show V z g 4 M2 [(3, iv i), (2, rf g 78), (1, rf g 0), (0, .ref b)] [iv x, iv y] 909
  rw [q3]
  exact v_same ok dL_law_909 (by decide) (K M2 hP)
set_option maxRecDepth 100000 in
set_option maxHeartbeats 800000 in
theorem lc_judge {z : Fz} {g : Gl} {b L : Nat} {xs : Nat → Int32} (ok : Ok z g code 4 RL wsL_law 9 320) (hX : SX z g b L xs) (hL : L ≤ 3072) {i : Int} (h0 : 0 ≤ i) (h6 : i + 6 ≤ L) {M : Mem} (hI : InvF M) (K : ∀ M2 : Mem, InvP M2 → V z g 4 M2 [(3, iv i), (2, rf g 78), (1, rf g 0), (0, .ref b)] [] 1219) : V z g 4 M [(3, iv i), (2, rf g 78), (1, rf g 0), (0, .ref b)] [] 914 := by
  refine v_aload_n ok 2 dL_law_914 rfl rfl ?_
  refine v_aload_n ok 3 dL_law_915 rfl rfl ?_
  refine v_iload_n ok 0 dL_law_916 rfl rfl ?_
  refine v_iconst (n := 1) ok dL_law_917 ?_
  refine v_iadd ok dL_law_918 ?_
  refine v_sld ok hX (by omega) (by omega) hL dL_law_919 ?_
  refine v_aload_n ok 3 dL_law_920 rfl rfl ?_
  refine v_iload_n ok 0 dL_law_921 rfl rfl ?_
  refine v_iconst (n := 2) ok dL_law_922 ?_
  refine v_iadd ok dL_law_923 ?_
  refine v_sld ok hX (by omega) (by omega) hL dL_law_924 ?_
  refine v_aload_n ok 3 dL_law_925 rfl rfl ?_
  refine v_iload_n ok 0 dL_law_926 rfl rfl ?_
  refine v_iconst (n := 3) ok dL_law_927 ?_
  refine v_iadd ok dL_law_928 ?_
  refine v_sld ok hX (by omega) (by omega) hL dL_law_929 ?_
  refine v_callV (na := 3) (i := 0) (C := RX9) (T := TX9) (N := 9) (f0 := (M 0)) ok (ct_X9_judge z.2.1 g M (sx xs (i + 1)) (sx xs (i + 2)) (sx xs (i + 3)) (i32_of _) (i32_of _) (i32_of _) (hI.1.1.site hI.1.2) (inv_tps hI)) gL_law_X9_judge (kd_lt (show kd 0 = 9 from rfl) (by decide)) rfl rfl (cellF_9 _ rfl) rfl (by decide +kernel) rfl (by decide) [] rfl (Nat.le_of_ble_eq_true rfl) dL_law_930 (fun v1 M1 hp1 => ?_)
  obtain ⟨⟨y, rfl⟩, hk⟩ := kp_judge (inv_m hI) hp1
  have e78 : M1 78 = M 78 := hk 78 (by decide)
  have e79 : M1 79 = M 79 := hk 79 (by decide)
  have e82 : M1 82 = M 82 := hk 82 (by decide)
  have e92 : M1 92 = M 92 := hk 92 (by decide)
  have e93 : M1 93 = M 93 := hk 93 (by decide)
  have e94 : M1 94 = M 94 := hk 94 (by decide)
  show V z g 4 M1 [(3, iv i), (2, rf g 78), (1, rf g 0), (0, .ref b)] [iv y] 933
  refine v_aload_n ok 1 dL_law_933 rfl rfl ?_
  refine v_aload_n ok 3 dL_law_934 rfl rfl ?_
  refine v_iload_n ok 0 dL_law_935 rfl rfl ?_
  refine v_iconst (n := 1) ok dL_law_936 ?_
  refine v_iadd ok dL_law_937 ?_
  refine v_sld ok hX (by omega) (by omega) hL dL_law_938 ?_
  refine v_aload_n ok 3 dL_law_939 rfl rfl ?_
  refine v_iload_n ok 0 dL_law_940 rfl rfl ?_
  refine v_iconst (n := 2) ok dL_law_941 ?_
  refine v_iadd ok dL_law_942 ?_
  refine v_sld ok hX (by omega) (by omega) hL dL_law_943 ?_
  refine v_aload_n ok 3 dL_law_944 rfl rfl ?_
  refine v_iload_n ok 0 dL_law_945 rfl rfl ?_
  refine v_iconst (n := 3) ok dL_law_946 ?_
  refine v_iadd ok dL_law_947 ?_
  refine v_sld ok hX (by omega) (by omega) hL dL_law_948 ?_
  refine v_callV (na := 3) (i := 78) (C := RX10) (T := TX10) (N := 22) (f0 := (M1 78)) ok (ct_X10_judge z.2.1 g M1 (sx xs (i + 1)) (sx xs (i + 2)) (sx xs (i + 3)) (i32_of _) (i32_of _) (i32_of _) (by rw [e79]; exact hI.1.2) (by rw [e92, e93, e94]; exact hI.2.2.2.2.2.2.2.1)) gL_law_X10_judge (kd_lt (show kd 78 = 10 from rfl) (by decide)) rfl rfl (cellF_10 _ rfl) rfl (by decide +kernel) rfl (by decide) [iv y] rfl (Nat.le_of_ble_eq_true rfl) dL_law_949 (fun v2 M2 hp2 => ?_)
  obtain ⟨x, q1, q2, hP⟩ := pr_judge hI hp1 hp2
  have q3 : (iv y : Value) = iv x := Option.some.inj q1
  rw [q2]
  show V z g 4 M2 [(3, iv i), (2, rf g 78), (1, rf g 0), (0, .ref b)] [iv x, iv y] 952
  rw [q3]
  exact v_same ok dL_law_952 (by decide) (K M2 hP)
set_option maxRecDepth 100000 in
set_option maxHeartbeats 800000 in
theorem lc_image {z : Fz} {g : Gl} {b L : Nat} {xs : Nat → Int32} (ok : Ok z g code 4 RL wsL_law 9 320) (hX : SX z g b L xs) (hL : L ≤ 3072) {i : Int} (h0 : 0 ≤ i) (h6 : i + 6 ≤ L) {M : Mem} (hI : InvF M) (K : ∀ M2 : Mem, InvP M2 → V z g 4 M2 [(3, iv i), (2, rf g 78), (1, rf g 0), (0, .ref b)] [] 1219) : V z g 4 M [(3, iv i), (2, rf g 78), (1, rf g 0), (0, .ref b)] [] 957 := by
  refine v_aload_n ok 2 dL_law_957 rfl rfl ?_
  refine v_callV (na := 0) (i := 0) (C := RX9) (T := TX9) (N := 9) (f0 := (M 0)) ok (ct_X9_image z.2.1 g M  ) gL_law_X9_image (kd_lt (show kd 0 = 9 from rfl) (by decide)) rfl rfl (cellF_9 _ rfl) rfl (by decide +kernel) rfl (by decide) [] rfl (Nat.le_of_ble_eq_true rfl) dL_law_958 (fun v1 M1 hp1 => ?_)
  obtain ⟨⟨y, rfl⟩, hk⟩ := kp_image (inv_m hI) hp1
  have e78 : M1 78 = M 78 := hk 78 (by decide)
  have e79 : M1 79 = M 79 := hk 79 (by decide)
  have e82 : M1 82 = M 82 := hk 82 (by decide)
  have e92 : M1 92 = M 92 := hk 92 (by decide)
  have e93 : M1 93 = M 93 := hk 93 (by decide)
  have e94 : M1 94 = M 94 := hk 94 (by decide)
  show V z g 4 M1 [(3, iv i), (2, rf g 78), (1, rf g 0), (0, .ref b)] [iv y] 961
  refine v_aload_n ok 1 dL_law_961 rfl rfl ?_
  refine v_callV (na := 0) (i := 78) (C := RX10) (T := TX10) (N := 22) (f0 := (M1 78)) ok (ct_X10_image z.2.1 g M1  ) gL_law_X10_image (kd_lt (show kd 78 = 10 from rfl) (by decide)) rfl rfl (cellF_10 _ rfl) rfl (by decide +kernel) rfl (by decide) [iv y] rfl (Nat.le_of_ble_eq_true rfl) dL_law_962 (fun v2 M2 hp2 => ?_)
  obtain ⟨x, q1, q2, hP⟩ := pr_image hI hp1 hp2
  have q3 : (iv y : Value) = iv x := Option.some.inj q1
  rw [q2]
  show V z g 4 M2 [(3, iv i), (2, rf g 78), (1, rf g 0), (0, .ref b)] [iv x, iv y] 965
  rw [q3]
  exact v_same ok dL_law_965 (by decide) (K M2 hP)
set_option maxRecDepth 100000 in
set_option maxHeartbeats 800000 in
theorem lc_undo {z : Fz} {g : Gl} {b L : Nat} {xs : Nat → Int32} (ok : Ok z g code 4 RL wsL_law 9 320) (hX : SX z g b L xs) (hL : L ≤ 3072) {i : Int} (h0 : 0 ≤ i) (h6 : i + 6 ≤ L) {M : Mem} (hI : InvF M) (K : ∀ M2 : Mem, InvP M2 → V z g 4 M2 [(3, iv i), (2, rf g 78), (1, rf g 0), (0, .ref b)] [] 1219) : V z g 4 M [(3, iv i), (2, rf g 78), (1, rf g 0), (0, .ref b)] [] 970 := by
  refine v_aload_n ok 2 dL_law_970 rfl rfl ?_
  refine v_callV (na := 0) (i := 0) (C := RX9) (T := TX9) (N := 9) (f0 := (M 0)) ok (ct_X9_undo z.2.1 g M  (inv_k hI)) gL_law_X9_undo (kd_lt (show kd 0 = 9 from rfl) (by decide)) rfl rfl (cellF_9 _ rfl) rfl (by decide +kernel) rfl (by decide) [] rfl (Nat.le_of_ble_eq_true rfl) dL_law_971 (fun v1 M1 hp1 => ?_)
  obtain ⟨⟨y, rfl⟩, hk⟩ := kp_undo (inv_m hI) hp1
  have e78 : M1 78 = M 78 := hk 78 (by decide)
  have e79 : M1 79 = M 79 := hk 79 (by decide)
  have e82 : M1 82 = M 82 := hk 82 (by decide)
  have e92 : M1 92 = M 92 := hk 92 (by decide)
  have e93 : M1 93 = M 93 := hk 93 (by decide)
  have e94 : M1 94 = M 94 := hk 94 (by decide)
  show V z g 4 M1 [(3, iv i), (2, rf g 78), (1, rf g 0), (0, .ref b)] [iv y] 974
  refine v_aload_n ok 1 dL_law_974 rfl rfl ?_
  refine v_callV (na := 0) (i := 78) (C := RX10) (T := TX10) (N := 22) (f0 := (M1 78)) ok (ct_X10_undo z.2.1 g M1  (by rw [e78]; exact hI.2.2.2.2.1.2)) gL_law_X10_undo (kd_lt (show kd 78 = 10 from rfl) (by decide)) rfl rfl (cellF_10 _ rfl) rfl (by decide +kernel) rfl (by decide) [iv y] rfl (Nat.le_of_ble_eq_true rfl) dL_law_975 (fun v2 M2 hp2 => ?_)
  obtain ⟨x, q1, q2, hP⟩ := pr_undo hI hp1 hp2
  have q3 : (iv y : Value) = iv x := Option.some.inj q1
  rw [q2]
  show V z g 4 M2 [(3, iv i), (2, rf g 78), (1, rf g 0), (0, .ref b)] [iv x, iv y] 978
  rw [q3]
  exact v_same ok dL_law_978 (by decide) (K M2 hP)
set_option maxRecDepth 100000 in
set_option maxHeartbeats 800000 in
theorem lc_count {z : Fz} {g : Gl} {b L : Nat} {xs : Nat → Int32} (ok : Ok z g code 4 RL wsL_law 9 320) (hX : SX z g b L xs) (hL : L ≤ 3072) {i : Int} (h0 : 0 ≤ i) (h6 : i + 6 ≤ L) {M : Mem} (hI : InvF M) (K : ∀ M2 : Mem, InvP M2 → V z g 4 M2 [(3, iv i), (2, rf g 78), (1, rf g 0), (0, .ref b)] [] 1219) : V z g 4 M [(3, iv i), (2, rf g 78), (1, rf g 0), (0, .ref b)] [] 983 := by
  refine v_aload_n ok 2 dL_law_983 rfl rfl ?_
  refine v_aload_n ok 3 dL_law_984 rfl rfl ?_
  refine v_iload_n ok 0 dL_law_985 rfl rfl ?_
  refine v_iconst (n := 1) ok dL_law_986 ?_
  refine v_iadd ok dL_law_987 ?_
  refine v_sld ok hX (by omega) (by omega) hL dL_law_988 ?_
  refine v_callV (na := 1) (i := 0) (C := RX9) (T := TX9) (N := 9) (f0 := (M 0)) ok (ct_X9_count z.2.1 g M (sx xs (i + 1)) (i32_of _)) gL_law_X9_count (kd_lt (show kd 0 = 9 from rfl) (by decide)) rfl rfl (cellF_9 _ rfl) rfl (by decide +kernel) rfl (by decide) [] rfl (Nat.le_of_ble_eq_true rfl) dL_law_989 (fun v1 M1 hp1 => ?_)
  obtain ⟨⟨y, rfl⟩, hk⟩ := kp_count (inv_m hI) hp1
  have e78 : M1 78 = M 78 := hk 78 (by decide)
  have e79 : M1 79 = M 79 := hk 79 (by decide)
  have e82 : M1 82 = M 82 := hk 82 (by decide)
  have e92 : M1 92 = M 92 := hk 92 (by decide)
  have e93 : M1 93 = M 93 := hk 93 (by decide)
  have e94 : M1 94 = M 94 := hk 94 (by decide)
  show V z g 4 M1 [(3, iv i), (2, rf g 78), (1, rf g 0), (0, .ref b)] [iv y] 992
  refine v_aload_n ok 1 dL_law_992 rfl rfl ?_
  refine v_aload_n ok 3 dL_law_993 rfl rfl ?_
  refine v_iload_n ok 0 dL_law_994 rfl rfl ?_
  refine v_iconst (n := 1) ok dL_law_995 ?_
  refine v_iadd ok dL_law_996 ?_
  refine v_sld ok hX (by omega) (by omega) hL dL_law_997 ?_
  refine v_callV (na := 1) (i := 78) (C := RX10) (T := TX10) (N := 22) (f0 := (M1 78)) ok (ct_X10_count z.2.1 g M1 (sx xs (i + 1)) (i32_of _)) gL_law_X10_count (kd_lt (show kd 78 = 10 from rfl) (by decide)) rfl rfl (cellF_10 _ rfl) rfl (by decide +kernel) rfl (by decide) [iv y] rfl (Nat.le_of_ble_eq_true rfl) dL_law_998 (fun v2 M2 hp2 => ?_)
  obtain ⟨x, q1, q2, hP⟩ := pr_count hI hp1 hp2
  have q3 : (iv y : Value) = iv x := Option.some.inj q1
  rw [q2]
  show V z g 4 M2 [(3, iv i), (2, rf g 78), (1, rf g 0), (0, .ref b)] [iv x, iv y] 1001
  rw [q3]
  exact v_same ok dL_law_1001 (by decide) (K M2 hP)
set_option maxRecDepth 100000 in
set_option maxHeartbeats 800000 in
theorem lc_tape {z : Fz} {g : Gl} {b L : Nat} {xs : Nat → Int32} (ok : Ok z g code 4 RL wsL_law 9 320) (hX : SX z g b L xs) (hL : L ≤ 3072) {i : Int} (h0 : 0 ≤ i) (h6 : i + 6 ≤ L) {M : Mem} (hI : InvF M) (K : ∀ M2 : Mem, InvP M2 → V z g 4 M2 [(3, iv i), (2, rf g 78), (1, rf g 0), (0, .ref b)] [] 1219) : V z g 4 M [(3, iv i), (2, rf g 78), (1, rf g 0), (0, .ref b)] [] 1006 := by
  refine v_aload_n ok 2 dL_law_1006 rfl rfl ?_
  refine v_aload_n ok 3 dL_law_1007 rfl rfl ?_
  refine v_iload_n ok 0 dL_law_1008 rfl rfl ?_
  refine v_iconst (n := 1) ok dL_law_1009 ?_
  refine v_iadd ok dL_law_1010 ?_
  refine v_sld ok hX (by omega) (by omega) hL dL_law_1011 ?_
  refine v_aload_n ok 3 dL_law_1012 rfl rfl ?_
  refine v_iload_n ok 0 dL_law_1013 rfl rfl ?_
  refine v_iconst (n := 2) ok dL_law_1014 ?_
  refine v_iadd ok dL_law_1015 ?_
  refine v_sld ok hX (by omega) (by omega) hL dL_law_1016 ?_
  refine v_aload_n ok 3 dL_law_1017 rfl rfl ?_
  refine v_iload_n ok 0 dL_law_1018 rfl rfl ?_
  refine v_iconst (n := 3) ok dL_law_1019 ?_
  refine v_iadd ok dL_law_1020 ?_
  refine v_sld ok hX (by omega) (by omega) hL dL_law_1021 ?_
  refine v_callV (na := 3) (i := 0) (C := RX9) (T := TX9) (N := 9) (f0 := (M 0)) ok (ct_X9_tape z.2.1 g M (sx xs (i + 1)) (sx xs (i + 2)) (sx xs (i + 3)) (i32_of _) (i32_of _) (i32_of _)) gL_law_X9_tape (kd_lt (show kd 0 = 9 from rfl) (by decide)) rfl rfl (cellF_9 _ rfl) rfl (by decide +kernel) rfl (by decide) [] rfl (Nat.le_of_ble_eq_true rfl) dL_law_1022 (fun v1 M1 hp1 => ?_)
  obtain ⟨⟨y, rfl⟩, hk⟩ := kp_tape (inv_m hI) hp1
  have e78 : M1 78 = M 78 := hk 78 (by decide)
  have e79 : M1 79 = M 79 := hk 79 (by decide)
  have e82 : M1 82 = M 82 := hk 82 (by decide)
  have e92 : M1 92 = M 92 := hk 92 (by decide)
  have e93 : M1 93 = M 93 := hk 93 (by decide)
  have e94 : M1 94 = M 94 := hk 94 (by decide)
  show V z g 4 M1 [(3, iv i), (2, rf g 78), (1, rf g 0), (0, .ref b)] [iv y] 1025
  refine v_aload_n ok 1 dL_law_1025 rfl rfl ?_
  refine v_aload_n ok 3 dL_law_1026 rfl rfl ?_
  refine v_iload_n ok 0 dL_law_1027 rfl rfl ?_
  refine v_iconst (n := 1) ok dL_law_1028 ?_
  refine v_iadd ok dL_law_1029 ?_
  refine v_sld ok hX (by omega) (by omega) hL dL_law_1030 ?_
  refine v_aload_n ok 3 dL_law_1031 rfl rfl ?_
  refine v_iload_n ok 0 dL_law_1032 rfl rfl ?_
  refine v_iconst (n := 2) ok dL_law_1033 ?_
  refine v_iadd ok dL_law_1034 ?_
  refine v_sld ok hX (by omega) (by omega) hL dL_law_1035 ?_
  refine v_aload_n ok 3 dL_law_1036 rfl rfl ?_
  refine v_iload_n ok 0 dL_law_1037 rfl rfl ?_
  refine v_iconst (n := 3) ok dL_law_1038 ?_
  refine v_iadd ok dL_law_1039 ?_
  refine v_sld ok hX (by omega) (by omega) hL dL_law_1040 ?_
  refine v_callV (na := 3) (i := 78) (C := RX10) (T := TX10) (N := 22) (f0 := (M1 78)) ok (ct_X10_tape z.2.1 g M1 (sx xs (i + 1)) (sx xs (i + 2)) (sx xs (i + 3)) (i32_of _) (i32_of _) (i32_of _)) gL_law_X10_tape (kd_lt (show kd 78 = 10 from rfl) (by decide)) rfl rfl (cellF_10 _ rfl) rfl (by decide +kernel) rfl (by decide) [iv y] rfl (Nat.le_of_ble_eq_true rfl) dL_law_1041 (fun v2 M2 hp2 => ?_)
  obtain ⟨x, q1, q2, hP⟩ := pr_tape hI hp1 hp2
  have q3 : (iv y : Value) = iv x := Option.some.inj q1
  rw [q2]
  show V z g 4 M2 [(3, iv i), (2, rf g 78), (1, rf g 0), (0, .ref b)] [iv x, iv y] 1044
  rw [q3]
  exact v_same ok dL_law_1044 (by decide) (K M2 hP)
set_option maxRecDepth 100000 in
set_option maxHeartbeats 800000 in
theorem lc_item {z : Fz} {g : Gl} {b L : Nat} {xs : Nat → Int32} (ok : Ok z g code 4 RL wsL_law 9 320) (hX : SX z g b L xs) (hL : L ≤ 3072) {i : Int} (h0 : 0 ≤ i) (h6 : i + 6 ≤ L) {M : Mem} (hI : InvF M) (K : ∀ M2 : Mem, InvP M2 → V z g 4 M2 [(3, iv i), (2, rf g 78), (1, rf g 0), (0, .ref b)] [] 1219) : V z g 4 M [(3, iv i), (2, rf g 78), (1, rf g 0), (0, .ref b)] [] 1049 := by
  refine v_aload_n ok 2 dL_law_1049 rfl rfl ?_
  refine v_aload_n ok 3 dL_law_1050 rfl rfl ?_
  refine v_iload_n ok 0 dL_law_1051 rfl rfl ?_
  refine v_iconst (n := 1) ok dL_law_1052 ?_
  refine v_iadd ok dL_law_1053 ?_
  refine v_sld ok hX (by omega) (by omega) hL dL_law_1054 ?_
  refine v_aload_n ok 3 dL_law_1055 rfl rfl ?_
  refine v_iload_n ok 0 dL_law_1056 rfl rfl ?_
  refine v_iconst (n := 2) ok dL_law_1057 ?_
  refine v_iadd ok dL_law_1058 ?_
  refine v_sld ok hX (by omega) (by omega) hL dL_law_1059 ?_
  refine v_aload_n ok 3 dL_law_1060 rfl rfl ?_
  refine v_iload_n ok 0 dL_law_1061 rfl rfl ?_
  refine v_iconst (n := 3) ok dL_law_1062 ?_
  refine v_iadd ok dL_law_1063 ?_
  refine v_sld ok hX (by omega) (by omega) hL dL_law_1064 ?_
  refine v_i2l ok (i32_of _) dL_law_1065 ?_
  refine v_bipush (n := 32) ok rfl dL_law_1066 ?_
  refine v_shx ok dL_law_1068 ?_
  refine v_aload_n ok 3 dL_law_1069 rfl rfl ?_
  refine v_iload_n ok 0 dL_law_1070 rfl rfl ?_
  refine v_iconst (n := 4) ok dL_law_1071 ?_
  refine v_iadd ok dL_law_1072 ?_
  refine v_sld ok hX (by omega) (by omega) hL dL_law_1073 ?_
  refine v_i2l ok (i32_of _) dL_law_1074 ?_
  refine v_ldc2 (n := 4294967295) ok (x := 4294967295) (by decide +kernel) rfl dL_law_1075 ?_
  refine v_anx ok dL_law_1078 ?_
  refine v_orx ok dL_law_1079 ?_
  refine v_callV (na := 3) (i := 0) (C := RX9) (T := TX9) (N := 9) (f0 := (M 0)) ok (ct_X9_item z.2.1 g M (sx xs (i + 1)) (sx xs (i + 2)) (orx (shx (sx xs (i + 3))) (anx (sx xs (i + 4)) 4294967295)) (i32_of _) (i32_of _) (i64_of _) (inv_tps hI)) gL_law_X9_item (kd_lt (show kd 0 = 9 from rfl) (by decide)) rfl rfl (cellF_9 _ rfl) rfl (by decide +kernel) rfl (by decide) [] rfl (Nat.le_of_ble_eq_true rfl) dL_law_1080 (fun v1 M1 hp1 => ?_)
  obtain ⟨⟨y, rfl⟩, hk⟩ := kp_item (inv_m hI) hp1
  have e78 : M1 78 = M 78 := hk 78 (by decide)
  have e79 : M1 79 = M 79 := hk 79 (by decide)
  have e82 : M1 82 = M 82 := hk 82 (by decide)
  have e92 : M1 92 = M 92 := hk 92 (by decide)
  have e93 : M1 93 = M 93 := hk 93 (by decide)
  have e94 : M1 94 = M 94 := hk 94 (by decide)
  show V z g 4 M1 [(3, iv i), (2, rf g 78), (1, rf g 0), (0, .ref b)] [iv y] 1083
  refine v_aload_n ok 1 dL_law_1083 rfl rfl ?_
  refine v_aload_n ok 3 dL_law_1084 rfl rfl ?_
  refine v_iload_n ok 0 dL_law_1085 rfl rfl ?_
  refine v_iconst (n := 1) ok dL_law_1086 ?_
  refine v_iadd ok dL_law_1087 ?_
  refine v_sld ok hX (by omega) (by omega) hL dL_law_1088 ?_
  refine v_aload_n ok 3 dL_law_1089 rfl rfl ?_
  refine v_iload_n ok 0 dL_law_1090 rfl rfl ?_
  refine v_iconst (n := 2) ok dL_law_1091 ?_
  refine v_iadd ok dL_law_1092 ?_
  refine v_sld ok hX (by omega) (by omega) hL dL_law_1093 ?_
  refine v_aload_n ok 3 dL_law_1094 rfl rfl ?_
  refine v_iload_n ok 0 dL_law_1095 rfl rfl ?_
  refine v_iconst (n := 3) ok dL_law_1096 ?_
  refine v_iadd ok dL_law_1097 ?_
  refine v_sld ok hX (by omega) (by omega) hL dL_law_1098 ?_
  refine v_i2l ok (i32_of _) dL_law_1099 ?_
  refine v_bipush (n := 32) ok rfl dL_law_1100 ?_
  refine v_shx ok dL_law_1102 ?_
  refine v_aload_n ok 3 dL_law_1103 rfl rfl ?_
  refine v_iload_n ok 0 dL_law_1104 rfl rfl ?_
  refine v_iconst (n := 4) ok dL_law_1105 ?_
  refine v_iadd ok dL_law_1106 ?_
  refine v_sld ok hX (by omega) (by omega) hL dL_law_1107 ?_
  refine v_i2l ok (i32_of _) dL_law_1108 ?_
  refine v_ldc2 (n := 4294967295) ok (x := 4294967295) (by decide +kernel) rfl dL_law_1109 ?_
  refine v_anx ok dL_law_1112 ?_
  refine v_orx ok dL_law_1113 ?_
  refine v_callV (na := 3) (i := 78) (C := RX10) (T := TX10) (N := 22) (f0 := (M1 78)) ok (ct_X10_item z.2.1 g M1 (sx xs (i + 1)) (sx xs (i + 2)) (orx (shx (sx xs (i + 3))) (anx (sx xs (i + 4)) 4294967295)) (i32_of _) (i32_of _) (i64_of _) (by rw [e92, e93, e94]; exact hI.2.2.2.2.2.2.2.1)) gL_law_X10_item (kd_lt (show kd 78 = 10 from rfl) (by decide)) rfl rfl (cellF_10 _ rfl) rfl (by decide +kernel) rfl (by decide) [iv y] rfl (Nat.le_of_ble_eq_true rfl) dL_law_1114 (fun v2 M2 hp2 => ?_)
  obtain ⟨x, q1, q2, hP⟩ := pr_item hI (i64_of _) hp1 hp2
  have q3 : (iv y : Value) = iv x := Option.some.inj q1
  rw [q2]
  show V z g 4 M2 [(3, iv i), (2, rf g 78), (1, rf g 0), (0, .ref b)] [iv x, iv y] 1117
  rw [q3]
  exact v_same ok dL_law_1117 (by decide) (K M2 hP)
set_option maxRecDepth 100000 in
set_option maxHeartbeats 800000 in
theorem lc_peek {z : Fz} {g : Gl} {b L : Nat} {xs : Nat → Int32} (ok : Ok z g code 4 RL wsL_law 9 320) (hX : SX z g b L xs) (hL : L ≤ 3072) {i : Int} (h0 : 0 ≤ i) (h6 : i + 6 ≤ L) {M : Mem} (hI : InvF M) (K : ∀ M2 : Mem, InvP M2 → V z g 4 M2 [(3, iv i), (2, rf g 78), (1, rf g 0), (0, .ref b)] [] 1219) : V z g 4 M [(3, iv i), (2, rf g 78), (1, rf g 0), (0, .ref b)] [] 1122 := by
  refine v_aload_n ok 2 dL_law_1122 rfl rfl ?_
  refine v_aload_n ok 3 dL_law_1123 rfl rfl ?_
  refine v_iload_n ok 0 dL_law_1124 rfl rfl ?_
  refine v_iconst (n := 1) ok dL_law_1125 ?_
  refine v_iadd ok dL_law_1126 ?_
  refine v_sld ok hX (by omega) (by omega) hL dL_law_1127 ?_
  refine v_aload_n ok 3 dL_law_1128 rfl rfl ?_
  refine v_iload_n ok 0 dL_law_1129 rfl rfl ?_
  refine v_iconst (n := 2) ok dL_law_1130 ?_
  refine v_iadd ok dL_law_1131 ?_
  refine v_sld ok hX (by omega) (by omega) hL dL_law_1132 ?_
  refine v_callV (na := 2) (i := 0) (C := RX9) (T := TX9) (N := 9) (f0 := (M 0)) ok (ct_X9_peek z.2.1 g M (sx xs (i + 1)) (sx xs (i + 2)) (i32_of _) (i32_of _) (inv_tps hI)) gL_law_X9_peek (kd_lt (show kd 0 = 9 from rfl) (by decide)) rfl rfl (cellF_9 _ rfl) rfl (by decide +kernel) rfl (by decide) [] rfl (Nat.le_of_ble_eq_true rfl) dL_law_1133 (fun v1 M1 hp1 => ?_)
  obtain ⟨⟨y, rfl⟩, hk⟩ := kp_peek (inv_m hI) hp1
  have e78 : M1 78 = M 78 := hk 78 (by decide)
  have e79 : M1 79 = M 79 := hk 79 (by decide)
  have e82 : M1 82 = M 82 := hk 82 (by decide)
  have e92 : M1 92 = M 92 := hk 92 (by decide)
  have e93 : M1 93 = M 93 := hk 93 (by decide)
  have e94 : M1 94 = M 94 := hk 94 (by decide)
  show V z g 4 M1 [(3, iv i), (2, rf g 78), (1, rf g 0), (0, .ref b)] [jv y] 1136
  refine v_aload_n ok 1 dL_law_1136 rfl rfl ?_
  refine v_aload_n ok 3 dL_law_1137 rfl rfl ?_
  refine v_iload_n ok 0 dL_law_1138 rfl rfl ?_
  refine v_iconst (n := 1) ok dL_law_1139 ?_
  refine v_iadd ok dL_law_1140 ?_
  refine v_sld ok hX (by omega) (by omega) hL dL_law_1141 ?_
  refine v_aload_n ok 3 dL_law_1142 rfl rfl ?_
  refine v_iload_n ok 0 dL_law_1143 rfl rfl ?_
  refine v_iconst (n := 2) ok dL_law_1144 ?_
  refine v_iadd ok dL_law_1145 ?_
  refine v_sld ok hX (by omega) (by omega) hL dL_law_1146 ?_
  refine v_callV (na := 2) (i := 78) (C := RX10) (T := TX10) (N := 22) (f0 := (M1 78)) ok (ct_X10_peek z.2.1 g M1 (sx xs (i + 1)) (sx xs (i + 2)) (i32_of _) (i32_of _) (by rw [e92, e93, e94]; exact hI.2.2.2.2.2.2.2.1)) gL_law_X10_peek (kd_lt (show kd 78 = 10 from rfl) (by decide)) rfl rfl (cellF_10 _ rfl) rfl (by decide +kernel) rfl (by decide) [jv y] rfl (Nat.le_of_ble_eq_true rfl) dL_law_1147 (fun v2 M2 hp2 => ?_)
  obtain ⟨x, q1, q2, hP⟩ := pr_peek hI hp1 hp2
  have q3 : (jv y : Value) = jv x := Option.some.inj q1
  rw [q2]
  show V z g 4 M2 [(3, iv i), (2, rf g 78), (1, rf g 0), (0, .ref b)] [jv x, jv y] 1150
  rw [q3]
  refine v_lsame ok dL_law_1150 ?_
  exact v_if_eq (tgt := 1219) ok (by decide) dL_law_1151 (by decide) (fun _ => K M2 hP) (fun h9 => absurd rfl h9)
set_option maxRecDepth 100000 in
set_option maxHeartbeats 800000 in
theorem lc_shift {z : Fz} {g : Gl} {b L : Nat} {xs : Nat → Int32} (ok : Ok z g code 4 RL wsL_law 9 320) (hX : SX z g b L xs) (hL : L ≤ 3072) {i : Int} (h0 : 0 ≤ i) (h6 : i + 6 ≤ L) {M : Mem} (hI : InvF M) (K : ∀ M2 : Mem, InvP M2 → V z g 4 M2 [(3, iv i), (2, rf g 78), (1, rf g 0), (0, .ref b)] [] 1219) : V z g 4 M [(3, iv i), (2, rf g 78), (1, rf g 0), (0, .ref b)] [] 1156 := by
  refine v_aload_n ok 2 dL_law_1156 rfl rfl ?_
  refine v_aload_n ok 3 dL_law_1157 rfl rfl ?_
  refine v_iload_n ok 0 dL_law_1158 rfl rfl ?_
  refine v_iconst (n := 1) ok dL_law_1159 ?_
  refine v_iadd ok dL_law_1160 ?_
  refine v_sld ok hX (by omega) (by omega) hL dL_law_1161 ?_
  refine v_aload_n ok 3 dL_law_1162 rfl rfl ?_
  refine v_iload_n ok 0 dL_law_1163 rfl rfl ?_
  refine v_iconst (n := 2) ok dL_law_1164 ?_
  refine v_iadd ok dL_law_1165 ?_
  refine v_sld ok hX (by omega) (by omega) hL dL_law_1166 ?_
  refine v_aload_n ok 3 dL_law_1167 rfl rfl ?_
  refine v_iload_n ok 0 dL_law_1168 rfl rfl ?_
  refine v_iconst (n := 3) ok dL_law_1169 ?_
  refine v_iadd ok dL_law_1170 ?_
  refine v_sld ok hX (by omega) (by omega) hL dL_law_1171 ?_
  refine v_aload_n ok 3 dL_law_1172 rfl rfl ?_
  refine v_iload_n ok 0 dL_law_1173 rfl rfl ?_
  refine v_iconst (n := 4) ok dL_law_1174 ?_
  refine v_iadd ok dL_law_1175 ?_
  refine v_sld ok hX (by omega) (by omega) hL dL_law_1176 ?_
  refine v_aload_n ok 3 dL_law_1177 rfl rfl ?_
  refine v_iload_n ok 0 dL_law_1178 rfl rfl ?_
  refine v_iconst (n := 5) ok dL_law_1179 ?_
  refine v_iadd ok dL_law_1180 ?_
  refine v_sld ok hX (by omega) (by omega) hL dL_law_1181 ?_
  refine v_callV (na := 5) (i := 0) (C := RX9) (T := TX9) (N := 9) (f0 := (M 0)) ok (ct_X9_shift z.2.1 g M (sx xs (i + 1)) (sx xs (i + 2)) (sx xs (i + 3)) (sx xs (i + 4)) (sx xs (i + 5)) (i32_of _) (i32_of _) (i32_of _) (i32_of _) (i32_of _) (inv_tps hI)) gL_law_X9_shift (kd_lt (show kd 0 = 9 from rfl) (by decide)) rfl rfl (cellF_9 _ rfl) rfl (by decide +kernel) rfl (by decide) [] rfl (Nat.le_of_ble_eq_true rfl) dL_law_1182 (fun v1 M1 hp1 => ?_)
  obtain ⟨⟨y, rfl⟩, hk⟩ := kp_shift (inv_m hI) hp1
  have e78 : M1 78 = M 78 := hk 78 (by decide)
  have e79 : M1 79 = M 79 := hk 79 (by decide)
  have e82 : M1 82 = M 82 := hk 82 (by decide)
  have e92 : M1 92 = M 92 := hk 92 (by decide)
  have e93 : M1 93 = M 93 := hk 93 (by decide)
  have e94 : M1 94 = M 94 := hk 94 (by decide)
  show V z g 4 M1 [(3, iv i), (2, rf g 78), (1, rf g 0), (0, .ref b)] [iv y] 1185
  refine v_aload_n ok 1 dL_law_1185 rfl rfl ?_
  refine v_aload_n ok 3 dL_law_1186 rfl rfl ?_
  refine v_iload_n ok 0 dL_law_1187 rfl rfl ?_
  refine v_iconst (n := 1) ok dL_law_1188 ?_
  refine v_iadd ok dL_law_1189 ?_
  refine v_sld ok hX (by omega) (by omega) hL dL_law_1190 ?_
  refine v_aload_n ok 3 dL_law_1191 rfl rfl ?_
  refine v_iload_n ok 0 dL_law_1192 rfl rfl ?_
  refine v_iconst (n := 2) ok dL_law_1193 ?_
  refine v_iadd ok dL_law_1194 ?_
  refine v_sld ok hX (by omega) (by omega) hL dL_law_1195 ?_
  refine v_aload_n ok 3 dL_law_1196 rfl rfl ?_
  refine v_iload_n ok 0 dL_law_1197 rfl rfl ?_
  refine v_iconst (n := 3) ok dL_law_1198 ?_
  refine v_iadd ok dL_law_1199 ?_
  refine v_sld ok hX (by omega) (by omega) hL dL_law_1200 ?_
  refine v_aload_n ok 3 dL_law_1201 rfl rfl ?_
  refine v_iload_n ok 0 dL_law_1202 rfl rfl ?_
  refine v_iconst (n := 4) ok dL_law_1203 ?_
  refine v_iadd ok dL_law_1204 ?_
  refine v_sld ok hX (by omega) (by omega) hL dL_law_1205 ?_
  refine v_aload_n ok 3 dL_law_1206 rfl rfl ?_
  refine v_iload_n ok 0 dL_law_1207 rfl rfl ?_
  refine v_iconst (n := 5) ok dL_law_1208 ?_
  refine v_iadd ok dL_law_1209 ?_
  refine v_sld ok hX (by omega) (by omega) hL dL_law_1210 ?_
  refine v_callV (na := 5) (i := 78) (C := RX10) (T := TX10) (N := 22) (f0 := (M1 78)) ok (ct_X10_shift z.2.1 g M1 (sx xs (i + 1)) (sx xs (i + 2)) (sx xs (i + 3)) (sx xs (i + 4)) (sx xs (i + 5)) (i32_of _) (i32_of _) (i32_of _) (i32_of _) (i32_of _) (by rw [e92, e93, e94]; exact hI.2.2.2.2.2.2.2.1)) gL_law_X10_shift (kd_lt (show kd 78 = 10 from rfl) (by decide)) rfl rfl (cellF_10 _ rfl) rfl (by decide +kernel) rfl (by decide) [iv y] rfl (Nat.le_of_ble_eq_true rfl) dL_law_1211 (fun v2 M2 hp2 => ?_)
  obtain ⟨x, q1, q2, hP⟩ := pr_shift hI hp1 hp2
  have q3 : (iv y : Value) = iv x := Option.some.inj q1
  rw [q2]
  show V z g 4 M2 [(3, iv i), (2, rf g 78), (1, rf g 0), (0, .ref b)] [iv x, iv y] 1214
  rw [q3]
  exact v_same ok dL_law_1214 (by decide) (K M2 hP)
