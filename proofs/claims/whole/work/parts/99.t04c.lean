theorem law_14 {Z : VZ} {z1 z2 : Nat → Nat} {b L : Nat} {xs : Nat → Int32} {n k i : Nat} {X : XS} {M : MS} (hL : L ≤ 3584) (hi : i + 7 ≤ L) (h : Rel X M) (hn : n + 100 ≤ 624007) (hk : k + 1000 ≤ 7230226) (kk : ∀ X' M', Rel X' M' → VL Z b L xs (n + 16) (k + 96) 1542 [(3, .int (nI i)), (2, .ref (z2 99)), (1, .ref (z1 99)), (0, .ref b)] [] (MW (zz Z z2) M' ++ XW (zz Z z1) X')) : VL Z b L xs n k 723 [(3, .int (nI i)), (2, .ref (z2 99)), (1, .ref (z1 99)), (0, .ref b)] [] (MW (zz Z z2) M ++ XW (zz Z z1) X) := by
  refine L_aload_n (pc := 723) (st := []) dL_law_723 2 rfl rfl ?_
  refine L_arg (i := i) (j := 1) (q0 := 3) (q1 := 0) (pc := 724) (st := [.ref (z1 99)]) hL (by omega) rfl rfl (by decide) dL_law_724 dL_law_725 dL_law_726 dL_law_727 dL_law_728 ?_
  refine L_call (z := z1) (St' := XS) (Wd' := XW) (wr := MW (zz Z z2) M) (S' := X) (q0 := 0) (ci := 10) (na := 1) (av := [.int (xs (i + 1))]) (st := []) (pc := 729) dL_law_729 (c_X10_build (zz Z z1) X (xs (i + 1)) (Rel_xOK h) (Rel_zOK h)) ⟨tw_545, tw_546, tw_547, tw_548, tw_1, by decide +kernel⟩ rfl rfl rfl rfl rfl (Nat.le_of_ble_eq_true rfl) (Nat.le_of_ble_eq_true rfl) (Nat.le_of_ble_eq_true rfl) (by omega) (by omega) (fun v X' hpx => ?_)
  obtain ⟨r, rfl⟩ := w_build hpx
  refine L_swap (A := MW (zz Z z2) M) (B := XW (zz Z z1) X') ?_
  refine L_aload_n (pc := 732) (st := [.int r]) dL_law_732 1 rfl rfl ?_
  refine L_arg (i := i) (j := 1) (q0 := 3) (q1 := 0) (pc := 733) (st := [.ref (z2 99), .int r]) hL (by omega) rfl rfl (by decide) dL_law_733 dL_law_734 dL_law_735 dL_law_736 dL_law_737 ?_
  refine L_call (z := z2) (St' := MS) (Wd' := MW) (wr := XW (zz Z z1) X') (S' := M) (q0 := 0) (ci := 11) (na := 1) (av := [.int (xs (i + 1))]) (st := [.int r]) (pc := 738) dL_law_738 (cM_build (zz Z z2) M (xs (i + 1)) (Rel_mOK h) (Rel_sOK2 h)) ⟨tw_1138, tw_1139, tw_1140, tw_1141, tw_6, by decide +kernel⟩ rfl rfl rfl rfl rfl (Nat.le_of_ble_eq_true rfl) (Nat.le_of_ble_eq_true rfl) (Nat.le_of_ble_eq_true rfl) (by omega) (by omega) (fun v' M' hpm => ?_)
  obtain ⟨r', e1, rfl, hR⟩ := q_build h hpx hpm
  cases e1
  refine L_swap (A := XW (zz Z z1) X') (B := MW (zz Z z2) M') ?_
  refine L_icmp_eq (x := r) (y := r) (st := []) (tgt := 1542) (pc := 741) dL_law_741 (by decide) (fun _ => ?_) (fun hz => absurd rfl hz)
  exact L_widen (by omega) (by omega) (kk X' M' hR)
theorem law_15 {Z : VZ} {z1 z2 : Nat → Nat} {b L : Nat} {xs : Nat → Int32} {n k i : Nat} {X : XS} {M : MS} (hL : L ≤ 3584) (hi : i + 7 ≤ L) (h : Rel X M) (hn : n + 100 ≤ 624007) (hk : k + 1000 ≤ 7230226) (kk : ∀ X' M', Rel X' M' → VL Z b L xs (n + 16) (k + 96) 1542 [(3, .int (nI i)), (2, .ref (z2 99)), (1, .ref (z1 99)), (0, .ref b)] [] (MW (zz Z z2) M' ++ XW (zz Z z1) X')) : VL Z b L xs n k 746 [(3, .int (nI i)), (2, .ref (z2 99)), (1, .ref (z1 99)), (0, .ref b)] [] (MW (zz Z z2) M ++ XW (zz Z z1) X) := by
  refine L_aload_n (pc := 746) (st := []) dL_law_746 2 rfl rfl ?_
  refine L_arg (i := i) (j := 1) (q0 := 3) (q1 := 0) (pc := 747) (st := [.ref (z1 99)]) hL (by omega) rfl rfl (by decide) dL_law_747 dL_law_748 dL_law_749 dL_law_750 dL_law_751 ?_
  refine L_arg (i := i) (j := 2) (q0 := 3) (q1 := 0) (pc := 752) (st := [.int (xs (i + 1)), .ref (z1 99)]) hL (by omega) rfl rfl (by decide) dL_law_752 dL_law_753 dL_law_754 dL_law_755 dL_law_756 ?_
  refine L_call (z := z1) (St' := XS) (Wd' := XW) (wr := MW (zz Z z2) M) (S' := X) (q0 := 0) (ci := 10) (na := 2) (av := [.int (xs (i + 1)), .int (xs (i + 2))]) (st := []) (pc := 757) dL_law_757 (c_X10_cycle (zz Z z1) X (xs (i + 1)) (xs (i + 2)) (Rel_xOK h) (fun g => Rel_orbX h g)) ⟨tw_555, tw_556, tw_557, tw_558, tw_1, by decide +kernel⟩ rfl rfl rfl rfl rfl (Nat.le_of_ble_eq_true rfl) (Nat.le_of_ble_eq_true rfl) (Nat.le_of_ble_eq_true rfl) (by omega) (by omega) (fun v X' hpx => ?_)
  obtain ⟨r, rfl⟩ := w_cycle hpx
  refine L_swap (A := MW (zz Z z2) M) (B := XW (zz Z z1) X') ?_
  refine L_aload_n (pc := 760) (st := [.int r]) dL_law_760 1 rfl rfl ?_
  refine L_arg (i := i) (j := 1) (q0 := 3) (q1 := 0) (pc := 761) (st := [.ref (z2 99), .int r]) hL (by omega) rfl rfl (by decide) dL_law_761 dL_law_762 dL_law_763 dL_law_764 dL_law_765 ?_
  refine L_arg (i := i) (j := 2) (q0 := 3) (q1 := 0) (pc := 766) (st := [.int (xs (i + 1)), .ref (z2 99), .int r]) hL (by omega) rfl rfl (by decide) dL_law_766 dL_law_767 dL_law_768 dL_law_769 dL_law_770 ?_
  refine L_call (z := z2) (St' := MS) (Wd' := MW) (wr := XW (zz Z z1) X') (S' := M) (q0 := 0) (ci := 11) (na := 2) (av := [.int (xs (i + 1)), .int (xs (i + 2))]) (st := [.int r]) (pc := 771) dL_law_771 (cM_cycle (zz Z z2) M (xs (i + 1)) (xs (i + 2)) (Rel_mOK h) (fun g => Rel_orbM h g)) ⟨tw_1144, tw_1145, tw_1146, tw_1147, tw_6, by decide +kernel⟩ rfl rfl rfl rfl rfl (Nat.le_of_ble_eq_true rfl) (Nat.le_of_ble_eq_true rfl) (Nat.le_of_ble_eq_true rfl) (by omega) (by omega) (fun v' M' hpm => ?_)
  obtain ⟨r', e1, rfl, hR⟩ := q_cycle h hpx hpm
  cases e1
  refine L_swap (A := XW (zz Z z1) X') (B := MW (zz Z z2) M') ?_
  refine L_icmp_eq (x := r) (y := r) (st := []) (tgt := 1542) (pc := 774) dL_law_774 (by decide) (fun _ => ?_) (fun hz => absurd rfl hz)
  exact L_widen (by omega) (by omega) (kk X' M' hR)
theorem law_16 {Z : VZ} {z1 z2 : Nat → Nat} {b L : Nat} {xs : Nat → Int32} {n k i : Nat} {X : XS} {M : MS} (hL : L ≤ 3584) (hi : i + 7 ≤ L) (h : Rel X M) (hn : n + 100 ≤ 624007) (hk : k + 1000 ≤ 7230226) (kk : ∀ X' M', Rel X' M' → VL Z b L xs (n + 16) (k + 96) 1542 [(3, .int (nI i)), (2, .ref (z2 99)), (1, .ref (z1 99)), (0, .ref b)] [] (MW (zz Z z2) M' ++ XW (zz Z z1) X')) : VL Z b L xs n k 779 [(3, .int (nI i)), (2, .ref (z2 99)), (1, .ref (z1 99)), (0, .ref b)] [] (MW (zz Z z2) M ++ XW (zz Z z1) X) := by
  refine L_aload_n (pc := 779) (st := []) dL_law_779 2 rfl rfl ?_
  refine L_arg (i := i) (j := 1) (q0 := 3) (q1 := 0) (pc := 780) (st := [.ref (z1 99)]) hL (by omega) rfl rfl (by decide) dL_law_780 dL_law_781 dL_law_782 dL_law_783 dL_law_784 ?_
  refine L_arg (i := i) (j := 2) (q0 := 3) (q1 := 0) (pc := 785) (st := [.int (xs (i + 1)), .ref (z1 99)]) hL (by omega) rfl rfl (by decide) dL_law_785 dL_law_786 dL_law_787 dL_law_788 dL_law_789 ?_
  refine L_call (z := z1) (St' := XS) (Wd' := XW) (wr := MW (zz Z z2) M) (S' := X) (q0 := 0) (ci := 10) (na := 2) (av := [.int (xs (i + 1)), .int (xs (i + 2))]) (st := []) (pc := 790) dL_law_790 (c_X10_linear (zz Z z1) X (xs (i + 1)) (xs (i + 2)) (Rel_zOK h)) ⟨tw_575, tw_576, tw_577, tw_578, tw_1, by decide +kernel⟩ rfl rfl rfl rfl rfl (Nat.le_of_ble_eq_true rfl) (Nat.le_of_ble_eq_true rfl) (Nat.le_of_ble_eq_true rfl) (by omega) (by omega) (fun v X' hpx => ?_)
  obtain ⟨r, rfl⟩ := w_linear hpx
  refine L_swap (A := MW (zz Z z2) M) (B := XW (zz Z z1) X') ?_
  refine L_aload_n (pc := 793) (st := [.long r]) dL_law_793 1 rfl rfl ?_
  refine L_arg (i := i) (j := 1) (q0 := 3) (q1 := 0) (pc := 794) (st := [.ref (z2 99), .long r]) hL (by omega) rfl rfl (by decide) dL_law_794 dL_law_795 dL_law_796 dL_law_797 dL_law_798 ?_
  refine L_arg (i := i) (j := 2) (q0 := 3) (q1 := 0) (pc := 799) (st := [.int (xs (i + 1)), .ref (z2 99), .long r]) hL (by omega) rfl rfl (by decide) dL_law_799 dL_law_800 dL_law_801 dL_law_802 dL_law_803 ?_
  refine L_call (z := z2) (St' := MS) (Wd' := MW) (wr := XW (zz Z z1) X') (S' := M) (q0 := 0) (ci := 11) (na := 2) (av := [.int (xs (i + 1)), .int (xs (i + 2))]) (st := [.long r]) (pc := 804) dL_law_804 (cM_linear (zz Z z2) M (xs (i + 1)) (xs (i + 2)) (Rel_sOK2 h)) ⟨tw_1152, tw_1153, tw_1154, tw_1155, tw_6, by decide +kernel⟩ rfl rfl rfl rfl rfl (Nat.le_of_ble_eq_true rfl) (Nat.le_of_ble_eq_true rfl) (Nat.le_of_ble_eq_true rfl) (by omega) (by omega) (fun v' M' hpm => ?_)
  obtain ⟨r', e1, rfl, hR⟩ := q_linear h hpx hpm
  cases e1
  refine L_swap (A := XW (zz Z z1) X') (B := MW (zz Z z2) M') ?_
  refine L_lcmp (x := r) (y := r) (st := []) (pc := 807) dL_law_807 ?_
  refine L_if_eq (x := lg_cmp r r) (st := []) (tgt := 1542) (pc := 808) dL_law_808 (by decide) (fun _ => ?_) (fun hz => absurd ((lg_cmp_eq r r).mpr rfl) hz)
  exact L_widen (by omega) (by omega) (kk X' M' hR)
theorem law_17 {Z : VZ} {z1 z2 : Nat → Nat} {b L : Nat} {xs : Nat → Int32} {n k i : Nat} {X : XS} {M : MS} (hL : L ≤ 3584) (hi : i + 7 ≤ L) (h : Rel X M) (hn : n + 100 ≤ 624007) (hk : k + 1000 ≤ 7230226) (kk : ∀ X' M', Rel X' M' → VL Z b L xs (n + 16) (k + 96) 1542 [(3, .int (nI i)), (2, .ref (z2 99)), (1, .ref (z1 99)), (0, .ref b)] [] (MW (zz Z z2) M' ++ XW (zz Z z1) X')) : VL Z b L xs n k 813 [(3, .int (nI i)), (2, .ref (z2 99)), (1, .ref (z1 99)), (0, .ref b)] [] (MW (zz Z z2) M ++ XW (zz Z z1) X) := by
  refine L_aload_n (pc := 813) (st := []) dL_law_813 2 rfl rfl ?_
  refine L_arg (i := i) (j := 1) (q0 := 3) (q1 := 0) (pc := 814) (st := [.ref (z1 99)]) hL (by omega) rfl rfl (by decide) dL_law_814 dL_law_815 dL_law_816 dL_law_817 dL_law_818 ?_
  refine L_arg (i := i) (j := 2) (q0 := 3) (q1 := 0) (pc := 819) (st := [.int (xs (i + 1)), .ref (z1 99)]) hL (by omega) rfl rfl (by decide) dL_law_819 dL_law_820 dL_law_821 dL_law_822 dL_law_823 ?_
  refine L_arg (i := i) (j := 3) (q0 := 3) (q1 := 0) (pc := 824) (st := [.int (xs (i + 2)), .int (xs (i + 1)), .ref (z1 99)]) hL (by omega) rfl rfl (by decide) dL_law_824 dL_law_825 dL_law_826 dL_law_827 dL_law_828 ?_
  refine L_call (z := z1) (St' := XS) (Wd' := XW) (wr := MW (zz Z z2) M) (S' := X) (q0 := 0) (ci := 10) (na := 3) (av := [.int (xs (i + 1)), .int (xs (i + 2)), .int (xs (i + 3))]) (st := []) (pc := 829) dL_law_829 (c_X10_twin (zz Z z1) X (xs (i + 1)) (xs (i + 2)) (xs (i + 3)) (Rel_xOK h)) ⟨tw_594, tw_595, tw_596, tw_597, tw_1, by decide +kernel⟩ rfl rfl rfl rfl rfl (Nat.le_of_ble_eq_true rfl) (Nat.le_of_ble_eq_true rfl) (Nat.le_of_ble_eq_true rfl) (by omega) (by omega) (fun v X' hpx => ?_)
  obtain ⟨r, rfl⟩ := w_twin hpx
  refine L_swap (A := MW (zz Z z2) M) (B := XW (zz Z z1) X') ?_
  refine L_aload_n (pc := 832) (st := [.long r]) dL_law_832 1 rfl rfl ?_
  refine L_arg (i := i) (j := 1) (q0 := 3) (q1 := 0) (pc := 833) (st := [.ref (z2 99), .long r]) hL (by omega) rfl rfl (by decide) dL_law_833 dL_law_834 dL_law_835 dL_law_836 dL_law_837 ?_
  refine L_arg (i := i) (j := 2) (q0 := 3) (q1 := 0) (pc := 838) (st := [.int (xs (i + 1)), .ref (z2 99), .long r]) hL (by omega) rfl rfl (by decide) dL_law_838 dL_law_839 dL_law_840 dL_law_841 dL_law_842 ?_
  refine L_arg (i := i) (j := 3) (q0 := 3) (q1 := 0) (pc := 843) (st := [.int (xs (i + 2)), .int (xs (i + 1)), .ref (z2 99), .long r]) hL (by omega) rfl rfl (by decide) dL_law_843 dL_law_844 dL_law_845 dL_law_846 dL_law_847 ?_
  refine L_call (z := z2) (St' := MS) (Wd' := MW) (wr := XW (zz Z z1) X') (S' := M) (q0 := 0) (ci := 11) (na := 3) (av := [.int (xs (i + 1)), .int (xs (i + 2)), .int (xs (i + 3))]) (st := [.long r]) (pc := 848) dL_law_848 (cM_twin (zz Z z2) M (xs (i + 1)) (xs (i + 2)) (xs (i + 3)) (Rel_mOK h)) ⟨tw_1165, tw_1166, tw_1167, tw_1168, tw_6, by decide +kernel⟩ rfl rfl rfl rfl rfl (Nat.le_of_ble_eq_true rfl) (Nat.le_of_ble_eq_true rfl) (Nat.le_of_ble_eq_true rfl) (by omega) (by omega) (fun v' M' hpm => ?_)
  obtain ⟨r', e1, rfl, hR⟩ := q_twin h hpx hpm
  cases e1
  refine L_swap (A := XW (zz Z z1) X') (B := MW (zz Z z2) M') ?_
  refine L_lcmp (x := r) (y := r) (st := []) (pc := 851) dL_law_851 ?_
  refine L_if_eq (x := lg_cmp r r) (st := []) (tgt := 1542) (pc := 852) dL_law_852 (by decide) (fun _ => ?_) (fun hz => absurd ((lg_cmp_eq r r).mpr rfl) hz)
  exact L_widen (by omega) (by omega) (kk X' M' hR)
theorem law_18 {Z : VZ} {z1 z2 : Nat → Nat} {b L : Nat} {xs : Nat → Int32} {n k i : Nat} {X : XS} {M : MS} (hL : L ≤ 3584) (hi : i + 7 ≤ L) (h : Rel X M) (hn : n + 100 ≤ 624007) (hk : k + 1000 ≤ 7230226) (kk : ∀ X' M', Rel X' M' → VL Z b L xs (n + 16) (k + 96) 1542 [(3, .int (nI i)), (2, .ref (z2 99)), (1, .ref (z1 99)), (0, .ref b)] [] (MW (zz Z z2) M' ++ XW (zz Z z1) X')) : VL Z b L xs n k 857 [(3, .int (nI i)), (2, .ref (z2 99)), (1, .ref (z1 99)), (0, .ref b)] [] (MW (zz Z z2) M ++ XW (zz Z z1) X) := by
  refine L_aload_n (pc := 857) (st := []) dL_law_857 2 rfl rfl ?_
  refine L_arg (i := i) (j := 1) (q0 := 3) (q1 := 0) (pc := 858) (st := [.ref (z1 99)]) hL (by omega) rfl rfl (by decide) dL_law_858 dL_law_859 dL_law_860 dL_law_861 dL_law_862 ?_
  refine L_call (z := z1) (St' := XS) (Wd' := XW) (wr := MW (zz Z z2) M) (S' := X) (q0 := 0) (ci := 10) (na := 1) (av := [.int (xs (i + 1))]) (st := []) (pc := 863) dL_law_863 (c_X10_compare (zz Z z1) X (xs (i + 1)) (Rel_zOK h)) ⟨tw_598, tw_599, tw_600, tw_601, tw_1, by decide +kernel⟩ rfl rfl rfl rfl rfl (Nat.le_of_ble_eq_true rfl) (Nat.le_of_ble_eq_true rfl) (Nat.le_of_ble_eq_true rfl) (by omega) (by omega) (fun v X' hpx => ?_)
  obtain ⟨r, rfl⟩ := w_compare hpx
  refine L_swap (A := MW (zz Z z2) M) (B := XW (zz Z z1) X') ?_
  refine L_aload_n (pc := 866) (st := [.int r]) dL_law_866 1 rfl rfl ?_
  refine L_arg (i := i) (j := 1) (q0 := 3) (q1 := 0) (pc := 867) (st := [.ref (z2 99), .int r]) hL (by omega) rfl rfl (by decide) dL_law_867 dL_law_868 dL_law_869 dL_law_870 dL_law_871 ?_
  refine L_call (z := z2) (St' := MS) (Wd' := MW) (wr := XW (zz Z z1) X') (S' := M) (q0 := 0) (ci := 11) (na := 1) (av := [.int (xs (i + 1))]) (st := [.int r]) (pc := 872) dL_law_872 (cM_compare (zz Z z2) M (xs (i + 1)) (Rel_sOK2 h)) ⟨tw_1169, tw_1170, tw_1171, tw_1172, tw_6, by decide +kernel⟩ rfl rfl rfl rfl rfl (Nat.le_of_ble_eq_true rfl) (Nat.le_of_ble_eq_true rfl) (Nat.le_of_ble_eq_true rfl) (by omega) (by omega) (fun v' M' hpm => ?_)
  obtain ⟨r', e1, rfl, hR⟩ := q_compare h hpx hpm
  cases e1
  refine L_swap (A := XW (zz Z z1) X') (B := MW (zz Z z2) M') ?_
  refine L_icmp_eq (x := r) (y := r) (st := []) (tgt := 1542) (pc := 875) dL_law_875 (by decide) (fun _ => ?_) (fun hz => absurd rfl hz)
  exact L_widen (by omega) (by omega) (kk X' M' hR)
theorem law_19 {Z : VZ} {z1 z2 : Nat → Nat} {b L : Nat} {xs : Nat → Int32} {n k i : Nat} {X : XS} {M : MS} (hL : L ≤ 3584) (hi : i + 7 ≤ L) (h : Rel X M) (hn : n + 100 ≤ 624007) (hk : k + 1000 ≤ 7230226) (kk : ∀ X' M', Rel X' M' → VL Z b L xs (n + 16) (k + 96) 1542 [(3, .int (nI i)), (2, .ref (z2 99)), (1, .ref (z1 99)), (0, .ref b)] [] (MW (zz Z z2) M' ++ XW (zz Z z1) X')) : VL Z b L xs n k 880 [(3, .int (nI i)), (2, .ref (z2 99)), (1, .ref (z1 99)), (0, .ref b)] [] (MW (zz Z z2) M ++ XW (zz Z z1) X) := by
  refine L_aload_n (pc := 880) (st := []) dL_law_880 2 rfl rfl ?_
  refine L_arg (i := i) (j := 1) (q0 := 3) (q1 := 0) (pc := 881) (st := [.ref (z1 99)]) hL (by omega) rfl rfl (by decide) dL_law_881 dL_law_882 dL_law_883 dL_law_884 dL_law_885 ?_
  refine L_arg (i := i) (j := 2) (q0 := 3) (q1 := 0) (pc := 886) (st := [.int (xs (i + 1)), .ref (z1 99)]) hL (by omega) rfl rfl (by decide) dL_law_886 dL_law_887 dL_law_888 dL_law_889 dL_law_890 ?_
  refine L_arg (i := i) (j := 3) (q0 := 3) (q1 := 0) (pc := 891) (st := [.int (xs (i + 2)), .int (xs (i + 1)), .ref (z1 99)]) hL (by omega) rfl rfl (by decide) dL_law_891 dL_law_892 dL_law_893 dL_law_894 dL_law_895 ?_
  refine L_call (z := z1) (St' := XS) (Wd' := XW) (wr := MW (zz Z z2) M) (S' := X) (q0 := 0) (ci := 10) (na := 3) (av := [.int (xs (i + 1)), .int (xs (i + 2)), .int (xs (i + 3))]) (st := []) (pc := 896) dL_law_896 (c_X10_windows (zz Z z1) X (xs (i + 1)) (xs (i + 2)) (xs (i + 3)) (Rel_zOK h)) ⟨tw_602, tw_603, tw_604, tw_605, tw_1, by decide +kernel⟩ rfl rfl rfl rfl rfl (Nat.le_of_ble_eq_true rfl) (Nat.le_of_ble_eq_true rfl) (Nat.le_of_ble_eq_true rfl) (by omega) (by omega) (fun v X' hpx => ?_)
  obtain ⟨r, rfl⟩ := w_windows hpx
  refine L_swap (A := MW (zz Z z2) M) (B := XW (zz Z z1) X') ?_
  refine L_aload_n (pc := 899) (st := [.int r]) dL_law_899 1 rfl rfl ?_
  refine L_arg (i := i) (j := 1) (q0 := 3) (q1 := 0) (pc := 900) (st := [.ref (z2 99), .int r]) hL (by omega) rfl rfl (by decide) dL_law_900 dL_law_901 dL_law_902 dL_law_903 dL_law_904 ?_
  refine L_arg (i := i) (j := 2) (q0 := 3) (q1 := 0) (pc := 905) (st := [.int (xs (i + 1)), .ref (z2 99), .int r]) hL (by omega) rfl rfl (by decide) dL_law_905 dL_law_906 dL_law_907 dL_law_908 dL_law_909 ?_
  refine L_arg (i := i) (j := 3) (q0 := 3) (q1 := 0) (pc := 910) (st := [.int (xs (i + 2)), .int (xs (i + 1)), .ref (z2 99), .int r]) hL (by omega) rfl rfl (by decide) dL_law_910 dL_law_911 dL_law_912 dL_law_913 dL_law_914 ?_
  refine L_call (z := z2) (St' := MS) (Wd' := MW) (wr := XW (zz Z z1) X') (S' := M) (q0 := 0) (ci := 11) (na := 3) (av := [.int (xs (i + 1)), .int (xs (i + 2)), .int (xs (i + 3))]) (st := [.int r]) (pc := 915) dL_law_915 (cM_windows (zz Z z2) M (xs (i + 1)) (xs (i + 2)) (xs (i + 3)) (Rel_sOK2 h)) ⟨tw_1173, tw_1174, tw_1175, tw_1176, tw_6, by decide +kernel⟩ rfl rfl rfl rfl rfl (Nat.le_of_ble_eq_true rfl) (Nat.le_of_ble_eq_true rfl) (Nat.le_of_ble_eq_true rfl) (by omega) (by omega) (fun v' M' hpm => ?_)
  obtain ⟨r', e1, rfl, hR⟩ := q_windows h hpx hpm
  cases e1
  refine L_swap (A := XW (zz Z z1) X') (B := MW (zz Z z2) M') ?_
  refine L_icmp_eq (x := r) (y := r) (st := []) (tgt := 1542) (pc := 918) dL_law_918 (by decide) (fun _ => ?_) (fun hz => absurd rfl hz)
  exact L_widen (by omega) (by omega) (kk X' M' hR)
theorem law_20 {Z : VZ} {z1 z2 : Nat → Nat} {b L : Nat} {xs : Nat → Int32} {n k i : Nat} {X : XS} {M : MS} (hL : L ≤ 3584) (hi : i + 7 ≤ L) (h : Rel X M) (hn : n + 100 ≤ 624007) (hk : k + 1000 ≤ 7230226) (kk : ∀ X' M', Rel X' M' → VL Z b L xs (n + 16) (k + 96) 1542 [(3, .int (nI i)), (2, .ref (z2 99)), (1, .ref (z1 99)), (0, .ref b)] [] (MW (zz Z z2) M' ++ XW (zz Z z1) X')) : VL Z b L xs n k 923 [(3, .int (nI i)), (2, .ref (z2 99)), (1, .ref (z1 99)), (0, .ref b)] [] (MW (zz Z z2) M ++ XW (zz Z z1) X) := by
  refine L_aload_n (pc := 923) (st := []) dL_law_923 2 rfl rfl ?_
  refine L_arg (i := i) (j := 1) (q0 := 3) (q1 := 0) (pc := 924) (st := [.ref (z1 99)]) hL (by omega) rfl rfl (by decide) dL_law_924 dL_law_925 dL_law_926 dL_law_927 dL_law_928 ?_
  refine L_arg (i := i) (j := 2) (q0 := 3) (q1 := 0) (pc := 929) (st := [.int (xs (i + 1)), .ref (z1 99)]) hL (by omega) rfl rfl (by decide) dL_law_929 dL_law_930 dL_law_931 dL_law_932 dL_law_933 ?_
  refine L_arg (i := i) (j := 3) (q0 := 3) (q1 := 0) (pc := 934) (st := [.int (xs (i + 2)), .int (xs (i + 1)), .ref (z1 99)]) hL (by omega) rfl rfl (by decide) dL_law_934 dL_law_935 dL_law_936 dL_law_937 dL_law_938 ?_
  refine L_call (z := z1) (St' := XS) (Wd' := XW) (wr := MW (zz Z z2) M) (S' := X) (q0 := 0) (ci := 10) (na := 3) (av := [.int (xs (i + 1)), .int (xs (i + 2)), .int (xs (i + 3))]) (st := []) (pc := 939) dL_law_939 (c_X10_runs (zz Z z1) X (xs (i + 1)) (xs (i + 2)) (xs (i + 3)) (Rel_zOK h)) ⟨tw_612, tw_613, tw_614, tw_615, tw_1, by decide +kernel⟩ rfl rfl rfl rfl rfl (Nat.le_of_ble_eq_true rfl) (Nat.le_of_ble_eq_true rfl) (Nat.le_of_ble_eq_true rfl) (by omega) (by omega) (fun v X' hpx => ?_)
  obtain ⟨r, rfl⟩ := w_runs hpx
  refine L_swap (A := MW (zz Z z2) M) (B := XW (zz Z z1) X') ?_
  refine L_aload_n (pc := 942) (st := [.int r]) dL_law_942 1 rfl rfl ?_
  refine L_arg (i := i) (j := 1) (q0 := 3) (q1 := 0) (pc := 943) (st := [.ref (z2 99), .int r]) hL (by omega) rfl rfl (by decide) dL_law_943 dL_law_944 dL_law_945 dL_law_946 dL_law_947 ?_
  refine L_arg (i := i) (j := 2) (q0 := 3) (q1 := 0) (pc := 948) (st := [.int (xs (i + 1)), .ref (z2 99), .int r]) hL (by omega) rfl rfl (by decide) dL_law_948 dL_law_949 dL_law_950 dL_law_951 dL_law_952 ?_
  refine L_arg (i := i) (j := 3) (q0 := 3) (q1 := 0) (pc := 953) (st := [.int (xs (i + 2)), .int (xs (i + 1)), .ref (z2 99), .int r]) hL (by omega) rfl rfl (by decide) dL_law_953 dL_law_954 dL_law_955 dL_law_956 dL_law_957 ?_
  refine L_call (z := z2) (St' := MS) (Wd' := MW) (wr := XW (zz Z z1) X') (S' := M) (q0 := 0) (ci := 11) (na := 3) (av := [.int (xs (i + 1)), .int (xs (i + 2)), .int (xs (i + 3))]) (st := [.int r]) (pc := 958) dL_law_958 (cM_runs (zz Z z2) M (xs (i + 1)) (xs (i + 2)) (xs (i + 3)) (Rel_sOK2 h)) ⟨tw_1181, tw_1182, tw_1183, tw_1184, tw_6, by decide +kernel⟩ rfl rfl rfl rfl rfl (Nat.le_of_ble_eq_true rfl) (Nat.le_of_ble_eq_true rfl) (Nat.le_of_ble_eq_true rfl) (by omega) (by omega) (fun v' M' hpm => ?_)
  obtain ⟨r', e1, rfl, hR⟩ := q_runs h hpx hpm
  cases e1
  refine L_swap (A := XW (zz Z z1) X') (B := MW (zz Z z2) M') ?_
  refine L_icmp_eq (x := r) (y := r) (st := []) (tgt := 1542) (pc := 961) dL_law_961 (by decide) (fun _ => ?_) (fun hz => absurd rfl hz)
  exact L_widen (by omega) (by omega) (kk X' M' hR)
