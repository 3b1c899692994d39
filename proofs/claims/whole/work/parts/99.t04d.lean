theorem law_21 {Z : VZ} {z1 z2 : Nat → Nat} {b L : Nat} {xs : Nat → Int32} {n k i : Nat} {X : XS} {M : MS} (hL : L ≤ 3584) (hi : i + 7 ≤ L) (h : Rel X M) (hn : n + 100 ≤ 624007) (hk : k + 1000 ≤ 7230226) (kk : ∀ X' M', Rel X' M' → VL Z b L xs (n + 16) (k + 96) 1542 [(3, .int (nI i)), (2, .ref (z2 99)), (1, .ref (z1 99)), (0, .ref b)] [] (MW (zz Z z2) M' ++ XW (zz Z z1) X')) : VL Z b L xs n k 966 [(3, .int (nI i)), (2, .ref (z2 99)), (1, .ref (z1 99)), (0, .ref b)] [] (MW (zz Z z2) M ++ XW (zz Z z1) X) := by
  refine L_aload_n (pc := 966) (st := []) dL_law_966 2 rfl rfl ?_
  refine L_arg (i := i) (j := 1) (q0 := 3) (q1 := 0) (pc := 967) (st := [.ref (z1 99)]) hL (by omega) rfl rfl (by decide) dL_law_967 dL_law_968 dL_law_969 dL_law_970 dL_law_971 ?_
  refine L_arg (i := i) (j := 2) (q0 := 3) (q1 := 0) (pc := 972) (st := [.int (xs (i + 1)), .ref (z1 99)]) hL (by omega) rfl rfl (by decide) dL_law_972 dL_law_973 dL_law_974 dL_law_975 dL_law_976 ?_
  refine L_arg (i := i) (j := 3) (q0 := 3) (q1 := 0) (pc := 977) (st := [.int (xs (i + 2)), .int (xs (i + 1)), .ref (z1 99)]) hL (by omega) rfl rfl (by decide) dL_law_977 dL_law_978 dL_law_979 dL_law_980 dL_law_981 ?_
  refine L_call (z := z1) (St' := XS) (Wd' := XW) (wr := MW (zz Z z2) M) (S' := X) (q0 := 0) (ci := 10) (na := 3) (av := [.int (xs (i + 1)), .int (xs (i + 2)), .int (xs (i + 3))]) (st := []) (pc := 982) dL_law_982 (c_X10_replays (zz Z z1) X (xs (i + 1)) (xs (i + 2)) (xs (i + 3)) (Rel_xOK h) (Rel_zOK h)) ⟨tw_629, tw_630, tw_631, tw_632, tw_1, by decide +kernel⟩ rfl rfl rfl rfl rfl (Nat.le_of_ble_eq_true rfl) (Nat.le_of_ble_eq_true rfl) (Nat.le_of_ble_eq_true rfl) (by omega) (by omega) (fun v X' hpx => ?_)
  obtain ⟨r, rfl⟩ := w_replays hpx
  refine L_swap (A := MW (zz Z z2) M) (B := XW (zz Z z1) X') ?_
  refine L_aload_n (pc := 985) (st := [.int r]) dL_law_985 1 rfl rfl ?_
  refine L_arg (i := i) (j := 1) (q0 := 3) (q1 := 0) (pc := 986) (st := [.ref (z2 99), .int r]) hL (by omega) rfl rfl (by decide) dL_law_986 dL_law_987 dL_law_988 dL_law_989 dL_law_990 ?_
  refine L_arg (i := i) (j := 2) (q0 := 3) (q1 := 0) (pc := 991) (st := [.int (xs (i + 1)), .ref (z2 99), .int r]) hL (by omega) rfl rfl (by decide) dL_law_991 dL_law_992 dL_law_993 dL_law_994 dL_law_995 ?_
  refine L_arg (i := i) (j := 3) (q0 := 3) (q1 := 0) (pc := 996) (st := [.int (xs (i + 2)), .int (xs (i + 1)), .ref (z2 99), .int r]) hL (by omega) rfl rfl (by decide) dL_law_996 dL_law_997 dL_law_998 dL_law_999 dL_law_1000 ?_
  refine L_call (z := z2) (St' := MS) (Wd' := MW) (wr := XW (zz Z z1) X') (S' := M) (q0 := 0) (ci := 11) (na := 3) (av := [.int (xs (i + 1)), .int (xs (i + 2)), .int (xs (i + 3))]) (st := [.int r]) (pc := 1001) dL_law_1001 (cM_replays (zz Z z2) M (xs (i + 1)) (xs (i + 2)) (xs (i + 3)) (Rel_mOK h) (Rel_sOK2 h)) ⟨tw_1193, tw_1194, tw_1195, tw_1196, tw_6, by decide +kernel⟩ rfl rfl rfl rfl rfl (Nat.le_of_ble_eq_true rfl) (Nat.le_of_ble_eq_true rfl) (Nat.le_of_ble_eq_true rfl) (by omega) (by omega) (fun v' M' hpm => ?_)
  obtain ⟨r', e1, rfl, hR⟩ := q_replays h hpx hpm
  cases e1
  refine L_swap (A := XW (zz Z z1) X') (B := MW (zz Z z2) M') ?_
  refine L_icmp_eq (x := r) (y := r) (st := []) (tgt := 1542) (pc := 1004) dL_law_1004 (by decide) (fun _ => ?_) (fun hz => absurd rfl hz)
  exact L_widen (by omega) (by omega) (kk X' M' hR)
theorem law_22 {Z : VZ} {z1 z2 : Nat → Nat} {b L : Nat} {xs : Nat → Int32} {n k i : Nat} {X : XS} {M : MS} (hL : L ≤ 3584) (hi : i + 7 ≤ L) (h : Rel X M) (hn : n + 100 ≤ 624007) (hk : k + 1000 ≤ 7230226) (kk : ∀ X' M', Rel X' M' → VL Z b L xs (n + 16) (k + 96) 1542 [(3, .int (nI i)), (2, .ref (z2 99)), (1, .ref (z1 99)), (0, .ref b)] [] (MW (zz Z z2) M' ++ XW (zz Z z1) X')) : VL Z b L xs n k 1009 [(3, .int (nI i)), (2, .ref (z2 99)), (1, .ref (z1 99)), (0, .ref b)] [] (MW (zz Z z2) M ++ XW (zz Z z1) X) := by
  refine L_aload_n (pc := 1009) (st := []) dL_law_1009 2 rfl rfl ?_
  refine L_arg (i := i) (j := 1) (q0 := 3) (q1 := 0) (pc := 1010) (st := [.ref (z1 99)]) hL (by omega) rfl rfl (by decide) dL_law_1010 dL_law_1011 dL_law_1012 dL_law_1013 dL_law_1014 ?_
  refine L_arg (i := i) (j := 2) (q0 := 3) (q1 := 0) (pc := 1015) (st := [.int (xs (i + 1)), .ref (z1 99)]) hL (by omega) rfl rfl (by decide) dL_law_1015 dL_law_1016 dL_law_1017 dL_law_1018 dL_law_1019 ?_
  refine L_arg (i := i) (j := 3) (q0 := 3) (q1 := 0) (pc := 1020) (st := [.int (xs (i + 2)), .int (xs (i + 1)), .ref (z1 99)]) hL (by omega) rfl rfl (by decide) dL_law_1020 dL_law_1021 dL_law_1022 dL_law_1023 dL_law_1024 ?_
  refine L_call (z := z1) (St' := XS) (Wd' := XW) (wr := MW (zz Z z2) M) (S' := X) (q0 := 0) (ci := 10) (na := 3) (av := [.int (xs (i + 1)), .int (xs (i + 2)), .int (xs (i + 3))]) (st := []) (pc := 1025) dL_law_1025 (c_X10_search (zz Z z1) X (xs (i + 1)) (xs (i + 2)) (xs (i + 3)) (Rel_zOK h)) ⟨tw_651, tw_652, tw_653, tw_654, tw_1, by decide +kernel⟩ rfl rfl rfl rfl rfl (Nat.le_of_ble_eq_true rfl) (Nat.le_of_ble_eq_true rfl) (Nat.le_of_ble_eq_true rfl) (by omega) (by omega) (fun v X' hpx => ?_)
  obtain ⟨r, rfl⟩ := w_search hpx
  refine L_swap (A := MW (zz Z z2) M) (B := XW (zz Z z1) X') ?_
  refine L_aload_n (pc := 1028) (st := [.int r]) dL_law_1028 1 rfl rfl ?_
  refine L_arg (i := i) (j := 1) (q0 := 3) (q1 := 0) (pc := 1029) (st := [.ref (z2 99), .int r]) hL (by omega) rfl rfl (by decide) dL_law_1029 dL_law_1030 dL_law_1031 dL_law_1032 dL_law_1033 ?_
  refine L_arg (i := i) (j := 2) (q0 := 3) (q1 := 0) (pc := 1034) (st := [.int (xs (i + 1)), .ref (z2 99), .int r]) hL (by omega) rfl rfl (by decide) dL_law_1034 dL_law_1035 dL_law_1036 dL_law_1037 dL_law_1038 ?_
  refine L_arg (i := i) (j := 3) (q0 := 3) (q1 := 0) (pc := 1039) (st := [.int (xs (i + 2)), .int (xs (i + 1)), .ref (z2 99), .int r]) hL (by omega) rfl rfl (by decide) dL_law_1039 dL_law_1040 dL_law_1041 dL_law_1042 dL_law_1043 ?_
  refine L_call (z := z2) (St' := MS) (Wd' := MW) (wr := XW (zz Z z1) X') (S' := M) (q0 := 0) (ci := 11) (na := 3) (av := [.int (xs (i + 1)), .int (xs (i + 2)), .int (xs (i + 3))]) (st := [.int r]) (pc := 1044) dL_law_1044 (cM_search (zz Z z2) M (xs (i + 1)) (xs (i + 2)) (xs (i + 3)) (Rel_sOK2 h)) ⟨tw_1201, tw_1202, tw_1203, tw_1204, tw_6, by decide +kernel⟩ rfl rfl rfl rfl rfl (Nat.le_of_ble_eq_true rfl) (Nat.le_of_ble_eq_true rfl) (Nat.le_of_ble_eq_true rfl) (by omega) (by omega) (fun v' M' hpm => ?_)
  obtain ⟨r', e1, rfl, hR⟩ := q_search h hpx hpm
  cases e1
  refine L_swap (A := XW (zz Z z1) X') (B := MW (zz Z z2) M') ?_
  refine L_icmp_eq (x := r) (y := r) (st := []) (tgt := 1542) (pc := 1047) dL_law_1047 (by decide) (fun _ => ?_) (fun hz => absurd rfl hz)
  exact L_widen (by omega) (by omega) (kk X' M' hR)
theorem law_23 {Z : VZ} {z1 z2 : Nat → Nat} {b L : Nat} {xs : Nat → Int32} {n k i : Nat} {X : XS} {M : MS} (hL : L ≤ 3584) (hi : i + 7 ≤ L) (h : Rel X M) (hn : n + 100 ≤ 624007) (hk : k + 1000 ≤ 7230226) (kk : ∀ X' M', Rel X' M' → VL Z b L xs (n + 16) (k + 96) 1542 [(3, .int (nI i)), (2, .ref (z2 99)), (1, .ref (z1 99)), (0, .ref b)] [] (MW (zz Z z2) M' ++ XW (zz Z z1) X')) : VL Z b L xs n k 1052 [(3, .int (nI i)), (2, .ref (z2 99)), (1, .ref (z1 99)), (0, .ref b)] [] (MW (zz Z z2) M ++ XW (zz Z z1) X) := by
  refine L_aload_n (pc := 1052) (st := []) dL_law_1052 2 rfl rfl ?_
  refine L_arg (i := i) (j := 1) (q0 := 3) (q1 := 0) (pc := 1053) (st := [.ref (z1 99)]) hL (by omega) rfl rfl (by decide) dL_law_1053 dL_law_1054 dL_law_1055 dL_law_1056 dL_law_1057 ?_
  refine L_arg (i := i) (j := 2) (q0 := 3) (q1 := 0) (pc := 1058) (st := [.int (xs (i + 1)), .ref (z1 99)]) hL (by omega) rfl rfl (by decide) dL_law_1058 dL_law_1059 dL_law_1060 dL_law_1061 dL_law_1062 ?_
  refine L_call (z := z1) (St' := XS) (Wd' := XW) (wr := MW (zz Z z2) M) (S' := X) (q0 := 0) (ci := 10) (na := 2) (av := [.int (xs (i + 1)), .int (xs (i + 2))]) (st := []) (pc := 1063) dL_law_1063 (c_X10_alike (zz Z z1) X (xs (i + 1)) (xs (i + 2)) (Rel_xOK h)) ⟨tw_658, tw_659, tw_660, tw_661, tw_1, by decide +kernel⟩ rfl rfl rfl rfl rfl (Nat.le_of_ble_eq_true rfl) (Nat.le_of_ble_eq_true rfl) (Nat.le_of_ble_eq_true rfl) (by omega) (by omega) (fun v X' hpx => ?_)
  obtain ⟨r, rfl⟩ := w_alike hpx
  refine L_swap (A := MW (zz Z z2) M) (B := XW (zz Z z1) X') ?_
  refine L_aload_n (pc := 1066) (st := [.int r]) dL_law_1066 1 rfl rfl ?_
  refine L_arg (i := i) (j := 1) (q0 := 3) (q1 := 0) (pc := 1067) (st := [.ref (z2 99), .int r]) hL (by omega) rfl rfl (by decide) dL_law_1067 dL_law_1068 dL_law_1069 dL_law_1070 dL_law_1071 ?_
  refine L_arg (i := i) (j := 2) (q0 := 3) (q1 := 0) (pc := 1072) (st := [.int (xs (i + 1)), .ref (z2 99), .int r]) hL (by omega) rfl rfl (by decide) dL_law_1072 dL_law_1073 dL_law_1074 dL_law_1075 dL_law_1076 ?_
  refine L_call (z := z2) (St' := MS) (Wd' := MW) (wr := XW (zz Z z1) X') (S' := M) (q0 := 0) (ci := 11) (na := 2) (av := [.int (xs (i + 1)), .int (xs (i + 2))]) (st := [.int r]) (pc := 1077) dL_law_1077 (cM_alike (zz Z z2) M (xs (i + 1)) (xs (i + 2)) (Rel_mOK h)) ⟨tw_1205, tw_1206, tw_1207, tw_1208, tw_6, by decide +kernel⟩ rfl rfl rfl rfl rfl (Nat.le_of_ble_eq_true rfl) (Nat.le_of_ble_eq_true rfl) (Nat.le_of_ble_eq_true rfl) (by omega) (by omega) (fun v' M' hpm => ?_)
  obtain ⟨r', e1, rfl, hR⟩ := q_alike h hpx hpm
  cases e1
  refine L_swap (A := XW (zz Z z1) X') (B := MW (zz Z z2) M') ?_
  refine L_icmp_eq (x := r) (y := r) (st := []) (tgt := 1542) (pc := 1080) dL_law_1080 (by decide) (fun _ => ?_) (fun hz => absurd rfl hz)
  exact L_widen (by omega) (by omega) (kk X' M' hR)
theorem law_24 {Z : VZ} {z1 z2 : Nat → Nat} {b L : Nat} {xs : Nat → Int32} {n k i : Nat} {X : XS} {M : MS} (hL : L ≤ 3584) (hi : i + 7 ≤ L) (h : Rel X M) (hn : n + 100 ≤ 624007) (hk : k + 1000 ≤ 7230226) (kk : ∀ X' M', Rel X' M' → VL Z b L xs (n + 16) (k + 96) 1542 [(3, .int (nI i)), (2, .ref (z2 99)), (1, .ref (z1 99)), (0, .ref b)] [] (MW (zz Z z2) M' ++ XW (zz Z z1) X')) : VL Z b L xs n k 1085 [(3, .int (nI i)), (2, .ref (z2 99)), (1, .ref (z1 99)), (0, .ref b)] [] (MW (zz Z z2) M ++ XW (zz Z z1) X) := by
  refine L_aload_n (pc := 1085) (st := []) dL_law_1085 2 rfl rfl ?_
  refine L_arg (i := i) (j := 1) (q0 := 3) (q1 := 0) (pc := 1086) (st := [.ref (z1 99)]) hL (by omega) rfl rfl (by decide) dL_law_1086 dL_law_1087 dL_law_1088 dL_law_1089 dL_law_1090 ?_
  refine L_arg (i := i) (j := 2) (q0 := 3) (q1 := 0) (pc := 1091) (st := [.int (xs (i + 1)), .ref (z1 99)]) hL (by omega) rfl rfl (by decide) dL_law_1091 dL_law_1092 dL_law_1093 dL_law_1094 dL_law_1095 ?_
  refine L_arg (i := i) (j := 3) (q0 := 3) (q1 := 0) (pc := 1096) (st := [.int (xs (i + 2)), .int (xs (i + 1)), .ref (z1 99)]) hL (by omega) rfl rfl (by decide) dL_law_1096 dL_law_1097 dL_law_1098 dL_law_1099 dL_law_1100 ?_
  refine L_call (z := z1) (St' := XS) (Wd' := XW) (wr := MW (zz Z z2) M) (S' := X) (q0 := 0) (ci := 10) (na := 3) (av := [.int (xs (i + 1)), .int (xs (i + 2)), .int (xs (i + 3))]) (st := []) (pc := 1101) dL_law_1101 (c_X10_drawn (zz Z z1) X (xs (i + 1)) (xs (i + 2)) (xs (i + 3)) (Rel_zOK h)) ⟨tw_662, tw_663, tw_664, tw_665, tw_1, by decide +kernel⟩ rfl rfl rfl rfl rfl (Nat.le_of_ble_eq_true rfl) (Nat.le_of_ble_eq_true rfl) (Nat.le_of_ble_eq_true rfl) (by omega) (by omega) (fun v X' hpx => ?_)
  obtain ⟨r, rfl⟩ := w_drawn hpx
  refine L_swap (A := MW (zz Z z2) M) (B := XW (zz Z z1) X') ?_
  refine L_aload_n (pc := 1104) (st := [.int r]) dL_law_1104 1 rfl rfl ?_
  refine L_arg (i := i) (j := 1) (q0 := 3) (q1 := 0) (pc := 1105) (st := [.ref (z2 99), .int r]) hL (by omega) rfl rfl (by decide) dL_law_1105 dL_law_1106 dL_law_1107 dL_law_1108 dL_law_1109 ?_
  refine L_arg (i := i) (j := 2) (q0 := 3) (q1 := 0) (pc := 1110) (st := [.int (xs (i + 1)), .ref (z2 99), .int r]) hL (by omega) rfl rfl (by decide) dL_law_1110 dL_law_1111 dL_law_1112 dL_law_1113 dL_law_1114 ?_
  refine L_arg (i := i) (j := 3) (q0 := 3) (q1 := 0) (pc := 1115) (st := [.int (xs (i + 2)), .int (xs (i + 1)), .ref (z2 99), .int r]) hL (by omega) rfl rfl (by decide) dL_law_1115 dL_law_1116 dL_law_1117 dL_law_1118 dL_law_1119 ?_
  refine L_call (z := z2) (St' := MS) (Wd' := MW) (wr := XW (zz Z z1) X') (S' := M) (q0 := 0) (ci := 11) (na := 3) (av := [.int (xs (i + 1)), .int (xs (i + 2)), .int (xs (i + 3))]) (st := [.int r]) (pc := 1120) dL_law_1120 (cM_drawn (zz Z z2) M (xs (i + 1)) (xs (i + 2)) (xs (i + 3)) (Rel_sOK2 h)) ⟨tw_1209, tw_1210, tw_1211, tw_1212, tw_6, by decide +kernel⟩ rfl rfl rfl rfl rfl (Nat.le_of_ble_eq_true rfl) (Nat.le_of_ble_eq_true rfl) (Nat.le_of_ble_eq_true rfl) (by omega) (by omega) (fun v' M' hpm => ?_)
  obtain ⟨r', e1, rfl, hR⟩ := q_drawn h hpx hpm
  cases e1
  refine L_swap (A := XW (zz Z z1) X') (B := MW (zz Z z2) M') ?_
  refine L_icmp_eq (x := r) (y := r) (st := []) (tgt := 1542) (pc := 1123) dL_law_1123 (by decide) (fun _ => ?_) (fun hz => absurd rfl hz)
  exact L_widen (by omega) (by omega) (kk X' M' hR)
theorem law_25 {Z : VZ} {z1 z2 : Nat → Nat} {b L : Nat} {xs : Nat → Int32} {n k i : Nat} {X : XS} {M : MS} (hL : L ≤ 3584) (hi : i + 7 ≤ L) (h : Rel X M) (hn : n + 100 ≤ 624007) (hk : k + 1000 ≤ 7230226) (kk : ∀ X' M', Rel X' M' → VL Z b L xs (n + 16) (k + 96) 1542 [(3, .int (nI i)), (2, .ref (z2 99)), (1, .ref (z1 99)), (0, .ref b)] [] (MW (zz Z z2) M' ++ XW (zz Z z1) X')) : VL Z b L xs n k 1128 [(3, .int (nI i)), (2, .ref (z2 99)), (1, .ref (z1 99)), (0, .ref b)] [] (MW (zz Z z2) M ++ XW (zz Z z1) X) := by
  refine L_aload_n (pc := 1128) (st := []) dL_law_1128 2 rfl rfl ?_
  refine L_arg (i := i) (j := 1) (q0 := 3) (q1 := 0) (pc := 1129) (st := [.ref (z1 99)]) hL (by omega) rfl rfl (by decide) dL_law_1129 dL_law_1130 dL_law_1131 dL_law_1132 dL_law_1133 ?_
  refine L_arg (i := i) (j := 2) (q0 := 3) (q1 := 0) (pc := 1134) (st := [.int (xs (i + 1)), .ref (z1 99)]) hL (by omega) rfl rfl (by decide) dL_law_1134 dL_law_1135 dL_law_1136 dL_law_1137 dL_law_1138 ?_
  refine L_arg (i := i) (j := 3) (q0 := 3) (q1 := 0) (pc := 1139) (st := [.int (xs (i + 2)), .int (xs (i + 1)), .ref (z1 99)]) hL (by omega) rfl rfl (by decide) dL_law_1139 dL_law_1140 dL_law_1141 dL_law_1142 dL_law_1143 ?_
  refine L_arg (i := i) (j := 4) (q0 := 3) (q1 := 0) (pc := 1144) (st := [.int (xs (i + 3)), .int (xs (i + 2)), .int (xs (i + 1)), .ref (z1 99)]) hL (by omega) rfl rfl (by decide) dL_law_1144 dL_law_1145 dL_law_1146 dL_law_1147 dL_law_1148 ?_
  refine L_arg (i := i) (j := 5) (q0 := 3) (q1 := 0) (pc := 1149) (st := [.int (xs (i + 4)), .int (xs (i + 3)), .int (xs (i + 2)), .int (xs (i + 1)), .ref (z1 99)]) hL (by omega) rfl rfl (by decide) dL_law_1149 dL_law_1150 dL_law_1151 dL_law_1152 dL_law_1153 ?_
  refine L_arg6 (i := i) (j := 6) (q0 := 3) (q1 := 0) (pc := 1154) (st := [.int (xs (i + 5)), .int (xs (i + 4)), .int (xs (i + 3)), .int (xs (i + 2)), .int (xs (i + 1)), .ref (z1 99)]) hL (by omega) rfl rfl (by decide) dL_law_1154 dL_law_1155 dL_law_1156 dL_law_1158 dL_law_1159 ?_
  refine L_call (z := z1) (St' := XS) (Wd' := XW) (wr := MW (zz Z z2) M) (S' := X) (q0 := 0) (ci := 10) (na := 6) (av := [.int (xs (i + 1)), .int (xs (i + 2)), .int (xs (i + 3)), .int (xs (i + 4)), .int (xs (i + 5)), .int (xs (i + 6))]) (st := []) (pc := 1160) dL_law_1160 (c_X10_chance (zz Z z1) X (xs (i + 1)) (xs (i + 2)) (xs (i + 3)) (xs (i + 4)) (xs (i + 5)) (xs (i + 6)) (Rel_zOK h)) ⟨tw_670, tw_671, tw_672, tw_673, tw_1, by decide +kernel⟩ rfl rfl rfl rfl rfl (Nat.le_of_ble_eq_true rfl) (Nat.le_of_ble_eq_true rfl) (Nat.le_of_ble_eq_true rfl) (by omega) (by omega) (fun v X' hpx => ?_)
  obtain ⟨r, rfl⟩ := w_chance hpx
  refine L_swap (A := MW (zz Z z2) M) (B := XW (zz Z z1) X') ?_
  refine L_aload_n (pc := 1163) (st := [.int r]) dL_law_1163 1 rfl rfl ?_
  refine L_arg (i := i) (j := 1) (q0 := 3) (q1 := 0) (pc := 1164) (st := [.ref (z2 99), .int r]) hL (by omega) rfl rfl (by decide) dL_law_1164 dL_law_1165 dL_law_1166 dL_law_1167 dL_law_1168 ?_
  refine L_arg (i := i) (j := 2) (q0 := 3) (q1 := 0) (pc := 1169) (st := [.int (xs (i + 1)), .ref (z2 99), .int r]) hL (by omega) rfl rfl (by decide) dL_law_1169 dL_law_1170 dL_law_1171 dL_law_1172 dL_law_1173 ?_
  refine L_arg (i := i) (j := 3) (q0 := 3) (q1 := 0) (pc := 1174) (st := [.int (xs (i + 2)), .int (xs (i + 1)), .ref (z2 99), .int r]) hL (by omega) rfl rfl (by decide) dL_law_1174 dL_law_1175 dL_law_1176 dL_law_1177 dL_law_1178 ?_
  refine L_arg (i := i) (j := 4) (q0 := 3) (q1 := 0) (pc := 1179) (st := [.int (xs (i + 3)), .int (xs (i + 2)), .int (xs (i + 1)), .ref (z2 99), .int r]) hL (by omega) rfl rfl (by decide) dL_law_1179 dL_law_1180 dL_law_1181 dL_law_1182 dL_law_1183 ?_
  refine L_arg (i := i) (j := 5) (q0 := 3) (q1 := 0) (pc := 1184) (st := [.int (xs (i + 4)), .int (xs (i + 3)), .int (xs (i + 2)), .int (xs (i + 1)), .ref (z2 99), .int r]) hL (by omega) rfl rfl (by decide) dL_law_1184 dL_law_1185 dL_law_1186 dL_law_1187 dL_law_1188 ?_
  refine L_arg6 (i := i) (j := 6) (q0 := 3) (q1 := 0) (pc := 1189) (st := [.int (xs (i + 5)), .int (xs (i + 4)), .int (xs (i + 3)), .int (xs (i + 2)), .int (xs (i + 1)), .ref (z2 99), .int r]) hL (by omega) rfl rfl (by decide) dL_law_1189 dL_law_1190 dL_law_1191 dL_law_1193 dL_law_1194 ?_
  refine L_call (z := z2) (St' := MS) (Wd' := MW) (wr := XW (zz Z z1) X') (S' := M) (q0 := 0) (ci := 11) (na := 6) (av := [.int (xs (i + 1)), .int (xs (i + 2)), .int (xs (i + 3)), .int (xs (i + 4)), .int (xs (i + 5)), .int (xs (i + 6))]) (st := [.int r]) (pc := 1195) dL_law_1195 (cM_chance (zz Z z2) M (xs (i + 1)) (xs (i + 2)) (xs (i + 3)) (xs (i + 4)) (xs (i + 5)) (xs (i + 6)) (Rel_sOK2 h)) ⟨tw_1218, tw_1219, tw_1220, tw_1221, tw_6, by decide +kernel⟩ rfl rfl rfl rfl rfl (Nat.le_of_ble_eq_true rfl) (Nat.le_of_ble_eq_true rfl) (Nat.le_of_ble_eq_true rfl) (by omega) (by omega) (fun v' M' hpm => ?_)
  obtain ⟨r', e1, rfl, hR⟩ := q_chance h hpx hpm
  cases e1
  refine L_swap (A := XW (zz Z z1) X') (B := MW (zz Z z2) M') ?_
  refine L_icmp_eq (x := r) (y := r) (st := []) (tgt := 1542) (pc := 1198) dL_law_1198 (by decide) (fun _ => ?_) (fun hz => absurd rfl hz)
  exact L_widen (by omega) (by omega) (kk X' M' hR)
theorem law_26 {Z : VZ} {z1 z2 : Nat → Nat} {b L : Nat} {xs : Nat → Int32} {n k i : Nat} {X : XS} {M : MS} (hL : L ≤ 3584) (hi : i + 7 ≤ L) (h : Rel X M) (hn : n + 100 ≤ 624007) (hk : k + 1000 ≤ 7230226) (kk : ∀ X' M', Rel X' M' → VL Z b L xs (n + 16) (k + 96) 1542 [(3, .int (nI i)), (2, .ref (z2 99)), (1, .ref (z1 99)), (0, .ref b)] [] (MW (zz Z z2) M' ++ XW (zz Z z1) X')) : VL Z b L xs n k 1203 [(3, .int (nI i)), (2, .ref (z2 99)), (1, .ref (z1 99)), (0, .ref b)] [] (MW (zz Z z2) M ++ XW (zz Z z1) X) := by
  obtain ⟨T_, t1, t2, t3, t4, t5⟩ := h.2.2.2
  refine L_aload_n (pc := 1203) (st := []) dL_law_1203 2 rfl rfl ?_
  refine L_arg (i := i) (j := 1) (q0 := 3) (q1 := 0) (pc := 1204) (st := [.ref (z1 99)]) hL (by omega) rfl rfl (by decide) dL_law_1204 dL_law_1205 dL_law_1206 dL_law_1207 dL_law_1208 ?_
  refine L_arg (i := i) (j := 2) (q0 := 3) (q1 := 0) (pc := 1209) (st := [.int (xs (i + 1)), .ref (z1 99)]) hL (by omega) rfl rfl (by decide) dL_law_1209 dL_law_1210 dL_law_1211 dL_law_1212 dL_law_1213 ?_
  refine L_arg (i := i) (j := 3) (q0 := 3) (q1 := 0) (pc := 1214) (st := [.int (xs (i + 2)), .int (xs (i + 1)), .ref (z1 99)]) hL (by omega) rfl rfl (by decide) dL_law_1214 dL_law_1215 dL_law_1216 dL_law_1217 dL_law_1218 ?_
  refine L_arg (i := i) (j := 4) (q0 := 3) (q1 := 0) (pc := 1219) (st := [.int (xs (i + 3)), .int (xs (i + 2)), .int (xs (i + 1)), .ref (z1 99)]) hL (by omega) rfl rfl (by decide) dL_law_1219 dL_law_1220 dL_law_1221 dL_law_1222 dL_law_1223 ?_
  refine L_arg (i := i) (j := 5) (q0 := 3) (q1 := 0) (pc := 1224) (st := [.int (xs (i + 4)), .int (xs (i + 3)), .int (xs (i + 2)), .int (xs (i + 1)), .ref (z1 99)]) hL (by omega) rfl rfl (by decide) dL_law_1224 dL_law_1225 dL_law_1226 dL_law_1227 dL_law_1228 ?_
  refine L_arg6 (i := i) (j := 6) (q0 := 3) (q1 := 0) (pc := 1229) (st := [.int (xs (i + 5)), .int (xs (i + 4)), .int (xs (i + 3)), .int (xs (i + 2)), .int (xs (i + 1)), .ref (z1 99)]) hL (by omega) rfl rfl (by decide) dL_law_1229 dL_law_1230 dL_law_1231 dL_law_1233 dL_law_1234 ?_
  refine L_call (z := z1) (St' := XS) (Wd' := XW) (wr := MW (zz Z z2) M) (S' := X) (q0 := 0) (ci := 10) (na := 6) (av := [.int (xs (i + 1)), .int (xs (i + 2)), .int (xs (i + 3)), .int (xs (i + 4)), .int (xs (i + 5)), .int (xs (i + 6))]) (st := []) (pc := 1235) dL_law_1235 (c_X10_feed (zz Z z1) X T_ (xs (i + 1)) (xs (i + 2)) (xs (i + 3)) (xs (i + 4)) (xs (i + 5)) (xs (i + 6)) t2 t1) ⟨tw_674, tw_675, tw_676, tw_677, tw_1, by decide +kernel⟩ rfl rfl rfl rfl rfl (Nat.le_of_ble_eq_true rfl) (Nat.le_of_ble_eq_true rfl) (Nat.le_of_ble_eq_true rfl) (by omega) (by omega) (fun v X' hpx => ?_)
  obtain ⟨r, rfl⟩ := w_feed hpx
  refine L_swap (A := MW (zz Z z2) M) (B := XW (zz Z z1) X') ?_
  refine L_aload_n (pc := 1238) (st := [.int r]) dL_law_1238 1 rfl rfl ?_
  refine L_arg (i := i) (j := 1) (q0 := 3) (q1 := 0) (pc := 1239) (st := [.ref (z2 99), .int r]) hL (by omega) rfl rfl (by decide) dL_law_1239 dL_law_1240 dL_law_1241 dL_law_1242 dL_law_1243 ?_
  refine L_arg (i := i) (j := 2) (q0 := 3) (q1 := 0) (pc := 1244) (st := [.int (xs (i + 1)), .ref (z2 99), .int r]) hL (by omega) rfl rfl (by decide) dL_law_1244 dL_law_1245 dL_law_1246 dL_law_1247 dL_law_1248 ?_
  refine L_arg (i := i) (j := 3) (q0 := 3) (q1 := 0) (pc := 1249) (st := [.int (xs (i + 2)), .int (xs (i + 1)), .ref (z2 99), .int r]) hL (by omega) rfl rfl (by decide) dL_law_1249 dL_law_1250 dL_law_1251 dL_law_1252 dL_law_1253 ?_
  refine L_arg (i := i) (j := 4) (q0 := 3) (q1 := 0) (pc := 1254) (st := [.int (xs (i + 3)), .int (xs (i + 2)), .int (xs (i + 1)), .ref (z2 99), .int r]) hL (by omega) rfl rfl (by decide) dL_law_1254 dL_law_1255 dL_law_1256 dL_law_1257 dL_law_1258 ?_
  refine L_arg (i := i) (j := 5) (q0 := 3) (q1 := 0) (pc := 1259) (st := [.int (xs (i + 4)), .int (xs (i + 3)), .int (xs (i + 2)), .int (xs (i + 1)), .ref (z2 99), .int r]) hL (by omega) rfl rfl (by decide) dL_law_1259 dL_law_1260 dL_law_1261 dL_law_1262 dL_law_1263 ?_
  refine L_arg6 (i := i) (j := 6) (q0 := 3) (q1 := 0) (pc := 1264) (st := [.int (xs (i + 5)), .int (xs (i + 4)), .int (xs (i + 3)), .int (xs (i + 2)), .int (xs (i + 1)), .ref (z2 99), .int r]) hL (by omega) rfl rfl (by decide) dL_law_1264 dL_law_1265 dL_law_1266 dL_law_1268 dL_law_1269 ?_
  refine L_call (z := z2) (St' := MS) (Wd' := MW) (wr := XW (zz Z z1) X') (S' := M) (q0 := 0) (ci := 11) (na := 6) (av := [.int (xs (i + 1)), .int (xs (i + 2)), .int (xs (i + 3)), .int (xs (i + 4)), .int (xs (i + 5)), .int (xs (i + 6))]) (st := [.int r]) (pc := 1270) dL_law_1270 (cM_feed (zz Z z2) M (xs (i + 1)) (xs (i + 2)) (xs (i + 3)) (xs (i + 4)) (xs (i + 5)) (xs (i + 6)) (Rel_tOK h)) ⟨tw_1222, tw_1223, tw_1224, tw_1225, tw_6, by decide +kernel⟩ rfl rfl rfl rfl rfl (Nat.le_of_ble_eq_true rfl) (Nat.le_of_ble_eq_true rfl) (Nat.le_of_ble_eq_true rfl) (by omega) (by omega) (fun v' M' hpm => ?_)
  obtain ⟨r', e1, rfl, hR⟩ := q_feed t2 t1 h hpx hpm
  cases e1
  refine L_swap (A := XW (zz Z z1) X') (B := MW (zz Z z2) M') ?_
  refine L_icmp_eq (x := r) (y := r) (st := []) (tgt := 1542) (pc := 1273) dL_law_1273 (by decide) (fun _ => ?_) (fun hz => absurd rfl hz)
  exact L_widen (by omega) (by omega) (kk X' M' hR)
theorem law_27 {Z : VZ} {z1 z2 : Nat → Nat} {b L : Nat} {xs : Nat → Int32} {n k i : Nat} {X : XS} {M : MS} (hL : L ≤ 3584) (hi : i + 7 ≤ L) (h : Rel X M) (hz1 : ∀ k, 100 ≤ k → z1 k = Z.2.2.2 k) (hz2 : ∀ k, 100 ≤ k → z2 k = Z.2.2.2 k) (hn : n + 100 ≤ 624007) (hk : k + 1000 ≤ 7230226) (kk : ∀ X' M', Rel X' M' → VL Z b L xs (n + 16) (k + 96) 1542 [(3, .int (nI i)), (2, .ref (z2 99)), (1, .ref (z1 99)), (0, .ref b)] [] (MW (zz Z z2) M' ++ XW (zz Z z1) X')) : VL Z b L xs n k 1278 [(3, .int (nI i)), (2, .ref (z2 99)), (1, .ref (z1 99)), (0, .ref b)] [] (MW (zz Z z2) M ++ XW (zz Z z1) X) := by
  obtain ⟨T_, t1, t2, t3, t4, t5⟩ := h.2.2.2
  refine L_aload_n (pc := 1278) (st := []) dL_law_1278 2 rfl rfl ?_
  refine L_callS (z := z1) (St' := XS) (Wd' := XW) (hz1) (wr := MW (zz Z z2) M) (S' := X) (q0 := 0) (ci := 10) (na := 0) (av := []) (st := []) (pc := 1279) dL_law_1279 (c_X10_text (zz Z z1) X T_ t2 t1 (fun i hi => by rw [t4]; exact t5 i hi) (Rel_xOK h)) ⟨tw_689, tw_690, tw_691, tw_692, tw_1, by decide +kernel⟩ rfl rfl rfl rfl rfl (Nat.le_of_ble_eq_true rfl) (Nat.le_of_ble_eq_true rfl) (Nat.le_of_ble_eq_true rfl) (by omega) (by omega) (fun v X' hpx => ?_)
  obtain ⟨r, rfl⟩ := w_text hpx
  refine L_swap (A := MW (zz Z z2) M) (B := XW (zz Z z1) X') ?_
  refine L_aload_n (pc := 1282) (st := [.int r]) dL_law_1282 1 rfl rfl ?_
  refine L_callS (z := z2) (St' := MS) (Wd' := MW) (hz2) (wr := XW (zz Z z1) X') (S' := M) (q0 := 0) (ci := 11) (na := 0) (av := []) (st := [.int r]) (pc := 1283) dL_law_1283 (cM_text (zz Z z2) M T_ t3 t1 (Rel_mOK h)) ⟨tw_1226, tw_1227, tw_1228, tw_1229, tw_6, by decide +kernel⟩ rfl rfl rfl rfl rfl (Nat.le_of_ble_eq_true rfl) (Nat.le_of_ble_eq_true rfl) (Nat.le_of_ble_eq_true rfl) (by omega) (by omega) (fun v' M' hpm => ?_)
  obtain ⟨r', e1, rfl, hR⟩ := q_text (L_ := T_) h hpx hpm
  cases e1
  refine L_swap (A := XW (zz Z z1) X') (B := MW (zz Z z2) M') ?_
  refine L_icmp_eq (x := r) (y := r) (st := []) (tgt := 1542) (pc := 1286) dL_law_1286 (by decide) (fun _ => ?_) (fun hz => absurd rfl hz)
  exact L_widen (by omega) (by omega) (kk X' M' hR)
