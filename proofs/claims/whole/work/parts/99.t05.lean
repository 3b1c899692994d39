theorem Rel_0 : Rel xS0 mS0 := by
  refine ⟨⟨0, by decide, rfl, rfl, fun _ => 0, fun i hi => absurd hi (Nat.not_lt_zero _), fun i hi => absurd hi (Nat.not_lt_zero _)⟩, Or.inl ⟨rfl, rfl⟩, fun a ha => ?_, ⟨0, by decide, rfl, rfl, rfl, fun i hi => absurd hi (Nat.not_lt_zero _)⟩⟩
  rcases l4 ha with rfl | rfl | rfl | rfl
  · exact ⟨rfl, rfl, Or.inl rfl, ⟨0, by decide, rfl⟩, fun j hj => rfl⟩
  · exact ⟨rfl, rfl, Or.inl rfl, ⟨0, by decide, rfl⟩, fun j hj => rfl⟩
  · exact ⟨rfl, rfl, Or.inl rfl, ⟨0, by decide, rfl⟩, fun j hj => rfl⟩
  · exact ⟨rfl, rfl, Or.inl rfl, ⟨0, by decide, rfl⟩, fun j hj => rfl⟩
theorem law_sw {Z : VZ} {z1 z2 : Nat → Nat} {b L : Nat} {xs : Nat → Int32} {n k i : Nat} {X : XS} {M : MS} (hL : L ≤ 3584) (hi : i + 7 ≤ L) (h : Rel X M) (hz1 : ∀ k, 100 ≤ k → z1 k = Z.2.2.2 k) (hz2 : ∀ k, 100 ≤ k → z2 k = Z.2.2.2 k) (hn : n + 100 ≤ 624007) (hk : k + 1000 ≤ 7230226) (kk : ∀ X' M', Rel X' M' → VL Z b L xs (n + 16) (k + 96) 1542 [(3, .int (nI i)), (2, .ref (z2 99)), (1, .ref (z1 99)), (0, .ref b)] [] (MW (zz Z z2) M' ++ XW (zz Z z1) X')) : VL Z b L xs n k 27 [(3, .int (nI i)), (2, .ref (z2 99)), (1, .ref (z1 99)), (0, .ref b)] [] (MW (zz Z z2) M ++ XW (zz Z z1) X) := by
  refine L_aload_n (pc := 27) dL_law_27 3 rfl rfl ?_
  refine L_iload_n (pc := 28) dL_law_28 0 rfl rfl ?_
  refine L_sld (pc := 29) (i := i) (by omega) (by omega) dL_law_29 ?_
  refine L_bipush (v := 63) (pc := 30) dL_law_30 (by decide) ?_
  refine L_iand (pc := 32) dL_law_32 ?_
  obtain ⟨c, hc, e⟩ := pk_andE (xs i) (m := 63) 6 rfl
  rw [e]
  by_cases g : 34 < c
  · refine L_tableOut (tgt := 1542) (pc := 33) dL_law_33 (Or.inr (by rw [nI_toInt (by omega)]; omega)) (by decide) ?_
    exact L_widen (by omega) (by omega) (kk X M h)
  · rcases (show c = 0 ∨ c = 1 ∨ c = 2 ∨ c = 3 ∨ c = 4 ∨ c = 5 ∨ c = 6 ∨ c = 7 ∨ c = 8 ∨ c = 9 ∨ c = 10 ∨ c = 11 ∨ c = 12 ∨ c = 13 ∨ c = 14 ∨ c = 15 ∨ c = 16 ∨ c = 17 ∨ c = 18 ∨ c = 19 ∨ c = 20 ∨ c = 21 ∨ c = 22 ∨ c = 23 ∨ c = 24 ∨ c = 25 ∨ c = 26 ∨ c = 27 ∨ c = 28 ∨ c = 29 ∨ c = 30 ∨ c = 31 ∨ c = 32 ∨ c = 33 ∨ c = 34 by omega) with rfl | rfl | rfl | rfl | rfl | rfl | rfl | rfl | rfl | rfl | rfl | rfl | rfl | rfl | rfl | rfl | rfl | rfl | rfl | rfl | rfl | rfl | rfl | rfl | rfl | rfl | rfl | rfl | rfl | rfl | rfl | rfl | rfl | rfl | rfl
    · exact L_tableIn (tgt := 188) (off := 155) (pc := 33) dL_law_33 (by decide) (by decide) rfl (by decide) (law_0 hL hi h hn hk kk)
    · exact L_tableIn (tgt := 241) (off := 208) (pc := 33) dL_law_33 (by decide) (by decide) rfl (by decide) (law_1 hL hi h hn hk kk)
    · exact L_tableIn (tgt := 254) (off := 221) (pc := 33) dL_law_33 (by decide) (by decide) rfl (by decide) (law_2 hL hi h hn hk kk)
    · exact L_tableIn (tgt := 297) (off := 264) (pc := 33) dL_law_33 (by decide) (by decide) rfl (by decide) (law_3 hL hi h hn hk kk)
    · exact L_tableIn (tgt := 330) (off := 297) (pc := 33) dL_law_33 (by decide) (by decide) rfl (by decide) (law_4 hL hi h hn hk kk)
    · exact L_tableIn (tgt := 363) (off := 330) (pc := 33) dL_law_33 (by decide) (by decide) rfl (by decide) (law_5 hL hi h hn hk kk)
    · exact L_tableIn (tgt := 396) (off := 363) (pc := 33) dL_law_33 (by decide) (by decide) rfl (by decide) (law_6 hL hi h hn hk kk)
    · exact L_tableIn (tgt := 439) (off := 406) (pc := 33) dL_law_33 (by decide) (by decide) rfl (by decide) (law_7 hL hi h hn hk kk)
    · exact L_tableIn (tgt := 482) (off := 449) (pc := 33) dL_law_33 (by decide) (by decide) rfl (by decide) (law_8 hL hi h hn hk kk)
    · exact L_tableIn (tgt := 535) (off := 502) (pc := 33) dL_law_33 (by decide) (by decide) rfl (by decide) (law_9 hL hi h hn hk kk)
    · exact L_tableIn (tgt := 559) (off := 526) (pc := 33) dL_law_33 (by decide) (by decide) rfl (by decide) (law_10 hL hi h hn hk kk)
    · exact L_tableIn (tgt := 612) (off := 579) (pc := 33) dL_law_33 (by decide) (by decide) rfl (by decide) (law_11 hL hi h hn hk kk)
    · exact L_tableIn (tgt := 655) (off := 622) (pc := 33) dL_law_33 (by decide) (by decide) rfl (by decide) (law_12 hL hi h hn hk kk)
    · exact L_tableIn (tgt := 689) (off := 656) (pc := 33) dL_law_33 (by decide) (by decide) rfl (by decide) (law_13 hL hi h hn hk kk)
    · exact L_tableIn (tgt := 723) (off := 690) (pc := 33) dL_law_33 (by decide) (by decide) rfl (by decide) (law_14 hL hi h hn hk kk)
    · exact L_tableIn (tgt := 746) (off := 713) (pc := 33) dL_law_33 (by decide) (by decide) rfl (by decide) (law_15 hL hi h hn hk kk)
    · exact L_tableIn (tgt := 779) (off := 746) (pc := 33) dL_law_33 (by decide) (by decide) rfl (by decide) (law_16 hL hi h hn hk kk)
    · exact L_tableIn (tgt := 813) (off := 780) (pc := 33) dL_law_33 (by decide) (by decide) rfl (by decide) (law_17 hL hi h hn hk kk)
    · exact L_tableIn (tgt := 857) (off := 824) (pc := 33) dL_law_33 (by decide) (by decide) rfl (by decide) (law_18 hL hi h hn hk kk)
    · exact L_tableIn (tgt := 880) (off := 847) (pc := 33) dL_law_33 (by decide) (by decide) rfl (by decide) (law_19 hL hi h hn hk kk)
    · exact L_tableIn (tgt := 923) (off := 890) (pc := 33) dL_law_33 (by decide) (by decide) rfl (by decide) (law_20 hL hi h hn hk kk)
    · exact L_tableIn (tgt := 966) (off := 933) (pc := 33) dL_law_33 (by decide) (by decide) rfl (by decide) (law_21 hL hi h hn hk kk)
    · exact L_tableIn (tgt := 1009) (off := 976) (pc := 33) dL_law_33 (by decide) (by decide) rfl (by decide) (law_22 hL hi h hn hk kk)
    · exact L_tableIn (tgt := 1052) (off := 1019) (pc := 33) dL_law_33 (by decide) (by decide) rfl (by decide) (law_23 hL hi h hn hk kk)
    · exact L_tableIn (tgt := 1085) (off := 1052) (pc := 33) dL_law_33 (by decide) (by decide) rfl (by decide) (law_24 hL hi h hn hk kk)
    · exact L_tableIn (tgt := 1128) (off := 1095) (pc := 33) dL_law_33 (by decide) (by decide) rfl (by decide) (law_25 hL hi h hn hk kk)
    · exact L_tableIn (tgt := 1203) (off := 1170) (pc := 33) dL_law_33 (by decide) (by decide) rfl (by decide) (law_26 hL hi h hn hk kk)
    · exact L_tableIn (tgt := 1278) (off := 1245) (pc := 33) dL_law_33 (by decide) (by decide) rfl (by decide) (law_27 hL hi h hz1 hz2 hn hk kk)
    · exact L_tableIn (tgt := 1291) (off := 1258) (pc := 33) dL_law_33 (by decide) (by decide) rfl (by decide) (law_28 hL hi h hn hk kk)
    · exact L_tableIn (tgt := 1304) (off := 1271) (pc := 33) dL_law_33 (by decide) (by decide) rfl (by decide) (law_29 hL hi h hn hk kk)
    · exact L_tableIn (tgt := 1317) (off := 1284) (pc := 33) dL_law_33 (by decide) (by decide) rfl (by decide) (law_30 hL hi h hn hk kk)
    · exact L_tableIn (tgt := 1370) (off := 1337) (pc := 33) dL_law_33 (by decide) (by decide) rfl (by decide) (law_31 hL hi h hn hk kk)
    · exact L_tableIn (tgt := 1393) (off := 1360) (pc := 33) dL_law_33 (by decide) (by decide) rfl (by decide) (law_32 hL hi h hn hk kk)
    · exact L_tableIn (tgt := 1436) (off := 1403) (pc := 33) dL_law_33 (by decide) (by decide) rfl (by decide) (law_33 hL hi h hn hk kk)
    · exact L_tableIn (tgt := 1479) (off := 1446) (pc := 33) dL_law_33 (by decide) (by decide) rfl (by decide) (law_34 hL hi h hn hk kk)
theorem gt7 {L i : Nat} (hL : L ≤ 3584) (hi : i ≤ 3600) : nI L - 7 < nI i ↔ L < i + 7 := by
  have e7 : (7 : Int32).toInt = 7 := rfl
  rw [Int32.lt_iff_toInt_lt, Int32.toInt_sub, nI_toInt (by omega), nI_toInt (by omega), e7, Int.bmod_eq_of_le (by omega) (by omega)]
  omega
theorem law_loop {Z : VZ} {z1 z2 : Nat → Nat} {b L : Nat} {xs : Nat → Int32} (hL : L ≤ 3584) (hz1 : ∀ k, 100 ≤ k → z1 k = Z.2.2.2 k) (hz2 : ∀ k, 100 ≤ k → z2 k = Z.2.2.2 k) : ∀ (f j n k : Nat) (X : XS) (M : MS), L ≤ 7 * j + 7 * f → 7 * j ≤ L → n = 40 + 16 * j → k = 1500 + 96 * j → Rel X M → VL Z b L xs n k 18 [(3, .int (nI (7 * j))), (2, .ref (z2 99)), (1, .ref (z1 99)), (0, .ref b)] [] (MW (zz Z z2) M ++ XW (zz Z z1) X) := by
  intro f
  induction f with
  | zero =>
    intro j n k X M h1 h2 en ek h
    refine L_iload_n (pc := 18) dL_law_18 0 rfl rfl ?_
    refine L_aload_n (pc := 19) dL_law_19 3 rfl rfl ?_
    refine L_slen (pc := 20) dL_law_20 ?_
    refine L_bipush (v := 7) (pc := 21) dL_law_21 (by decide) ?_
    refine L_isub (pc := 23) dL_law_23 ?_
    refine L_icmp_gt (tgt := 1548) (pc := 24) dL_law_24 (by decide) (fun _ => ?_) (fun g => absurd ((gt7 hL (by omega)).mpr (by omega)) g)
    refine L_iconst (v := 1) (pc := 1548) dL_law_1548 (by decide) ?_
    exact L_end (by omega) (by omega) dL_law_1549
  | succ f ih =>
    intro j n k X M h1 h2 en ek h
    refine L_iload_n (pc := 18) dL_law_18 0 rfl rfl ?_
    refine L_aload_n (pc := 19) dL_law_19 3 rfl rfl ?_
    refine L_slen (pc := 20) dL_law_20 ?_
    refine L_bipush (v := 7) (pc := 21) dL_law_21 (by decide) ?_
    refine L_isub (pc := 23) dL_law_23 ?_
    refine L_icmp_gt (tgt := 1548) (pc := 24) dL_law_24 (by decide) (fun _ => ?_) (fun g => ?_)
    · refine L_iconst (v := 1) (pc := 1548) dL_law_1548 (by decide) ?_
      exact L_end (by omega) (by omega) dL_law_1549
    · have g2 : ¬ L < 7 * j + 7 := fun z => g ((gt7 hL (by omega)).mpr z)
      refine law_sw hL (by omega) h hz1 hz2 (by omega) (by omega) (fun X' M' hR => ?_)
      refine L_iinc (q := 0) (v := nI (7 * (j + 1))) (pc := 1542) [(3, .int (nI (7 * (j + 1)))), (2, .ref (z2 99)), (1, .ref (z1 99)), (0, .ref b)] dL_law_1542 rfl (by rw [show Int32.ofInt 7 = nI 7 from by decide, nI_add]; rfl) (by decide) rfl ?_
      refine L_goto (tgt := 18) (pc := 1545) dL_law_1545 (by decide) ?_
      exact ih (j + 1) (n + 16) (k + 96) X' M' (by omega) (by omega) (by omega) (by omega) hR
theorem law_new2 {Z : VZ} {b L : Nat} {xs : Nat → Int32} {n k : Nat} {Lc : List (Nat × Value)} {S : va_W} (hn : n + 100 ≤ 624007) (hk : k + 5000 ≤ 7230226) (kk : ∀ z2 : Nat → Nat, (∀ k, 100 ≤ k → z2 k = Z.2.2.2 k) → VL Z b L xs (n + 1 + 18) (k + 35 + 1027) 15 Lc [.ref (z2 99)] (S ++ MW (zz Z z2) mS0)) : VL Z b L xs n k 8 Lc [] S := by
  refine L_new (C := RX11) (T := TX11) (N := 35) (ci := 11) (fs := [.int 0, .null, .null, .null, .null, .null, .int 0, .int 0, .int 0, .int 0, .int 0, .null, .int 0, .null, .long 0, .long 0, .null, .null, .null, .null, .null, .int 0, .int 0, .int 0, .int 0, .int 0, .int 0, .null, .null, .int 0, .int 0, .null, .null, .null, .null]) (pc := 8) iuX11 tyX11 tyX11_ok rfl tw_857 tw_858 tw_6 (fun j hj => by rcases (show j = 0 ∨ j = 1 ∨ j = 2 ∨ j = 3 ∨ j = 4 ∨ j = 5 ∨ j = 6 ∨ j = 7 ∨ j = 8 ∨ j = 9 ∨ j = 10 ∨ j = 11 ∨ j = 12 ∨ j = 13 ∨ j = 14 ∨ j = 15 ∨ j = 16 ∨ j = 17 ∨ j = 18 ∨ j = 19 ∨ j = 20 ∨ j = 21 ∨ j = 22 ∨ j = 23 ∨ j = 24 ∨ j = 25 ∨ j = 26 ∨ j = 27 ∨ j = 28 ∨ j = 29 ∨ j = 30 ∨ j = 31 ∨ j = 32 ∨ j = 33 ∨ j = 34 by omega) with rfl | rfl | rfl | rfl | rfl | rfl | rfl | rfl | rfl | rfl | rfl | rfl | rfl | rfl | rfl | rfl | rfl | rfl | rfl | rfl | rfl | rfl | rfl | rfl | rfl | rfl | rfl | rfl | rfl | rfl | rfl | rfl | rfl | rfl | rfl <;> rfl) (by omega) (by omega) dL_law_8 (fun q2 => ?_)
  refine L_dup (pc := 11) dL_law_11 rfl ?_
  refine L_callI (b := b) (L := L) (xs := xs) (Lc := Lc) (n := n + 1) (k := k + 35) (st := [.ref q2]) (pc := 12) S [(q2, .inr (11, [.int 0, .null, .null, .null, .null, .null, .int 0, .int 0, .int 0, .int 0, .int 0, .null, .int 0, .null, .long 0, .long 0, .null, .null, .null, .null, .null, .int 0, .int 0, .int 0, .int 0, .int 0, .int 0, .null, .null, .int 0, .int 0, .null, .null, .null, .null]))] dL_law_12 (c_X11_init Z q2) ⟨tw_859, tw_860, tw_861, tw_6, rfl, by decide +kernel⟩ (Nat.le_of_ble_eq_true rfl) (Nat.le_of_ble_eq_true rfl) (Nat.le_of_ble_eq_true rfl) (by omega) (by omega) (fun v S' hp => ?_)
  obtain ⟨rfl, z2, e2, hz2, rfl⟩ := hp
  subst e2
  exact kk z2 hz2
theorem law_from {Z : VZ} {b L : Nat} {xs : Nat → Int32} (hL : L ≤ 3584) : VL Z b L xs 0 0 0 [(0, .ref b)] [] [] := by
  refine L_new (C := RX10) (T := TX10) (N := 9) (ci := 10) (fs := [.null, .int 0, .null, .int 0, .null, .null, .null, .null, .null]) (pc := 0) iuX10 tyX10 tyX10_ok rfl tw_21 tw_22 tw_1 (fun j hj => by rcases (show j = 0 ∨ j = 1 ∨ j = 2 ∨ j = 3 ∨ j = 4 ∨ j = 5 ∨ j = 6 ∨ j = 7 ∨ j = 8 by omega) with rfl | rfl | rfl | rfl | rfl | rfl | rfl | rfl | rfl <;> rfl) (Nat.le_of_ble_eq_true rfl) (Nat.le_of_ble_eq_true rfl) dL_law_0 (fun q => ?_)
  refine L_dup (pc := 3) dL_law_3 rfl ?_
  refine L_callIO (pc := 4) [] [(q, .inr (10, [.null, .int 0, .null, .int 0, .null, .null, .null, .null, .null]))] dL_law_4 (c_X10_init Z q) ⟨tw_23, tw_24, tw_25, tw_1, rfl, by decide +kernel⟩ (Nat.le_of_ble_eq_true rfl) (Nat.le_of_ble_eq_true rfl) (Nat.le_of_ble_eq_true rfl) (Nat.le_of_ble_eq_true rfl) (Nat.le_of_ble_eq_true rfl) (fun v S' hp => ?_)
  obtain ⟨rfl, z1, e1, hz1, rfl⟩ := hp
  subst e1
  refine L_eqS (XW (zz Z z1) xS0) rfl ?_
  refine L_astore_n (st := []) (pc := 7) [(1, .ref (z1 99)), (0, .ref b)] dL_law_7 rfl (by decide) rfl ?_
  refine law_new2 (n := 0 + 1 + 18) (k := 0 + 9 + 361) (by omega) (by omega) (fun z2 hz2 => ?_)
  refine L_swap (A := XW (zz Z z1) xS0) (B := MW (zz Z z2) mS0) ?_
  refine L_astore_n (st := []) (pc := 15) [(2, .ref (z2 99)), (1, .ref (z1 99)), (0, .ref b)] dL_law_15 rfl (by decide) rfl ?_
  refine L_iconst (v := nI (7 * 0)) (pc := 16) dL_law_16 (by decide) ?_
  refine L_istore_n (pc := 17) [(3, .int (nI (7 * 0))), (2, .ref (z2 99)), (1, .ref (z1 99)), (0, .ref b)] dL_law_17 rfl (by decide) rfl ?_
  refine L_widen (n' := 40) (k' := 1500) (by omega) (by omega) ?_
  exact law_loop hL hz1 hz2 512 0 40 1500 xS0 mS0 (by omega) (by omega) rfl rfl Rel_0
