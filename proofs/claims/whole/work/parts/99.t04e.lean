theorem law_28 {Z : VZ} {z1 z2 : Nat → Nat} {b L : Nat} {xs : Nat → Int32} {n k i : Nat} {X : XS} {M : MS} (hL : L ≤ 3584) (hi : i + 7 ≤ L) (h : Rel X M) (hn : n + 100 ≤ 624007) (hk : k + 1000 ≤ 7230226) (kk : ∀ X' M', Rel X' M' → VL Z b L xs (n + 16) (k + 96) 1542 [(3, .int (nI i)), (2, .ref (z2 99)), (1, .ref (z1 99)), (0, .ref b)] [] (MW (zz Z z2) M' ++ XW (zz Z z1) X')) : VL Z b L xs n k 1291 [(3, .int (nI i)), (2, .ref (z2 99)), (1, .ref (z1 99)), (0, .ref b)] [] (MW (zz Z z2) M ++ XW (zz Z z1) X) := by
  refine L_aload_n (pc := 1291) (st := []) dL_law_1291 2 rfl rfl ?_
  refine L_call (z := z1) (St' := XS) (Wd' := XW) (wr := MW (zz Z z2) M) (S' := X) (q0 := 0) (ci := 10) (na := 0) (av := []) (st := []) (pc := 1292) dL_law_1292 (c_X10_image (zz Z z1) X (Rel_xOK h)) ⟨tw_804, tw_805, tw_806, tw_807, tw_1, by decide +kernel⟩ rfl rfl rfl rfl rfl (Nat.le_of_ble_eq_true rfl) (Nat.le_of_ble_eq_true rfl) (Nat.le_of_ble_eq_true rfl) (by omega) (by omega) (fun v X' hpx => ?_)
  obtain ⟨r, rfl⟩ := w_image hpx
  refine L_swap (A := MW (zz Z z2) M) (B := XW (zz Z z1) X') ?_
  refine L_aload_n (pc := 1295) (st := [.int r]) dL_law_1295 1 rfl rfl ?_
  refine L_call (z := z2) (St' := MS) (Wd' := MW) (wr := XW (zz Z z1) X') (S' := M) (q0 := 0) (ci := 11) (na := 0) (av := []) (st := [.int r]) (pc := 1296) dL_law_1296 (cM_image (zz Z z2) M) ⟨tw_1276, tw_1277, tw_1278, tw_1279, tw_6, by decide +kernel⟩ rfl rfl rfl rfl rfl (Nat.le_of_ble_eq_true rfl) (Nat.le_of_ble_eq_true rfl) (Nat.le_of_ble_eq_true rfl) (by omega) (by omega) (fun v' M' hpm => ?_)
  obtain ⟨r', e1, rfl, hR⟩ := q_image h hpx hpm
  cases e1
  refine L_swap (A := XW (zz Z z1) X') (B := MW (zz Z z2) M') ?_
  refine L_icmp_eq (x := r) (y := r) (st := []) (tgt := 1542) (pc := 1299) dL_law_1299 (by decide) (fun _ => ?_) (fun hz => absurd rfl hz)
  exact L_widen (by omega) (by omega) (kk X' M' hR)
theorem law_29 {Z : VZ} {z1 z2 : Nat → Nat} {b L : Nat} {xs : Nat → Int32} {n k i : Nat} {X : XS} {M : MS} (hL : L ≤ 3584) (hi : i + 7 ≤ L) (h : Rel X M) (hn : n + 100 ≤ 624007) (hk : k + 1000 ≤ 7230226) (kk : ∀ X' M', Rel X' M' → VL Z b L xs (n + 16) (k + 96) 1542 [(3, .int (nI i)), (2, .ref (z2 99)), (1, .ref (z1 99)), (0, .ref b)] [] (MW (zz Z z2) M' ++ XW (zz Z z1) X')) : VL Z b L xs n k 1304 [(3, .int (nI i)), (2, .ref (z2 99)), (1, .ref (z1 99)), (0, .ref b)] [] (MW (zz Z z2) M ++ XW (zz Z z1) X) := by
  refine L_aload_n (pc := 1304) (st := []) dL_law_1304 2 rfl rfl ?_
  refine L_call (z := z1) (St' := XS) (Wd' := XW) (wr := MW (zz Z z2) M) (S' := X) (q0 := 0) (ci := 10) (na := 0) (av := []) (st := []) (pc := 1305) dL_law_1305 (c_X10_back (zz Z z1) X) ⟨tw_812, tw_813, tw_814, tw_815, tw_1, by decide +kernel⟩ rfl rfl rfl rfl rfl (Nat.le_of_ble_eq_true rfl) (Nat.le_of_ble_eq_true rfl) (Nat.le_of_ble_eq_true rfl) (by omega) (by omega) (fun v X' hpx => ?_)
  obtain ⟨r, rfl⟩ := w_back hpx
  refine L_swap (A := MW (zz Z z2) M) (B := XW (zz Z z1) X') ?_
  refine L_aload_n (pc := 1308) (st := [.int r]) dL_law_1308 1 rfl rfl ?_
  refine L_call (z := z2) (St' := MS) (Wd' := MW) (wr := XW (zz Z z1) X') (S' := M) (q0 := 0) (ci := 11) (na := 0) (av := []) (st := [.int r]) (pc := 1309) dL_law_1309 (cM_back (zz Z z2) M) ⟨tw_1284, tw_1285, tw_1286, tw_1287, tw_6, by decide +kernel⟩ rfl rfl rfl rfl rfl (Nat.le_of_ble_eq_true rfl) (Nat.le_of_ble_eq_true rfl) (Nat.le_of_ble_eq_true rfl) (by omega) (by omega) (fun v' M' hpm => ?_)
  obtain ⟨r', e1, rfl, hR⟩ := q_back h hpx hpm
  cases e1
  refine L_swap (A := XW (zz Z z1) X') (B := MW (zz Z z2) M') ?_
  refine L_icmp_eq (x := r) (y := r) (st := []) (tgt := 1542) (pc := 1312) dL_law_1312 (by decide) (fun _ => ?_) (fun hz => absurd rfl hz)
  exact L_widen (by omega) (by omega) (kk X' M' hR)
theorem law_30 {Z : VZ} {z1 z2 : Nat → Nat} {b L : Nat} {xs : Nat → Int32} {n k i : Nat} {X : XS} {M : MS} (hL : L ≤ 3584) (hi : i + 7 ≤ L) (h : Rel X M) (hn : n + 100 ≤ 624007) (hk : k + 1000 ≤ 7230226) (kk : ∀ X' M', Rel X' M' → VL Z b L xs (n + 16) (k + 96) 1542 [(3, .int (nI i)), (2, .ref (z2 99)), (1, .ref (z1 99)), (0, .ref b)] [] (MW (zz Z z2) M' ++ XW (zz Z z1) X')) : VL Z b L xs n k 1317 [(3, .int (nI i)), (2, .ref (z2 99)), (1, .ref (z1 99)), (0, .ref b)] [] (MW (zz Z z2) M ++ XW (zz Z z1) X) := by
  refine L_aload_n (pc := 1317) (st := []) dL_law_1317 2 rfl rfl ?_
  refine L_arg (i := i) (j := 1) (q0 := 3) (q1 := 0) (pc := 1318) (st := [.ref (z1 99)]) hL (by omega) rfl rfl (by decide) dL_law_1318 dL_law_1319 dL_law_1320 dL_law_1321 dL_law_1322 ?_
  refine L_arg (i := i) (j := 2) (q0 := 3) (q1 := 0) (pc := 1323) (st := [.int (xs (i + 1)), .ref (z1 99)]) hL (by omega) rfl rfl (by decide) dL_law_1323 dL_law_1324 dL_law_1325 dL_law_1326 dL_law_1327 ?_
  refine L_arg (i := i) (j := 3) (q0 := 3) (q1 := 0) (pc := 1328) (st := [.int (xs (i + 2)), .int (xs (i + 1)), .ref (z1 99)]) hL (by omega) rfl rfl (by decide) dL_law_1328 dL_law_1329 dL_law_1330 dL_law_1331 dL_law_1332 ?_
  refine L_arg (i := i) (j := 4) (q0 := 3) (q1 := 0) (pc := 1333) (st := [.int (xs (i + 3)), .int (xs (i + 2)), .int (xs (i + 1)), .ref (z1 99)]) hL (by omega) rfl rfl (by decide) dL_law_1333 dL_law_1334 dL_law_1335 dL_law_1336 dL_law_1337 ?_
  refine L_call (z := z1) (St' := XS) (Wd' := XW) (wr := MW (zz Z z2) M) (S' := X) (q0 := 0) (ci := 10) (na := 4) (av := [.int (xs (i + 1)), .int (xs (i + 2)), .int (xs (i + 3)), .int (xs (i + 4))]) (st := []) (pc := 1338) dL_law_1338 (c_X10_load (zz Z z1) X (xs (i + 1)) (xs (i + 2)) (xs (i + 3)) (xs (i + 4)) (Rel_xOK h)) ⟨tw_820, tw_821, tw_822, tw_823, tw_1, by decide +kernel⟩ rfl rfl rfl rfl rfl (Nat.le_of_ble_eq_true rfl) (Nat.le_of_ble_eq_true rfl) (Nat.le_of_ble_eq_true rfl) (by omega) (by omega) (fun v X' hpx => ?_)
  obtain ⟨r, rfl⟩ := w_load hpx
  refine L_swap (A := MW (zz Z z2) M) (B := XW (zz Z z1) X') ?_
  refine L_aload_n (pc := 1341) (st := [.int r]) dL_law_1341 1 rfl rfl ?_
  refine L_arg (i := i) (j := 1) (q0 := 3) (q1 := 0) (pc := 1342) (st := [.ref (z2 99), .int r]) hL (by omega) rfl rfl (by decide) dL_law_1342 dL_law_1343 dL_law_1344 dL_law_1345 dL_law_1346 ?_
  refine L_arg (i := i) (j := 2) (q0 := 3) (q1 := 0) (pc := 1347) (st := [.int (xs (i + 1)), .ref (z2 99), .int r]) hL (by omega) rfl rfl (by decide) dL_law_1347 dL_law_1348 dL_law_1349 dL_law_1350 dL_law_1351 ?_
  refine L_arg (i := i) (j := 3) (q0 := 3) (q1 := 0) (pc := 1352) (st := [.int (xs (i + 2)), .int (xs (i + 1)), .ref (z2 99), .int r]) hL (by omega) rfl rfl (by decide) dL_law_1352 dL_law_1353 dL_law_1354 dL_law_1355 dL_law_1356 ?_
  refine L_arg (i := i) (j := 4) (q0 := 3) (q1 := 0) (pc := 1357) (st := [.int (xs (i + 3)), .int (xs (i + 2)), .int (xs (i + 1)), .ref (z2 99), .int r]) hL (by omega) rfl rfl (by decide) dL_law_1357 dL_law_1358 dL_law_1359 dL_law_1360 dL_law_1361 ?_
  refine L_call (z := z2) (St' := MS) (Wd' := MW) (wr := XW (zz Z z1) X') (S' := M) (q0 := 0) (ci := 11) (na := 4) (av := [.int (xs (i + 1)), .int (xs (i + 2)), .int (xs (i + 3)), .int (xs (i + 4))]) (st := [.int r]) (pc := 1362) dL_law_1362 (cM_load (zz Z z2) M (xs (i + 1)) (xs (i + 2)) (xs (i + 3)) (xs (i + 4)) (Rel_mOK h) (Rel_sOK2 h)) ⟨tw_1288, tw_1289, tw_1290, tw_1291, tw_6, by decide +kernel⟩ rfl rfl rfl rfl rfl (Nat.le_of_ble_eq_true rfl) (Nat.le_of_ble_eq_true rfl) (Nat.le_of_ble_eq_true rfl) (by omega) (by omega) (fun v' M' hpm => ?_)
  obtain ⟨r', e1, rfl, hR⟩ := q_load h hpx hpm
  cases e1
  refine L_swap (A := XW (zz Z z1) X') (B := MW (zz Z z2) M') ?_
  refine L_icmp_eq (x := r) (y := r) (st := []) (tgt := 1542) (pc := 1365) dL_law_1365 (by decide) (fun _ => ?_) (fun hz => absurd rfl hz)
  exact L_widen (by omega) (by omega) (kk X' M' hR)
theorem law_31 {Z : VZ} {z1 z2 : Nat → Nat} {b L : Nat} {xs : Nat → Int32} {n k i : Nat} {X : XS} {M : MS} (hL : L ≤ 3584) (hi : i + 7 ≤ L) (h : Rel X M) (hn : n + 100 ≤ 624007) (hk : k + 1000 ≤ 7230226) (kk : ∀ X' M', Rel X' M' → VL Z b L xs (n + 16) (k + 96) 1542 [(3, .int (nI i)), (2, .ref (z2 99)), (1, .ref (z1 99)), (0, .ref b)] [] (MW (zz Z z2) M' ++ XW (zz Z z1) X')) : VL Z b L xs n k 1370 [(3, .int (nI i)), (2, .ref (z2 99)), (1, .ref (z1 99)), (0, .ref b)] [] (MW (zz Z z2) M ++ XW (zz Z z1) X) := by
  refine L_aload_n (pc := 1370) (st := []) dL_law_1370 2 rfl rfl ?_
  refine L_arg (i := i) (j := 1) (q0 := 3) (q1 := 0) (pc := 1371) (st := [.ref (z1 99)]) hL (by omega) rfl rfl (by decide) dL_law_1371 dL_law_1372 dL_law_1373 dL_law_1374 dL_law_1375 ?_
  refine L_call (z := z1) (St' := XS) (Wd' := XW) (wr := MW (zz Z z2) M) (S' := X) (q0 := 0) (ci := 10) (na := 1) (av := [.int (xs (i + 1))]) (st := []) (pc := 1376) dL_law_1376 (c_X10_count (zz Z z1) X (xs (i + 1)) (Rel_xOK h)) ⟨tw_829, tw_830, tw_831, tw_832, tw_1, by decide +kernel⟩ rfl rfl rfl rfl rfl (Nat.le_of_ble_eq_true rfl) (Nat.le_of_ble_eq_true rfl) (Nat.le_of_ble_eq_true rfl) (by omega) (by omega) (fun v X' hpx => ?_)
  obtain ⟨r, rfl⟩ := w_count hpx
  refine L_swap (A := MW (zz Z z2) M) (B := XW (zz Z z1) X') ?_
  refine L_aload_n (pc := 1379) (st := [.int r]) dL_law_1379 1 rfl rfl ?_
  refine L_arg (i := i) (j := 1) (q0 := 3) (q1 := 0) (pc := 1380) (st := [.ref (z2 99), .int r]) hL (by omega) rfl rfl (by decide) dL_law_1380 dL_law_1381 dL_law_1382 dL_law_1383 dL_law_1384 ?_
  refine L_call (z := z2) (St' := MS) (Wd' := MW) (wr := XW (zz Z z1) X') (S' := M) (q0 := 0) (ci := 11) (na := 1) (av := [.int (xs (i + 1))]) (st := [.int r]) (pc := 1385) dL_law_1385 (cM_count (zz Z z2) M (xs (i + 1)) (Rel_mOK h)) ⟨tw_1296, tw_1297, tw_1298, tw_1299, tw_6, by decide +kernel⟩ rfl rfl rfl rfl rfl (Nat.le_of_ble_eq_true rfl) (Nat.le_of_ble_eq_true rfl) (Nat.le_of_ble_eq_true rfl) (by omega) (by omega) (fun v' M' hpm => ?_)
  obtain ⟨r', e1, rfl, hR⟩ := q_count h hpx hpm
  cases e1
  refine L_swap (A := XW (zz Z z1) X') (B := MW (zz Z z2) M') ?_
  refine L_icmp_eq (x := r) (y := r) (st := []) (tgt := 1542) (pc := 1388) dL_law_1388 (by decide) (fun _ => ?_) (fun hz => absurd rfl hz)
  exact L_widen (by omega) (by omega) (kk X' M' hR)
theorem law_32 {Z : VZ} {z1 z2 : Nat → Nat} {b L : Nat} {xs : Nat → Int32} {n k i : Nat} {X : XS} {M : MS} (hL : L ≤ 3584) (hi : i + 7 ≤ L) (h : Rel X M) (hn : n + 100 ≤ 624007) (hk : k + 1000 ≤ 7230226) (kk : ∀ X' M', Rel X' M' → VL Z b L xs (n + 16) (k + 96) 1542 [(3, .int (nI i)), (2, .ref (z2 99)), (1, .ref (z1 99)), (0, .ref b)] [] (MW (zz Z z2) M' ++ XW (zz Z z1) X')) : VL Z b L xs n k 1393 [(3, .int (nI i)), (2, .ref (z2 99)), (1, .ref (z1 99)), (0, .ref b)] [] (MW (zz Z z2) M ++ XW (zz Z z1) X) := by
  refine L_aload_n (pc := 1393) (st := []) dL_law_1393 2 rfl rfl ?_
  refine L_arg (i := i) (j := 1) (q0 := 3) (q1 := 0) (pc := 1394) (st := [.ref (z1 99)]) hL (by omega) rfl rfl (by decide) dL_law_1394 dL_law_1395 dL_law_1396 dL_law_1397 dL_law_1398 ?_
  refine L_arg (i := i) (j := 2) (q0 := 3) (q1 := 0) (pc := 1399) (st := [.int (xs (i + 1)), .ref (z1 99)]) hL (by omega) rfl rfl (by decide) dL_law_1399 dL_law_1400 dL_law_1401 dL_law_1402 dL_law_1403 ?_
  refine L_arg (i := i) (j := 3) (q0 := 3) (q1 := 0) (pc := 1404) (st := [.int (xs (i + 2)), .int (xs (i + 1)), .ref (z1 99)]) hL (by omega) rfl rfl (by decide) dL_law_1404 dL_law_1405 dL_law_1406 dL_law_1407 dL_law_1408 ?_
  refine L_call (z := z1) (St' := XS) (Wd' := XW) (wr := MW (zz Z z2) M) (S' := X) (q0 := 0) (ci := 10) (na := 3) (av := [.int (xs (i + 1)), .int (xs (i + 2)), .int (xs (i + 3))]) (st := []) (pc := 1409) dL_law_1409 (c_X10_sheet (zz Z z1) X (xs (i + 1)) (xs (i + 2)) (xs (i + 3))) ⟨tw_841, tw_842, tw_843, tw_844, tw_1, by decide +kernel⟩ rfl rfl rfl rfl rfl (Nat.le_of_ble_eq_true rfl) (Nat.le_of_ble_eq_true rfl) (Nat.le_of_ble_eq_true rfl) (by omega) (by omega) (fun v X' hpx => ?_)
  obtain ⟨r, rfl⟩ := w_sheet hpx
  refine L_swap (A := MW (zz Z z2) M) (B := XW (zz Z z1) X') ?_
  refine L_aload_n (pc := 1412) (st := [.int r]) dL_law_1412 1 rfl rfl ?_
  refine L_arg (i := i) (j := 1) (q0 := 3) (q1 := 0) (pc := 1413) (st := [.ref (z2 99), .int r]) hL (by omega) rfl rfl (by decide) dL_law_1413 dL_law_1414 dL_law_1415 dL_law_1416 dL_law_1417 ?_
  refine L_arg (i := i) (j := 2) (q0 := 3) (q1 := 0) (pc := 1418) (st := [.int (xs (i + 1)), .ref (z2 99), .int r]) hL (by omega) rfl rfl (by decide) dL_law_1418 dL_law_1419 dL_law_1420 dL_law_1421 dL_law_1422 ?_
  refine L_arg (i := i) (j := 3) (q0 := 3) (q1 := 0) (pc := 1423) (st := [.int (xs (i + 2)), .int (xs (i + 1)), .ref (z2 99), .int r]) hL (by omega) rfl rfl (by decide) dL_law_1423 dL_law_1424 dL_law_1425 dL_law_1426 dL_law_1427 ?_
  refine L_call (z := z2) (St' := MS) (Wd' := MW) (wr := XW (zz Z z1) X') (S' := M) (q0 := 0) (ci := 11) (na := 3) (av := [.int (xs (i + 1)), .int (xs (i + 2)), .int (xs (i + 3))]) (st := [.int r]) (pc := 1428) dL_law_1428 (cM_sheet (zz Z z2) M (xs (i + 1)) (xs (i + 2)) (xs (i + 3))) ⟨tw_1300, tw_1301, tw_1302, tw_1303, tw_6, by decide +kernel⟩ rfl rfl rfl rfl rfl (Nat.le_of_ble_eq_true rfl) (Nat.le_of_ble_eq_true rfl) (Nat.le_of_ble_eq_true rfl) (by omega) (by omega) (fun v' M' hpm => ?_)
  obtain ⟨r', e1, rfl, hR⟩ := q_sheet h hpx hpm
  cases e1
  refine L_swap (A := XW (zz Z z1) X') (B := MW (zz Z z2) M') ?_
  refine L_icmp_eq (x := r) (y := r) (st := []) (tgt := 1542) (pc := 1431) dL_law_1431 (by decide) (fun _ => ?_) (fun hz => absurd rfl hz)
  exact L_widen (by omega) (by omega) (kk X' M' hR)
theorem law_33 {Z : VZ} {z1 z2 : Nat → Nat} {b L : Nat} {xs : Nat → Int32} {n k i : Nat} {X : XS} {M : MS} (hL : L ≤ 3584) (hi : i + 7 ≤ L) (h : Rel X M) (hn : n + 100 ≤ 624007) (hk : k + 1000 ≤ 7230226) (kk : ∀ X' M', Rel X' M' → VL Z b L xs (n + 16) (k + 96) 1542 [(3, .int (nI i)), (2, .ref (z2 99)), (1, .ref (z1 99)), (0, .ref b)] [] (MW (zz Z z2) M' ++ XW (zz Z z1) X')) : VL Z b L xs n k 1436 [(3, .int (nI i)), (2, .ref (z2 99)), (1, .ref (z1 99)), (0, .ref b)] [] (MW (zz Z z2) M ++ XW (zz Z z1) X) := by
  refine L_aload_n (pc := 1436) (st := []) dL_law_1436 2 rfl rfl ?_
  refine L_arg (i := i) (j := 1) (q0 := 3) (q1 := 0) (pc := 1437) (st := [.ref (z1 99)]) hL (by omega) rfl rfl (by decide) dL_law_1437 dL_law_1438 dL_law_1439 dL_law_1440 dL_law_1441 ?_
  refine L_arg (i := i) (j := 2) (q0 := 3) (q1 := 0) (pc := 1442) (st := [.int (xs (i + 1)), .ref (z1 99)]) hL (by omega) rfl rfl (by decide) dL_law_1442 dL_law_1443 dL_law_1444 dL_law_1445 dL_law_1446 ?_
  refine L_arg (i := i) (j := 3) (q0 := 3) (q1 := 0) (pc := 1447) (st := [.int (xs (i + 2)), .int (xs (i + 1)), .ref (z1 99)]) hL (by omega) rfl rfl (by decide) dL_law_1447 dL_law_1448 dL_law_1449 dL_law_1450 dL_law_1451 ?_
  refine L_call (z := z1) (St' := XS) (Wd' := XW) (wr := MW (zz Z z2) M) (S' := X) (q0 := 0) (ci := 10) (na := 3) (av := [.int (xs (i + 1)), .int (xs (i + 2)), .int (xs (i + 3))]) (st := []) (pc := 1452) dL_law_1452 (c_X10_put (zz Z z1) X (xs (i + 1)) (xs (i + 2)) (xs (i + 3))) ⟨tw_846, tw_847, tw_848, tw_849, tw_1, by decide +kernel⟩ rfl rfl rfl rfl rfl (Nat.le_of_ble_eq_true rfl) (Nat.le_of_ble_eq_true rfl) (Nat.le_of_ble_eq_true rfl) (by omega) (by omega) (fun v X' hpx => ?_)
  obtain ⟨r, rfl⟩ := w_put hpx
  refine L_swap (A := MW (zz Z z2) M) (B := XW (zz Z z1) X') ?_
  refine L_aload_n (pc := 1455) (st := [.int r]) dL_law_1455 1 rfl rfl ?_
  refine L_arg (i := i) (j := 1) (q0 := 3) (q1 := 0) (pc := 1456) (st := [.ref (z2 99), .int r]) hL (by omega) rfl rfl (by decide) dL_law_1456 dL_law_1457 dL_law_1458 dL_law_1459 dL_law_1460 ?_
  refine L_arg (i := i) (j := 2) (q0 := 3) (q1 := 0) (pc := 1461) (st := [.int (xs (i + 1)), .ref (z2 99), .int r]) hL (by omega) rfl rfl (by decide) dL_law_1461 dL_law_1462 dL_law_1463 dL_law_1464 dL_law_1465 ?_
  refine L_arg (i := i) (j := 3) (q0 := 3) (q1 := 0) (pc := 1466) (st := [.int (xs (i + 2)), .int (xs (i + 1)), .ref (z2 99), .int r]) hL (by omega) rfl rfl (by decide) dL_law_1466 dL_law_1467 dL_law_1468 dL_law_1469 dL_law_1470 ?_
  refine L_call (z := z2) (St' := MS) (Wd' := MW) (wr := XW (zz Z z1) X') (S' := M) (q0 := 0) (ci := 11) (na := 3) (av := [.int (xs (i + 1)), .int (xs (i + 2)), .int (xs (i + 3))]) (st := [.int r]) (pc := 1471) dL_law_1471 (cM_put (zz Z z2) M (xs (i + 1)) (xs (i + 2)) (xs (i + 3)) (Rel_sOK2 h)) ⟨tw_1304, tw_1305, tw_1306, tw_1307, tw_6, by decide +kernel⟩ rfl rfl rfl rfl rfl (Nat.le_of_ble_eq_true rfl) (Nat.le_of_ble_eq_true rfl) (Nat.le_of_ble_eq_true rfl) (by omega) (by omega) (fun v' M' hpm => ?_)
  obtain ⟨r', e1, rfl, hR⟩ := q_put h hpx hpm
  cases e1
  refine L_swap (A := XW (zz Z z1) X') (B := MW (zz Z z2) M') ?_
  refine L_icmp_eq (x := r) (y := r) (st := []) (tgt := 1542) (pc := 1474) dL_law_1474 (by decide) (fun _ => ?_) (fun hz => absurd rfl hz)
  exact L_widen (by omega) (by omega) (kk X' M' hR)
theorem law_34 {Z : VZ} {z1 z2 : Nat → Nat} {b L : Nat} {xs : Nat → Int32} {n k i : Nat} {X : XS} {M : MS} (hL : L ≤ 3584) (hi : i + 7 ≤ L) (h : Rel X M) (hn : n + 100 ≤ 624007) (hk : k + 1000 ≤ 7230226) (kk : ∀ X' M', Rel X' M' → VL Z b L xs (n + 16) (k + 96) 1542 [(3, .int (nI i)), (2, .ref (z2 99)), (1, .ref (z1 99)), (0, .ref b)] [] (MW (zz Z z2) M' ++ XW (zz Z z1) X')) : VL Z b L xs n k 1479 [(3, .int (nI i)), (2, .ref (z2 99)), (1, .ref (z1 99)), (0, .ref b)] [] (MW (zz Z z2) M ++ XW (zz Z z1) X) := by
  refine L_aload_n (pc := 1479) (st := []) dL_law_1479 2 rfl rfl ?_
  refine L_arg (i := i) (j := 1) (q0 := 3) (q1 := 0) (pc := 1480) (st := [.ref (z1 99)]) hL (by omega) rfl rfl (by decide) dL_law_1480 dL_law_1481 dL_law_1482 dL_law_1483 dL_law_1484 ?_
  refine L_arg (i := i) (j := 2) (q0 := 3) (q1 := 0) (pc := 1485) (st := [.int (xs (i + 1)), .ref (z1 99)]) hL (by omega) rfl rfl (by decide) dL_law_1485 dL_law_1486 dL_law_1487 dL_law_1488 dL_law_1489 ?_
  refine L_arg (i := i) (j := 3) (q0 := 3) (q1 := 0) (pc := 1490) (st := [.int (xs (i + 2)), .int (xs (i + 1)), .ref (z1 99)]) hL (by omega) rfl rfl (by decide) dL_law_1490 dL_law_1491 dL_law_1492 dL_law_1493 dL_law_1494 ?_
  refine L_arg (i := i) (j := 4) (q0 := 3) (q1 := 0) (pc := 1495) (st := [.int (xs (i + 3)), .int (xs (i + 2)), .int (xs (i + 1)), .ref (z1 99)]) hL (by omega) rfl rfl (by decide) dL_law_1495 dL_law_1496 dL_law_1497 dL_law_1498 dL_law_1499 ?_
  refine L_arg (i := i) (j := 5) (q0 := 3) (q1 := 0) (pc := 1500) (st := [.int (xs (i + 4)), .int (xs (i + 3)), .int (xs (i + 2)), .int (xs (i + 1)), .ref (z1 99)]) hL (by omega) rfl rfl (by decide) dL_law_1500 dL_law_1501 dL_law_1502 dL_law_1503 dL_law_1504 ?_
  refine L_call (z := z1) (St' := XS) (Wd' := XW) (wr := MW (zz Z z2) M) (S' := X) (q0 := 0) (ci := 10) (na := 5) (av := [.int (xs (i + 1)), .int (xs (i + 2)), .int (xs (i + 3)), .int (xs (i + 4)), .int (xs (i + 5))]) (st := []) (pc := 1505) dL_law_1505 (c_X10_copy (zz Z z1) X (xs (i + 1)) (xs (i + 2)) (xs (i + 3)) (xs (i + 4)) (xs (i + 5))) ⟨tw_850, tw_851, tw_852, tw_853, tw_1, by decide +kernel⟩ rfl rfl rfl rfl rfl (Nat.le_of_ble_eq_true rfl) (Nat.le_of_ble_eq_true rfl) (Nat.le_of_ble_eq_true rfl) (by omega) (by omega) (fun v X' hpx => ?_)
  obtain ⟨r, rfl⟩ := w_copy hpx
  refine L_swap (A := MW (zz Z z2) M) (B := XW (zz Z z1) X') ?_
  refine L_aload_n (pc := 1508) (st := [.int r]) dL_law_1508 1 rfl rfl ?_
  refine L_arg (i := i) (j := 1) (q0 := 3) (q1 := 0) (pc := 1509) (st := [.ref (z2 99), .int r]) hL (by omega) rfl rfl (by decide) dL_law_1509 dL_law_1510 dL_law_1511 dL_law_1512 dL_law_1513 ?_
  refine L_arg (i := i) (j := 2) (q0 := 3) (q1 := 0) (pc := 1514) (st := [.int (xs (i + 1)), .ref (z2 99), .int r]) hL (by omega) rfl rfl (by decide) dL_law_1514 dL_law_1515 dL_law_1516 dL_law_1517 dL_law_1518 ?_
  refine L_arg (i := i) (j := 3) (q0 := 3) (q1 := 0) (pc := 1519) (st := [.int (xs (i + 2)), .int (xs (i + 1)), .ref (z2 99), .int r]) hL (by omega) rfl rfl (by decide) dL_law_1519 dL_law_1520 dL_law_1521 dL_law_1522 dL_law_1523 ?_
  refine L_arg (i := i) (j := 4) (q0 := 3) (q1 := 0) (pc := 1524) (st := [.int (xs (i + 3)), .int (xs (i + 2)), .int (xs (i + 1)), .ref (z2 99), .int r]) hL (by omega) rfl rfl (by decide) dL_law_1524 dL_law_1525 dL_law_1526 dL_law_1527 dL_law_1528 ?_
  refine L_arg (i := i) (j := 5) (q0 := 3) (q1 := 0) (pc := 1529) (st := [.int (xs (i + 4)), .int (xs (i + 3)), .int (xs (i + 2)), .int (xs (i + 1)), .ref (z2 99), .int r]) hL (by omega) rfl rfl (by decide) dL_law_1529 dL_law_1530 dL_law_1531 dL_law_1532 dL_law_1533 ?_
  refine L_call (z := z2) (St' := MS) (Wd' := MW) (wr := XW (zz Z z1) X') (S' := M) (q0 := 0) (ci := 11) (na := 5) (av := [.int (xs (i + 1)), .int (xs (i + 2)), .int (xs (i + 3)), .int (xs (i + 4)), .int (xs (i + 5))]) (st := [.int r]) (pc := 1534) dL_law_1534 (cM_copy (zz Z z2) M (xs (i + 1)) (xs (i + 2)) (xs (i + 3)) (xs (i + 4)) (xs (i + 5)) (Rel_sOK2 h)) ⟨tw_1308, tw_1309, tw_1310, tw_1311, tw_6, by decide +kernel⟩ rfl rfl rfl rfl rfl (Nat.le_of_ble_eq_true rfl) (Nat.le_of_ble_eq_true rfl) (Nat.le_of_ble_eq_true rfl) (by omega) (by omega) (fun v' M' hpm => ?_)
  obtain ⟨r', e1, rfl, hR⟩ := q_copy h hpx hpm
  cases e1
  refine L_swap (A := XW (zz Z z1) X') (B := MW (zz Z z2) M') ?_
  refine L_icmp_eq (x := r) (y := r) (st := []) (tgt := 1542) (pc := 1537) dL_law_1537 (by decide) (fun _ => ?_) (fun hz => absurd rfl hz)
  exact L_widen (by omega) (by omega) (kk X' M' hR)
