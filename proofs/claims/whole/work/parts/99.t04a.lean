theorem law_0 {Z : VZ} {z1 z2 : Nat → Nat} {b L : Nat} {xs : Nat → Int32} {n k i : Nat} {X : XS} {M : MS} (hL : L ≤ 3584) (hi : i + 7 ≤ L) (h : Rel X M) (hn : n + 100 ≤ 624007) (hk : k + 1000 ≤ 7230226) (kk : ∀ X' M', Rel X' M' → VL Z b L xs (n + 16) (k + 96) 1542 [(3, .int (nI i)), (2, .ref (z2 99)), (1, .ref (z1 99)), (0, .ref b)] [] (MW (zz Z z2) M' ++ XW (zz Z z1) X')) : VL Z b L xs n k 188 [(3, .int (nI i)), (2, .ref (z2 99)), (1, .ref (z1 99)), (0, .ref b)] [] (MW (zz Z z2) M ++ XW (zz Z z1) X) := by
  refine L_aload_n (pc := 188) (st := []) dL_law_188 2 rfl rfl ?_
  refine L_arg (i := i) (j := 1) (q0 := 3) (q1 := 0) (pc := 189) (st := [.ref (z1 99)]) hL (by omega) rfl rfl (by decide) dL_law_189 dL_law_190 dL_law_191 dL_law_192 dL_law_193 ?_
  refine L_arg (i := i) (j := 2) (q0 := 3) (q1 := 0) (pc := 194) (st := [.int (xs (i + 1)), .ref (z1 99)]) hL (by omega) rfl rfl (by decide) dL_law_194 dL_law_195 dL_law_196 dL_law_197 dL_law_198 ?_
  refine L_arg (i := i) (j := 3) (q0 := 3) (q1 := 0) (pc := 199) (st := [.int (xs (i + 2)), .int (xs (i + 1)), .ref (z1 99)]) hL (by omega) rfl rfl (by decide) dL_law_199 dL_law_200 dL_law_201 dL_law_202 dL_law_203 ?_
  refine L_arg (i := i) (j := 4) (q0 := 3) (q1 := 0) (pc := 204) (st := [.int (xs (i + 3)), .int (xs (i + 2)), .int (xs (i + 1)), .ref (z1 99)]) hL (by omega) rfl rfl (by decide) dL_law_204 dL_law_205 dL_law_206 dL_law_207 dL_law_208 ?_
  refine L_call (z := z1) (St' := XS) (Wd' := XW) (wr := MW (zz Z z2) M) (S' := X) (q0 := 0) (ci := 10) (na := 4) (av := [.int (xs (i + 1)), .int (xs (i + 2)), .int (xs (i + 3)), .int (xs (i + 4))]) (st := []) (pc := 209) dL_law_209 (c_X10_machine (zz Z z1) X (xs (i + 1)) (xs (i + 2)) (xs (i + 3)) (xs (i + 4)) (Rel_xOK h)) ⟨tw_160, tw_161, tw_162, tw_163, tw_1, by decide +kernel⟩ rfl rfl rfl rfl rfl (Nat.le_of_ble_eq_true rfl) (Nat.le_of_ble_eq_true rfl) (Nat.le_of_ble_eq_true rfl) (by omega) (by omega) (fun v X' hpx => ?_)
  obtain ⟨r, rfl⟩ := w_machine hpx
  refine L_swap (A := MW (zz Z z2) M) (B := XW (zz Z z1) X') ?_
  refine L_aload_n (pc := 212) (st := [.int r]) dL_law_212 1 rfl rfl ?_
  refine L_arg (i := i) (j := 1) (q0 := 3) (q1 := 0) (pc := 213) (st := [.ref (z2 99), .int r]) hL (by omega) rfl rfl (by decide) dL_law_213 dL_law_214 dL_law_215 dL_law_216 dL_law_217 ?_
  refine L_arg (i := i) (j := 2) (q0 := 3) (q1 := 0) (pc := 218) (st := [.int (xs (i + 1)), .ref (z2 99), .int r]) hL (by omega) rfl rfl (by decide) dL_law_218 dL_law_219 dL_law_220 dL_law_221 dL_law_222 ?_
  refine L_arg (i := i) (j := 3) (q0 := 3) (q1 := 0) (pc := 223) (st := [.int (xs (i + 2)), .int (xs (i + 1)), .ref (z2 99), .int r]) hL (by omega) rfl rfl (by decide) dL_law_223 dL_law_224 dL_law_225 dL_law_226 dL_law_227 ?_
  refine L_arg (i := i) (j := 4) (q0 := 3) (q1 := 0) (pc := 228) (st := [.int (xs (i + 3)), .int (xs (i + 2)), .int (xs (i + 1)), .ref (z2 99), .int r]) hL (by omega) rfl rfl (by decide) dL_law_228 dL_law_229 dL_law_230 dL_law_231 dL_law_232 ?_
  refine L_call (z := z2) (St' := MS) (Wd' := MW) (wr := XW (zz Z z1) X') (S' := M) (q0 := 0) (ci := 11) (na := 4) (av := [.int (xs (i + 1)), .int (xs (i + 2)), .int (xs (i + 3)), .int (xs (i + 4))]) (st := [.int r]) (pc := 233) dL_law_233 (cM_machine (zz Z z2) M (xs (i + 1)) (xs (i + 2)) (xs (i + 3)) (xs (i + 4)) (Rel_mOK h)) ⟨tw_969, tw_970, tw_971, tw_972, tw_6, by decide +kernel⟩ rfl rfl rfl rfl rfl (Nat.le_of_ble_eq_true rfl) (Nat.le_of_ble_eq_true rfl) (Nat.le_of_ble_eq_true rfl) (by omega) (by omega) (fun v' M' hpm => ?_)
  obtain ⟨r', e1, rfl, hR⟩ := q_machine h hpx hpm
  cases e1
  refine L_swap (A := XW (zz Z z1) X') (B := MW (zz Z z2) M') ?_
  refine L_icmp_eq (x := r) (y := r) (st := []) (tgt := 1542) (pc := 236) dL_law_236 (by decide) (fun _ => ?_) (fun hz => absurd rfl hz)
  exact L_widen (by omega) (by omega) (kk X' M' hR)
theorem law_1 {Z : VZ} {z1 z2 : Nat → Nat} {b L : Nat} {xs : Nat → Int32} {n k i : Nat} {X : XS} {M : MS} (hL : L ≤ 3584) (hi : i + 7 ≤ L) (h : Rel X M) (hn : n + 100 ≤ 624007) (hk : k + 1000 ≤ 7230226) (kk : ∀ X' M', Rel X' M' → VL Z b L xs (n + 16) (k + 96) 1542 [(3, .int (nI i)), (2, .ref (z2 99)), (1, .ref (z1 99)), (0, .ref b)] [] (MW (zz Z z2) M' ++ XW (zz Z z1) X')) : VL Z b L xs n k 241 [(3, .int (nI i)), (2, .ref (z2 99)), (1, .ref (z1 99)), (0, .ref b)] [] (MW (zz Z z2) M ++ XW (zz Z z1) X) := by
  refine L_aload_n (pc := 241) (st := []) dL_law_241 2 rfl rfl ?_
  refine L_call (z := z1) (St' := XS) (Wd' := XW) (wr := MW (zz Z z2) M) (S' := X) (q0 := 0) (ci := 10) (na := 0) (av := []) (st := []) (pc := 242) dL_law_242 (c_X10_drop (zz Z z1) X (Rel_xOK h)) ⟨tw_311, tw_312, tw_313, tw_314, tw_1, by decide +kernel⟩ rfl rfl rfl rfl rfl (Nat.le_of_ble_eq_true rfl) (Nat.le_of_ble_eq_true rfl) (Nat.le_of_ble_eq_true rfl) (by omega) (by omega) (fun v X' hpx => ?_)
  obtain ⟨r, rfl⟩ := w_drop hpx
  refine L_swap (A := MW (zz Z z2) M) (B := XW (zz Z z1) X') ?_
  refine L_aload_n (pc := 245) (st := [.int r]) dL_law_245 1 rfl rfl ?_
  refine L_call (z := z2) (St' := MS) (Wd' := MW) (wr := XW (zz Z z1) X') (S' := M) (q0 := 0) (ci := 11) (na := 0) (av := []) (st := [.int r]) (pc := 246) dL_law_246 (cM_drop (zz Z z2) M) ⟨tw_986, tw_987, tw_988, tw_989, tw_6, by decide +kernel⟩ rfl rfl rfl rfl rfl (Nat.le_of_ble_eq_true rfl) (Nat.le_of_ble_eq_true rfl) (Nat.le_of_ble_eq_true rfl) (by omega) (by omega) (fun v' M' hpm => ?_)
  obtain ⟨r', e1, rfl, hR⟩ := q_drop h hpx hpm
  cases e1
  refine L_swap (A := XW (zz Z z1) X') (B := MW (zz Z z2) M') ?_
  refine L_icmp_eq (x := r) (y := r) (st := []) (tgt := 1542) (pc := 249) dL_law_249 (by decide) (fun _ => ?_) (fun hz => absurd rfl hz)
  exact L_widen (by omega) (by omega) (kk X' M' hR)
theorem law_2 {Z : VZ} {z1 z2 : Nat → Nat} {b L : Nat} {xs : Nat → Int32} {n k i : Nat} {X : XS} {M : MS} (hL : L ≤ 3584) (hi : i + 7 ≤ L) (h : Rel X M) (hn : n + 100 ≤ 624007) (hk : k + 1000 ≤ 7230226) (kk : ∀ X' M', Rel X' M' → VL Z b L xs (n + 16) (k + 96) 1542 [(3, .int (nI i)), (2, .ref (z2 99)), (1, .ref (z1 99)), (0, .ref b)] [] (MW (zz Z z2) M' ++ XW (zz Z z1) X')) : VL Z b L xs n k 254 [(3, .int (nI i)), (2, .ref (z2 99)), (1, .ref (z1 99)), (0, .ref b)] [] (MW (zz Z z2) M ++ XW (zz Z z1) X) := by
  refine L_aload_n (pc := 254) (st := []) dL_law_254 2 rfl rfl ?_
  refine L_arg (i := i) (j := 1) (q0 := 3) (q1 := 0) (pc := 255) (st := [.ref (z1 99)]) hL (by omega) rfl rfl (by decide) dL_law_255 dL_law_256 dL_law_257 dL_law_258 dL_law_259 ?_
  refine L_arg (i := i) (j := 2) (q0 := 3) (q1 := 0) (pc := 260) (st := [.int (xs (i + 1)), .ref (z1 99)]) hL (by omega) rfl rfl (by decide) dL_law_260 dL_law_261 dL_law_262 dL_law_263 dL_law_264 ?_
  refine L_arg (i := i) (j := 3) (q0 := 3) (q1 := 0) (pc := 265) (st := [.int (xs (i + 2)), .int (xs (i + 1)), .ref (z1 99)]) hL (by omega) rfl rfl (by decide) dL_law_265 dL_law_266 dL_law_267 dL_law_268 dL_law_269 ?_
  refine L_call (z := z1) (St' := XS) (Wd' := XW) (wr := MW (zz Z z2) M) (S' := X) (q0 := 0) (ci := 10) (na := 3) (av := [.int (xs (i + 1)), .int (xs (i + 2)), .int (xs (i + 3))]) (st := []) (pc := 270) dL_law_270 (c_X10_set (zz Z z1) X (xs (i + 1)) (xs (i + 2)) (xs (i + 3)) (Rel_xOK h)) ⟨tw_315, tw_316, tw_317, tw_318, tw_1, by decide +kernel⟩ rfl rfl rfl rfl rfl (Nat.le_of_ble_eq_true rfl) (Nat.le_of_ble_eq_true rfl) (Nat.le_of_ble_eq_true rfl) (by omega) (by omega) (fun v X' hpx => ?_)
  obtain ⟨r, rfl⟩ := w_set hpx
  refine L_swap (A := MW (zz Z z2) M) (B := XW (zz Z z1) X') ?_
  refine L_aload_n (pc := 273) (st := [.int r]) dL_law_273 1 rfl rfl ?_
  refine L_arg (i := i) (j := 1) (q0 := 3) (q1 := 0) (pc := 274) (st := [.ref (z2 99), .int r]) hL (by omega) rfl rfl (by decide) dL_law_274 dL_law_275 dL_law_276 dL_law_277 dL_law_278 ?_
  refine L_arg (i := i) (j := 2) (q0 := 3) (q1 := 0) (pc := 279) (st := [.int (xs (i + 1)), .ref (z2 99), .int r]) hL (by omega) rfl rfl (by decide) dL_law_279 dL_law_280 dL_law_281 dL_law_282 dL_law_283 ?_
  refine L_arg (i := i) (j := 3) (q0 := 3) (q1 := 0) (pc := 284) (st := [.int (xs (i + 2)), .int (xs (i + 1)), .ref (z2 99), .int r]) hL (by omega) rfl rfl (by decide) dL_law_284 dL_law_285 dL_law_286 dL_law_287 dL_law_288 ?_
  refine L_call (z := z2) (St' := MS) (Wd' := MW) (wr := XW (zz Z z1) X') (S' := M) (q0 := 0) (ci := 11) (na := 3) (av := [.int (xs (i + 1)), .int (xs (i + 2)), .int (xs (i + 3))]) (st := [.int r]) (pc := 289) dL_law_289 (cM_set (zz Z z2) M (xs (i + 1)) (xs (i + 2)) (xs (i + 3)) (Rel_mOK h)) ⟨tw_990, tw_991, tw_992, tw_993, tw_6, by decide +kernel⟩ rfl rfl rfl rfl rfl (Nat.le_of_ble_eq_true rfl) (Nat.le_of_ble_eq_true rfl) (Nat.le_of_ble_eq_true rfl) (by omega) (by omega) (fun v' M' hpm => ?_)
  obtain ⟨r', e1, rfl, hR⟩ := q_set h hpx hpm
  cases e1
  refine L_swap (A := XW (zz Z z1) X') (B := MW (zz Z z2) M') ?_
  refine L_icmp_eq (x := r) (y := r) (st := []) (tgt := 1542) (pc := 292) dL_law_292 (by decide) (fun _ => ?_) (fun hz => absurd rfl hz)
  exact L_widen (by omega) (by omega) (kk X' M' hR)
theorem law_3 {Z : VZ} {z1 z2 : Nat → Nat} {b L : Nat} {xs : Nat → Int32} {n k i : Nat} {X : XS} {M : MS} (hL : L ≤ 3584) (hi : i + 7 ≤ L) (h : Rel X M) (hn : n + 100 ≤ 624007) (hk : k + 1000 ≤ 7230226) (kk : ∀ X' M', Rel X' M' → VL Z b L xs (n + 16) (k + 96) 1542 [(3, .int (nI i)), (2, .ref (z2 99)), (1, .ref (z1 99)), (0, .ref b)] [] (MW (zz Z z2) M' ++ XW (zz Z z1) X')) : VL Z b L xs n k 297 [(3, .int (nI i)), (2, .ref (z2 99)), (1, .ref (z1 99)), (0, .ref b)] [] (MW (zz Z z2) M ++ XW (zz Z z1) X) := by
  refine L_aload_n (pc := 297) (st := []) dL_law_297 2 rfl rfl ?_
  refine L_arg (i := i) (j := 1) (q0 := 3) (q1 := 0) (pc := 298) (st := [.ref (z1 99)]) hL (by omega) rfl rfl (by decide) dL_law_298 dL_law_299 dL_law_300 dL_law_301 dL_law_302 ?_
  refine L_arg (i := i) (j := 2) (q0 := 3) (q1 := 0) (pc := 303) (st := [.int (xs (i + 1)), .ref (z1 99)]) hL (by omega) rfl rfl (by decide) dL_law_303 dL_law_304 dL_law_305 dL_law_306 dL_law_307 ?_
  refine L_call (z := z1) (St' := XS) (Wd' := XW) (wr := MW (zz Z z2) M) (S' := X) (q0 := 0) (ci := 10) (na := 2) (av := [.int (xs (i + 1)), .int (xs (i + 2))]) (st := []) (pc := 308) dL_law_308 (c_X10_of (zz Z z1) X (xs (i + 1)) (xs (i + 2)) (Rel_xOK h)) ⟨tw_326, tw_327, tw_328, tw_329, tw_1, by decide +kernel⟩ rfl rfl rfl rfl rfl (Nat.le_of_ble_eq_true rfl) (Nat.le_of_ble_eq_true rfl) (Nat.le_of_ble_eq_true rfl) (by omega) (by omega) (fun v X' hpx => ?_)
  obtain ⟨r, rfl⟩ := w_of hpx
  refine L_swap (A := MW (zz Z z2) M) (B := XW (zz Z z1) X') ?_
  refine L_aload_n (pc := 311) (st := [.int r]) dL_law_311 1 rfl rfl ?_
  refine L_arg (i := i) (j := 1) (q0 := 3) (q1 := 0) (pc := 312) (st := [.ref (z2 99), .int r]) hL (by omega) rfl rfl (by decide) dL_law_312 dL_law_313 dL_law_314 dL_law_315 dL_law_316 ?_
  refine L_arg (i := i) (j := 2) (q0 := 3) (q1 := 0) (pc := 317) (st := [.int (xs (i + 1)), .ref (z2 99), .int r]) hL (by omega) rfl rfl (by decide) dL_law_317 dL_law_318 dL_law_319 dL_law_320 dL_law_321 ?_
  refine L_call (z := z2) (St' := MS) (Wd' := MW) (wr := XW (zz Z z1) X') (S' := M) (q0 := 0) (ci := 11) (na := 2) (av := [.int (xs (i + 1)), .int (xs (i + 2))]) (st := [.int r]) (pc := 322) dL_law_322 (cM_of (zz Z z2) M (xs (i + 1)) (xs (i + 2)) (Rel_mOK h)) ⟨tw_1006, tw_1007, tw_1008, tw_1009, tw_6, by decide +kernel⟩ rfl rfl rfl rfl rfl (Nat.le_of_ble_eq_true rfl) (Nat.le_of_ble_eq_true rfl) (Nat.le_of_ble_eq_true rfl) (by omega) (by omega) (fun v' M' hpm => ?_)
  obtain ⟨r', e1, rfl, hR⟩ := q_of h hpx hpm
  cases e1
  refine L_swap (A := XW (zz Z z1) X') (B := MW (zz Z z2) M') ?_
  refine L_icmp_eq (x := r) (y := r) (st := []) (tgt := 1542) (pc := 325) dL_law_325 (by decide) (fun _ => ?_) (fun hz => absurd rfl hz)
  exact L_widen (by omega) (by omega) (kk X' M' hR)
theorem law_4 {Z : VZ} {z1 z2 : Nat → Nat} {b L : Nat} {xs : Nat → Int32} {n k i : Nat} {X : XS} {M : MS} (hL : L ≤ 3584) (hi : i + 7 ≤ L) (h : Rel X M) (hn : n + 100 ≤ 624007) (hk : k + 1000 ≤ 7230226) (kk : ∀ X' M', Rel X' M' → VL Z b L xs (n + 16) (k + 96) 1542 [(3, .int (nI i)), (2, .ref (z2 99)), (1, .ref (z1 99)), (0, .ref b)] [] (MW (zz Z z2) M' ++ XW (zz Z z1) X')) : VL Z b L xs n k 330 [(3, .int (nI i)), (2, .ref (z2 99)), (1, .ref (z1 99)), (0, .ref b)] [] (MW (zz Z z2) M ++ XW (zz Z z1) X) := by
  refine L_aload_n (pc := 330) (st := []) dL_law_330 2 rfl rfl ?_
  refine L_arg (i := i) (j := 1) (q0 := 3) (q1 := 0) (pc := 331) (st := [.ref (z1 99)]) hL (by omega) rfl rfl (by decide) dL_law_331 dL_law_332 dL_law_333 dL_law_334 dL_law_335 ?_
  refine L_arg (i := i) (j := 2) (q0 := 3) (q1 := 0) (pc := 336) (st := [.int (xs (i + 1)), .ref (z1 99)]) hL (by omega) rfl rfl (by decide) dL_law_336 dL_law_337 dL_law_338 dL_law_339 dL_law_340 ?_
  refine L_call (z := z1) (St' := XS) (Wd' := XW) (wr := MW (zz Z z2) M) (S' := X) (q0 := 0) (ci := 10) (na := 2) (av := [.int (xs (i + 1)), .int (xs (i + 2))]) (st := []) (pc := 341) dL_law_341 (c_X10_taken (zz Z z1) X (xs (i + 1)) (xs (i + 2)) (Rel_xOK h)) ⟨tw_340, tw_341, tw_342, tw_343, tw_1, by decide +kernel⟩ rfl rfl rfl rfl rfl (Nat.le_of_ble_eq_true rfl) (Nat.le_of_ble_eq_true rfl) (Nat.le_of_ble_eq_true rfl) (by omega) (by omega) (fun v X' hpx => ?_)
  obtain ⟨r, rfl⟩ := w_taken hpx
  refine L_swap (A := MW (zz Z z2) M) (B := XW (zz Z z1) X') ?_
  refine L_aload_n (pc := 344) (st := [.int r]) dL_law_344 1 rfl rfl ?_
  refine L_arg (i := i) (j := 1) (q0 := 3) (q1 := 0) (pc := 345) (st := [.ref (z2 99), .int r]) hL (by omega) rfl rfl (by decide) dL_law_345 dL_law_346 dL_law_347 dL_law_348 dL_law_349 ?_
  refine L_arg (i := i) (j := 2) (q0 := 3) (q1 := 0) (pc := 350) (st := [.int (xs (i + 1)), .ref (z2 99), .int r]) hL (by omega) rfl rfl (by decide) dL_law_350 dL_law_351 dL_law_352 dL_law_353 dL_law_354 ?_
  refine L_call (z := z2) (St' := MS) (Wd' := MW) (wr := XW (zz Z z1) X') (S' := M) (q0 := 0) (ci := 11) (na := 2) (av := [.int (xs (i + 1)), .int (xs (i + 2))]) (st := [.int r]) (pc := 355) dL_law_355 (cM_taken (zz Z z2) M (xs (i + 1)) (xs (i + 2)) (Rel_mOK h)) ⟨tw_1021, tw_1022, tw_1023, tw_1024, tw_6, by decide +kernel⟩ rfl rfl rfl rfl rfl (Nat.le_of_ble_eq_true rfl) (Nat.le_of_ble_eq_true rfl) (Nat.le_of_ble_eq_true rfl) (by omega) (by omega) (fun v' M' hpm => ?_)
  obtain ⟨r', e1, rfl, hR⟩ := q_taken h hpx hpm
  cases e1
  refine L_swap (A := XW (zz Z z1) X') (B := MW (zz Z z2) M') ?_
  refine L_icmp_eq (x := r) (y := r) (st := []) (tgt := 1542) (pc := 358) dL_law_358 (by decide) (fun _ => ?_) (fun hz => absurd rfl hz)
  exact L_widen (by omega) (by omega) (kk X' M' hR)
theorem law_5 {Z : VZ} {z1 z2 : Nat → Nat} {b L : Nat} {xs : Nat → Int32} {n k i : Nat} {X : XS} {M : MS} (hL : L ≤ 3584) (hi : i + 7 ≤ L) (h : Rel X M) (hn : n + 100 ≤ 624007) (hk : k + 1000 ≤ 7230226) (kk : ∀ X' M', Rel X' M' → VL Z b L xs (n + 16) (k + 96) 1542 [(3, .int (nI i)), (2, .ref (z2 99)), (1, .ref (z1 99)), (0, .ref b)] [] (MW (zz Z z2) M' ++ XW (zz Z z1) X')) : VL Z b L xs n k 363 [(3, .int (nI i)), (2, .ref (z2 99)), (1, .ref (z1 99)), (0, .ref b)] [] (MW (zz Z z2) M ++ XW (zz Z z1) X) := by
  refine L_aload_n (pc := 363) (st := []) dL_law_363 2 rfl rfl ?_
  refine L_arg (i := i) (j := 1) (q0 := 3) (q1 := 0) (pc := 364) (st := [.ref (z1 99)]) hL (by omega) rfl rfl (by decide) dL_law_364 dL_law_365 dL_law_366 dL_law_367 dL_law_368 ?_
  refine L_arg (i := i) (j := 2) (q0 := 3) (q1 := 0) (pc := 369) (st := [.int (xs (i + 1)), .ref (z1 99)]) hL (by omega) rfl rfl (by decide) dL_law_369 dL_law_370 dL_law_371 dL_law_372 dL_law_373 ?_
  refine L_call (z := z1) (St' := XS) (Wd' := XW) (wr := MW (zz Z z2) M) (S' := X) (q0 := 0) (ci := 10) (na := 2) (av := [.int (xs (i + 1)), .int (xs (i + 2))]) (st := []) (pc := 374) dL_law_374 (c_X10_step (zz Z z1) X (xs (i + 1)) (xs (i + 2)) (Rel_xOK h)) ⟨tw_347, tw_348, tw_349, tw_350, tw_1, by decide +kernel⟩ rfl rfl rfl rfl rfl (Nat.le_of_ble_eq_true rfl) (Nat.le_of_ble_eq_true rfl) (Nat.le_of_ble_eq_true rfl) (by omega) (by omega) (fun v X' hpx => ?_)
  obtain ⟨r, rfl⟩ := w_step hpx
  refine L_swap (A := MW (zz Z z2) M) (B := XW (zz Z z1) X') ?_
  refine L_aload_n (pc := 377) (st := [.int r]) dL_law_377 1 rfl rfl ?_
  refine L_arg (i := i) (j := 1) (q0 := 3) (q1 := 0) (pc := 378) (st := [.ref (z2 99), .int r]) hL (by omega) rfl rfl (by decide) dL_law_378 dL_law_379 dL_law_380 dL_law_381 dL_law_382 ?_
  refine L_arg (i := i) (j := 2) (q0 := 3) (q1 := 0) (pc := 383) (st := [.int (xs (i + 1)), .ref (z2 99), .int r]) hL (by omega) rfl rfl (by decide) dL_law_383 dL_law_384 dL_law_385 dL_law_386 dL_law_387 ?_
  refine L_call (z := z2) (St' := MS) (Wd' := MW) (wr := XW (zz Z z1) X') (S' := M) (q0 := 0) (ci := 11) (na := 2) (av := [.int (xs (i + 1)), .int (xs (i + 2))]) (st := [.int r]) (pc := 388) dL_law_388 (cM_step (zz Z z2) M (xs (i + 1)) (xs (i + 2)) (Rel_mOK h)) ⟨tw_1028, tw_1029, tw_1030, tw_1031, tw_6, by decide +kernel⟩ rfl rfl rfl rfl rfl (Nat.le_of_ble_eq_true rfl) (Nat.le_of_ble_eq_true rfl) (Nat.le_of_ble_eq_true rfl) (by omega) (by omega) (fun v' M' hpm => ?_)
  obtain ⟨r', e1, rfl, hR⟩ := q_step h hpx hpm
  cases e1
  refine L_swap (A := XW (zz Z z1) X') (B := MW (zz Z z2) M') ?_
  refine L_icmp_eq (x := r) (y := r) (st := []) (tgt := 1542) (pc := 391) dL_law_391 (by decide) (fun _ => ?_) (fun hz => absurd rfl hz)
  exact L_widen (by omega) (by omega) (kk X' M' hR)
theorem law_6 {Z : VZ} {z1 z2 : Nat → Nat} {b L : Nat} {xs : Nat → Int32} {n k i : Nat} {X : XS} {M : MS} (hL : L ≤ 3584) (hi : i + 7 ≤ L) (h : Rel X M) (hn : n + 100 ≤ 624007) (hk : k + 1000 ≤ 7230226) (kk : ∀ X' M', Rel X' M' → VL Z b L xs (n + 16) (k + 96) 1542 [(3, .int (nI i)), (2, .ref (z2 99)), (1, .ref (z1 99)), (0, .ref b)] [] (MW (zz Z z2) M' ++ XW (zz Z z1) X')) : VL Z b L xs n k 396 [(3, .int (nI i)), (2, .ref (z2 99)), (1, .ref (z1 99)), (0, .ref b)] [] (MW (zz Z z2) M ++ XW (zz Z z1) X) := by
  refine L_aload_n (pc := 396) (st := []) dL_law_396 2 rfl rfl ?_
  refine L_arg (i := i) (j := 1) (q0 := 3) (q1 := 0) (pc := 397) (st := [.ref (z1 99)]) hL (by omega) rfl rfl (by decide) dL_law_397 dL_law_398 dL_law_399 dL_law_400 dL_law_401 ?_
  refine L_arg (i := i) (j := 2) (q0 := 3) (q1 := 0) (pc := 402) (st := [.int (xs (i + 1)), .ref (z1 99)]) hL (by omega) rfl rfl (by decide) dL_law_402 dL_law_403 dL_law_404 dL_law_405 dL_law_406 ?_
  refine L_arg (i := i) (j := 3) (q0 := 3) (q1 := 0) (pc := 407) (st := [.int (xs (i + 2)), .int (xs (i + 1)), .ref (z1 99)]) hL (by omega) rfl rfl (by decide) dL_law_407 dL_law_408 dL_law_409 dL_law_410 dL_law_411 ?_
  refine L_call (z := z1) (St' := XS) (Wd' := XW) (wr := MW (zz Z z2) M) (S' := X) (q0 := 0) (ci := 10) (na := 3) (av := [.int (xs (i + 1)), .int (xs (i + 2)), .int (xs (i + 3))]) (st := []) (pc := 412) dL_law_412 (c_X10_then (zz Z z1) X (xs (i + 1)) (xs (i + 2)) (xs (i + 3)) (Rel_xOK h)) ⟨tw_405, tw_406, tw_407, tw_408, tw_1, by decide +kernel⟩ rfl rfl rfl rfl rfl (Nat.le_of_ble_eq_true rfl) (Nat.le_of_ble_eq_true rfl) (Nat.le_of_ble_eq_true rfl) (by omega) (by omega) (fun v X' hpx => ?_)
  obtain ⟨r, rfl⟩ := w_then hpx
  refine L_swap (A := MW (zz Z z2) M) (B := XW (zz Z z1) X') ?_
  refine L_aload_n (pc := 415) (st := [.int r]) dL_law_415 1 rfl rfl ?_
  refine L_arg (i := i) (j := 1) (q0 := 3) (q1 := 0) (pc := 416) (st := [.ref (z2 99), .int r]) hL (by omega) rfl rfl (by decide) dL_law_416 dL_law_417 dL_law_418 dL_law_419 dL_law_420 ?_
  refine L_arg (i := i) (j := 2) (q0 := 3) (q1 := 0) (pc := 421) (st := [.int (xs (i + 1)), .ref (z2 99), .int r]) hL (by omega) rfl rfl (by decide) dL_law_421 dL_law_422 dL_law_423 dL_law_424 dL_law_425 ?_
  refine L_arg (i := i) (j := 3) (q0 := 3) (q1 := 0) (pc := 426) (st := [.int (xs (i + 2)), .int (xs (i + 1)), .ref (z2 99), .int r]) hL (by omega) rfl rfl (by decide) dL_law_426 dL_law_427 dL_law_428 dL_law_429 dL_law_430 ?_
  refine L_call (z := z2) (St' := MS) (Wd' := MW) (wr := XW (zz Z z1) X') (S' := M) (q0 := 0) (ci := 11) (na := 3) (av := [.int (xs (i + 1)), .int (xs (i + 2)), .int (xs (i + 3))]) (st := [.int r]) (pc := 431) dL_law_431 (cM_then (zz Z z2) M (xs (i + 1)) (xs (i + 2)) (xs (i + 3)) (Rel_mOK h)) ⟨tw_1052, tw_1053, tw_1054, tw_1055, tw_6, by decide +kernel⟩ rfl rfl rfl rfl rfl (Nat.le_of_ble_eq_true rfl) (Nat.le_of_ble_eq_true rfl) (Nat.le_of_ble_eq_true rfl) (by omega) (by omega) (fun v' M' hpm => ?_)
  obtain ⟨r', e1, rfl, hR⟩ := q_then h hpx hpm
  cases e1
  refine L_swap (A := XW (zz Z z1) X') (B := MW (zz Z z2) M') ?_
  refine L_icmp_eq (x := r) (y := r) (st := []) (tgt := 1542) (pc := 434) dL_law_434 (by decide) (fun _ => ?_) (fun hz => absurd rfl hz)
  exact L_widen (by omega) (by omega) (kk X' M' hR)
