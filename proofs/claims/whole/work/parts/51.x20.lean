/-- two machines in thought beside the class -/
def xT (S : XS) (q1 q2 c : Nat) (g1 g2 : Nat → Int32) : XS := xN (xN S q1 c g1) q2 c g2
theorem mfoF_ne {S : XS} {q a c : Nat} {g : Nat → Int32} (hq : q ∉ xL S) (ha : a ∈ xL S) : mfo (xN S q c g) a = mfo S a := funext fun j => mfoN_ne hq ha j
theorem xT_ne {S : XS} {q1 q2 c : Nat} {g : Nat → Int32} (h : q2 ∉ xL (xN S q1 c g)) : q1 ≠ q2 := fun e => h (e ▸ in_xN S q1 c g)
theorem xT_in1 (S : XS) (q1 q2 c : Nat) (g1 g2 : Nat → Int32) : q1 ∈ xL (xT S q1 q2 c g1 g2) := List.mem_append_left _ (in_xN S q1 c g1)
theorem xT_in2 (S : XS) (q1 q2 c : Nat) (g1 g2 : Nat → Int32) : q2 ∈ xL (xT S q1 q2 c g1 g2) := in_xN _ q2 c g2
theorem xT_k2 (S : XS) (q1 q2 c : Nat) (g1 g2 : Nat → Int32) : xmk (xT S q1 q2 c g1 g2) q2 = c := xmk_xN _ _ _ _
theorem xT_k1 (S : XS) {q1 q2 : Nat} (c : Nat) (g1 g2 : Nat → Int32) (h : q1 ≠ q2) : xmk (xT S q1 q2 c g1 g2) q1 = c := (va_up_ne _ _ h).trans (xmk_xN _ _ _ _)
theorem xT_f2 (S : XS) (q1 q2 c : Nat) (g1 g2 : Nat → Int32) : mfo (xT S q1 q2 c g1 g2) q2 = g2 := mfo_xN _ _ _ _
theorem xT_f1 (S : XS) {q1 q2 : Nat} (c : Nat) (g1 g2 : Nat → Int32) (h : q1 ≠ q2) : mfo (xT S q1 q2 c g1 g2) q1 = g1 := (va_up_ne _ _ h).trans (mfo_xN _ _ _ _)
theorem xT_M2 (S : XS) (q1 q2 c : Nat) (g1 g2 g : Nat → Int32) : xM (xT S q1 q2 c g1 g2) q2 g = xT S q1 q2 c g1 g := xN_M _ _ _ _ _
theorem xT_M1 (S : XS) {q1 q2 : Nat} (c : Nat) (g1 g2 g : Nat → Int32) (h : q1 ≠ q2) : xM (xT S q1 q2 c g1 g2) q1 g = xT S q1 q2 c g g2 := by
  unfold xM xT xN
  simp only
  have e : va_up (va_up (va_up S.2.2.2.2.2.2.2 q1 g1) q2 g2) q1 g = va_up (va_up S.2.2.2.2.2.2.2 q1 g) q2 g2 := by
    funext j
    unfold va_up
    by_cases h1 : j = q1
    · subst h1
      rw [if_pos rfl, if_neg h, if_pos rfl]
    · rw [if_neg h1]
      by_cases h2 : j = q2
      · rw [if_pos h2, if_pos h2]
      · rw [if_neg h2, if_neg h2, if_neg h1, if_neg h1]
  rw [e]
theorem xT_cor (S : XS) {q1 q2 : Nat} (c : Nat) (g1 g2 g : Nat → Int32) (h1 : q1 ∉ xL S) (h2 : q2 ∉ xL (xN S q1 c g)) : xCor S (xT S q1 q2 c g1 g2) := xCor_tr (xCor_xN S c g1 h1) (xCor_xN _ c g2 h2)
theorem adv_eq {c i j : Nat} {g : Nat → Int32} (h3 : advN c i g 3 = advN c j g 3) (h4 : advN c i g 4 = advN c j g 4) : advN c i g = advN c j g := by
  funext k
  by_cases e3 : k = 3
  · rw [e3]; exact h3
  · by_cases e4 : k = 4
    · rw [e4]; exact h4
    · rw [advN_off c i g k e3 e4, advN_off c j g k e3 e4]
theorem adv_put (c i j : Nat) (g : Nat → Int32) : upd (upd (advN c i g) 3 (advN c j g 3)) 4 (advN c j g 4) = advN c j g := by
  funext k
  simp only [upd]
  by_cases e4 : k = 4
  · rw [if_pos e4, e4]
  · rw [if_neg e4]
    by_cases e3 : k = 3
    · rw [if_pos e3, e3]
    · rw [if_neg e3, advN_off c i g k e3 e4, advN_off c j g k e3 e4]
theorem xT_m2 (S : XS) (q1 q2 : Nat) (k : Int32) (g1 g2 : Nat → Int32) : mcl (xmk (xT S q1 q2 (kc k) g1 g2) q2) := by rw [xT_k2]; exact mcl_kc k
theorem xT_m1 (S : XS) {q1 q2 : Nat} (k : Int32) (g1 g2 : Nat → Int32) (h : q1 ≠ q2) : mcl (xmk (xT S q1 q2 (kc k) g1 g2) q1) := by rw [xT_k1 _ _ _ _ h]; exact mcl_kc k
/-- its steps come round before long -/
def orbX (c : Nat) (g : Nat → Int32) : Prop := ∃ i d, 1 ≤ d ∧ i + d ≤ 5000 ∧ advN c (i + d) g = advN c i g
theorem orb_hit {c : Nat} {g : Nat → Int32} (h : orbX c g) : ∃ d, 1 ≤ d ∧ d ≤ 5000 ∧ ∀ s, 5000 ≤ s → advN c (s + d) g = advN c s g := by
  obtain ⟨i, d, h1, h2, h3⟩ := h
  exact ⟨d, h1, by omega, fun s hs => fn_ge (F := adv c) h3 (by omega)⟩
def cycQ {σ : Type} (F : σ → σ) (x : σ) (w r : Int32) : Prop := ∃ n, (∃ s, retQ F x s n) ∧ ((w = 0 ∧ r = nI n) ∨ (¬ w = 0 ∧ ∃ a, ahdQ F x n a ∧ r = nI a))
theorem cyc_uni {σ : Type} {F : σ → σ} {x : σ} {w r r' : Int32} (h : cycQ F x w r) (k : cycQ F x w r') : r = r' := by
  obtain ⟨n, ⟨s, hs⟩, h2⟩ := h
  obtain ⟨m, ⟨t, ht⟩, k2⟩ := k
  obtain rfl := ret_uni hs ht
  rcases h2 with ⟨hw, rfl⟩ | ⟨hw, a, ha, rfl⟩
  · rcases k2 with ⟨_, rfl⟩ | ⟨kw, _⟩
    · rfl
    · exact absurd hw kw
  · rcases k2 with ⟨kw, _⟩ | ⟨_, b, hb, rfl⟩
    · exact absurd kw hw
    · rw [ahd_uni ha hb]
set_option maxHeartbeats 4000000 in
set_option maxRecDepth 100000 in
theorem c_X10_stepsRound (Z : VZ) (S : XS) (a_ : Nat) (ha : a_ ∈ xL S) (hm : mcl (xmk S a_)) (hor : orbX (kc (mfo S a_ 0)) (gT S a_)) : Ct XW Z yX10_stepsRound cX10_stepsRound 6 (some .int) 7 2 12 [.ref (a_)] (S) (fun v S' => (∃ n : Nat, n ≤ 20000 ∧ (∃ s, retQ (adv (kc (mfo S a_ 0))) (gT S a_) s n) ∧ v = some (.int (nI n))) ∧ xCor S S') := by
  refine V_entry (own := RX10) (by decide) rfl (Nat.le_of_ble_eq_true rfl) ?_
  intro B hB
  refine V_sub (L' := [(0, .ref (a_))]) [0] rfl ?_
  refine V_aload_n (pc := 0) dX10_stepsRound_0 0 rfl rfl ?_
  refine V_callS (pc := 1) dX10_stepsRound_1 (c_X10_thoughtOf Z _ _ (by exact ha) (by exact hm)) kX10_114 rfl (Nat.le_of_ble_eq_true rfl) (by decide) (by decide) (Nat.le_of_ble_eq_true rfl) (Nat.le_of_ble_eq_true rfl) (fun v1 S1 hp1 => ?_)
  refine V_widen (n' := 1) (k' := 6) (Nat.le_refl _) (Nat.le_refl _) ?_
  obtain ⟨q1_, rfl, hq1, rfl⟩ := hp1
  refine V_astore_n (pc := 4) (L2 := [(0, .ref (a_))]) dX10_stepsRound_4 rfl (by decide) rfl (fun x1_4 ex1_4 => ?_)
  subst ex1_4
  refine V_aload_n (pc := 5) dX10_stepsRound_5 1 rfl rfl ?_
  refine V_callS (pc := 6) dX10_stepsRound_6 (c_X10_thoughtOf Z _ _ (by exact List.mem_append_left _ ha) (by exact mclN_ne hq1 ha hm)) kX10_114 rfl (Nat.le_of_ble_eq_true rfl) (by decide) (by decide) (Nat.le_of_ble_eq_true rfl) (Nat.le_of_ble_eq_true rfl) (fun v6 S6 hp6 => ?_)
  refine V_widen (n' := 2) (k' := 12) (Nat.le_refl _) (Nat.le_refl _) ?_
  obtain ⟨q2_, rfl, hq2, rfl⟩ := hp6
  have hne := xT_ne hq2
  refine V_eqS (xT S q1_ q2_ (kc (mfo S a_ 0)) (gT S a_) (gT S a_)) (by show xN _ _ _ _ = _; rw [mfoF_ne hq1 ha]; rfl) ?_
  refine V_astore_n (pc := 9) (L2 := [(1, .ref (q1_)), (0, .ref (a_))]) dX10_stepsRound_9 rfl (by decide) rfl (fun x2_9 ex2_9 => ?_)
  subst ex2_9
  refine V_aload_n (pc := 10) dX10_stepsRound_10 0 rfl rfl ?_
  refine Xv_advance (pc := 11) (by first | exact xT_in2 _ _ _ _ _ _ | exact xT_in1 _ _ _ _ _ _) (by first | exact xT_m2 _ _ _ _ _ _ | exact xT_m1 _ _ _ _ hne) dX10_stepsRound_11 (Nat.le_of_ble_eq_true rfl) (by decide) (Nat.le_of_ble_eq_true rfl) (Nat.le_of_ble_eq_true rfl) ?_
  refine V_eqS (xT S q1_ q2_ (kc (mfo S a_ 0)) (advN (kc (mfo S a_ 0)) (1 - 1) (gT S a_)) (advN (kc (mfo S a_ 0)) (1 - 1 + 1) (gT S a_))) (by rw [xT_M2, xT_k2, xT_f2]; rfl) ?_
  refine V_pop (pc := 14) dX10_stepsRound_14 rfl ?_
  refine V_iconst (v := 1) (pc := 15) dX10_stepsRound_15 (by decide) ?_
  refine V_istore_n (pc := 16) (L2 := [(2, .ref (q2_)), (1, .ref (q1_)), (0, .ref (a_))]) dX10_stepsRound_16 rfl (by decide) rfl (fun x3_16 ex3_16 => ?_)
  subst ex3_16
  refine V_iconst (v := 1) (pc := 17) dX10_stepsRound_17 (by decide) ?_
  refine V_istore (pc := 18) (L2 := [(3, .int 1), (2, .ref (q2_)), (1, .ref (q1_)), (0, .ref (a_))]) dX10_stepsRound_18 (by decide) rfl (fun x4_18 ex4_18 => ?_)
  subst ex4_18
  refine V_iconst (v := 0) (pc := 20) dX10_stepsRound_20 (by decide) ?_
  refine V_istore (pc := 21) (L2 := [(4, .int 1), (3, .int 1), (2, .ref (q2_)), (1, .ref (q1_)), (0, .ref (a_))]) dX10_stepsRound_21 (by decide) rfl (fun x5_21 ex5_21 => ?_)
  subst ex5_21
  refine V_sub (L' := [(5, .int (nI 0)), (4, .int (nI 1)), (3, .int (nI 1)), (2, .ref (q2_)), (1, .ref (q1_)), (0, .ref (a_))]) [0, 1, 2, 3, 4, 5] rfl ?_
  refine Vloop (σ := Nat × Nat × Nat) (fun x => (x.1) + (x.2.1) = (x.2.2) + 2 ∧ 1 ≤ (x.1) ∧ (x.1) ≤ (x.2.1) ∧ (x.2.1) ≤ 10001 ∧ (∀ i, 1 ≤ i → i < (x.1) → advN (kc (mfo S a_ 0)) ((x.2.1) - 1 + i) (gT S a_) ≠ advN (kc (mfo S a_ 0)) ((x.2.1) - 1) (gT S a_))) (fun x => 40000 - (x.2.2)) (fun x => V XW Z cX10_stepsRound RX10 6 (some .int) 7 2 12 B 2 12 23 [(5, .int (nI (x.2.2))), (4, .int (nI (x.2.1))), (3, .int (nI (x.1))), (2, .ref (q2_)), (1, .ref (q1_)), (0, .ref (a_))] [] (xT S q1_ q2_ (kc (mfo S a_ 0)) (advN (kc (mfo S a_ 0)) ((x.2.1) - 1) (gT S a_)) (advN (kc (mfo S a_ 0)) ((x.2.1) - 1 + (x.1)) (gT S a_)))) ?_ (1, 1, 0) (by exact ⟨rfl, Nat.le_refl _, Nat.le_refl _, (by decide : (1 : Nat) ≤ 10001), fun i h1 h2 => absurd (show i < 1 from h2) (by omega)⟩)
  rintro ⟨l, r, j⟩ hI23 ih23
  have hI23 : l + r = j + 2 ∧ 1 ≤ l ∧ l ≤ r ∧ r ≤ 10001 ∧ (∀ i, 1 ≤ i → i < l → advN (kc (mfo S a_ 0)) (r - 1 + i) (gT S a_) ≠ advN (kc (mfo S a_ 0)) (r - 1) (gT S a_)) := hI23
  show V XW Z cX10_stepsRound RX10 6 (some .int) 7 2 12 B 2 12 23 [(5, .int (nI j)), (4, .int (nI r)), (3, .int (nI l)), (2, .ref (q2_)), (1, .ref (q1_)), (0, .ref (a_))] [] (xT S q1_ q2_ (kc (mfo S a_ 0)) (advN (kc (mfo S a_ 0)) (r - 1) (gT S a_)) (advN (kc (mfo S a_ 0)) (r - 1 + l) (gT S a_)))
  refine V_iload (pc := 23) dX10_stepsRound_23 0 rfl ?_
  refine V_ldc (pc := 25) dX10_stepsRound_25 tw_471 ?_
  refine V_icmp_ge (pc := 27) (tgt := 82) dX10_stepsRound_27 (by decide) (fun h27 => ?_) (fun h27 => ?_)
  · skip
    exact absurd h27 (Int32.not_le.mpr (nI_lt (b := 1000000) (by have := hI23; omega) (by decide)))
  · skip
    refine V_aload_n (pc := 30) dX10_stepsRound_30 3 rfl rfl ?_
    refine V_aload_n (pc := 31) dX10_stepsRound_31 4 rfl rfl ?_
    refine Xv_standsAs (pc := 32) (by exact xT_in1 _ _ _ _ _ _) (by exact xT_m1 _ _ _ _ hne) (by first | exact xT_in2 _ _ _ _ _ _ | exact xT_in1 _ _ _ _ _ _) (by first | exact xT_m2 _ _ _ _ _ _ | exact xT_m1 _ _ _ _ hne) dX10_stepsRound_32 (Nat.le_of_ble_eq_true rfl) (by decide) (Nat.le_of_ble_eq_true rfl) (Nat.le_of_ble_eq_true rfl) ?_
    refine V_bif_ne (pc := 35) (tgt := 82) dX10_stepsRound_35 (by decide) (fun h35 => ?_) (fun h35 => ?_)
    · skip
      have hx : advN (kc (mfo S a_ 0)) (r - 1 + l) (gT S a_) = advN (kc (mfo S a_ 0)) (r - 1) (gT S a_) := by
        rw [xT_f2, xT_f1 _ _ _ _ hne] at h35
        exact adv_eq h35.1 h35.2
      refine V_iload_n (pc := 82) dX10_stepsRound_82 2 rfl rfl ?_
      exact V_iret (pc := 83) dX10_stepsRound_83 (Nat.le_of_ble_eq_true rfl) (Nat.le_of_ble_eq_true rfl) (hB _ _ (by exact ⟨⟨l, by have := hI23; omega, ⟨r - 1, hI23.2.1, hx, hI23.2.2.2.2⟩, rfl⟩, xT_cor S _ _ _ _ hq1 hq2⟩))
    · skip
      have hx : advN (kc (mfo S a_ 0)) (r - 1 + l) (gT S a_) ≠ advN (kc (mfo S a_ 0)) (r - 1) (gT S a_) := fun z => h35 (by rw [xT_f2, xT_f1 _ _ _ _ hne, z]; exact ⟨rfl, rfl⟩)
      obtain ⟨v1, v2, v3, v4, v5⟩ := hI23
      refine V_iload_n (pc := 38) dX10_stepsRound_38 2 rfl rfl ?_
      refine V_iload (pc := 39) dX10_stepsRound_39 1 rfl ?_
      refine V_icmp_ne (pc := 41) (tgt := 68) dX10_stepsRound_41 (by decide) (fun h41 => ?_) (fun h41 => ?_)
      · skip
        have hlr : l ≠ r := fun z => h41 (by rw [z])
        refine V_aload_n (pc := 68) dX10_stepsRound_68 3 rfl rfl ?_
        refine Xv_advance (pc := 69) (by exact xT_in2 _ _ _ _ _ _) (by exact xT_m2 _ _ _ _ _ _) dX10_stepsRound_69 (Nat.le_of_ble_eq_true rfl) (by decide) (Nat.le_of_ble_eq_true rfl) (Nat.le_of_ble_eq_true rfl) ?_
        refine V_eqS (xT S q1_ q2_ (kc (mfo S a_ 0)) (advN (kc (mfo S a_ 0)) (r - 1) (gT S a_)) (advN (kc (mfo S a_ 0)) (r - 1 + (l + 1)) (gT S a_))) (by rw [xT_M2, xT_k2, xT_f2]; rfl) ?_
        refine V_pop (pc := 72) dX10_stepsRound_72 rfl ?_
        refine V_iinc (pc := 73) (v := 1) (L2 := [(5, .int (nI j)), (4, .int (nI r)), (2, .ref (q2_)), (1, .ref (q1_)), (0, .ref (a_))]) dX10_stepsRound_73 2 rfl (by decide) (by decide) rfl (fun x3_73 ex3_73 => ?_)
        rw [nI_1] at ex3_73
        subst ex3_73
        refine V_iinc (pc := 76) (v := 1) (L2 := [(3, .int (nI (l + 1))), (4, .int (nI r)), (2, .ref (q2_)), (1, .ref (q1_)), (0, .ref (a_))]) dX10_stepsRound_76 1 rfl (by decide) (by decide) rfl (fun x5_76 ex5_76 => ?_)
        rw [nI_1] at ex5_76
        subst ex5_76
        refine V_goto (pc := 79) (tgt := 23) dX10_stepsRound_79 (by decide) ?_
        refine V_sub (L' := [(5, .int (nI (j + 1))), (4, .int (nI r)), (3, .int (nI (l + 1))), (2, .ref (q2_)), (1, .ref (q1_)), (0, .ref (a_))]) [0, 2, 1, 3, 4, 5] rfl ?_
        refine ih23 (((l + 1)), (r), ((j + 1))) ?_ ?_
        · show ((l + 1)) + (r) = ((j + 1)) + 2 ∧ 1 ≤ ((l + 1)) ∧ ((l + 1)) ≤ (r) ∧ (r) ≤ 10001 ∧ (∀ i, 1 ≤ i → i < ((l + 1)) → advN (kc (mfo S a_ 0)) ((r) - 1 + i) (gT S a_) ≠ advN (kc (mfo S a_ 0)) ((r) - 1) (gT S a_))
          refine ⟨by omega, by omega, by omega, v4, fun i h1 h2 => ?_⟩
          rcases Nat.lt_or_ge i l with z | z
          · exact v5 i h1 z
          · have e : i = l := by omega
            rw [e]
            exact hx
        · show 40000 - (j + 1) < 40000 - j
          omega
      · skip
        have hlr : l = r := (nI_eq (by omega) (by omega)).mp h41
        have hr5 : r ≤ 5000 := by
          obtain ⟨d_, d1, d2, d3⟩ := orb_hit hor
          refine Nat.not_lt.mp (fun hlt => ?_)
          have d4 := d3 (r - 1) (by omega)
          rcases Nat.lt_or_ge d_ l with z | z
          · exact v5 d_ d1 z d4
          · have e : d_ = l := by omega
            exact hx (e ▸ d4)
        refine V_aload_n (pc := 44) dX10_stepsRound_44 4 rfl rfl ?_
        refine V_aload_n (pc := 45) dX10_stepsRound_45 3 rfl rfl ?_
        refine Xmg_state (pc := 46) (v := ((advN (kc (mfo S a_ 0)) (r - 1 + l) (gT S a_)) 3)) (by exact xT_in2 _ _ _ _ _ _) (by exact xT_m2 _ _ _ _ _ _) (by exact congrFun (xT_f2 _ _ _ _ _ _) 3) dX10_stepsRound_46 tw_210 (Or.inl rfl) ?_
        refine Xmp_state (pc := 49) (by exact xT_in1 _ _ _ _ _ _) (by exact xT_m1 _ _ _ _ hne) dX10_stepsRound_49 tw_210 (Or.inl rfl) ?_
        refine V_eqS (xT S q1_ q2_ (kc (mfo S a_ 0)) (upd (advN (kc (mfo S a_ 0)) (r - 1) (gT S a_)) 3 ((advN (kc (mfo S a_ 0)) (r - 1 + l) (gT S a_)) 3)) (advN (kc (mfo S a_ 0)) (r - 1 + l) (gT S a_))) (by refine (xT_M1 S _ _ _ _ hne).trans ?_; rw [show (xT S q1_ q2_ (kc (mfo S a_ 0)) (advN (kc (mfo S a_ 0)) (r - 1) (gT S a_)) (advN (kc (mfo S a_ 0)) (r - 1 + l) (gT S a_))).2.2.2.2.2.2.2 q1_ = _ from xT_f1 S _ _ _ hne]) ?_
        refine V_aload_n (pc := 52) dX10_stepsRound_52 4 rfl rfl ?_
        refine V_aload_n (pc := 53) dX10_stepsRound_53 3 rfl rfl ?_
        refine Xmg_carry (pc := 54) (v := ((advN (kc (mfo S a_ 0)) (r - 1 + l) (gT S a_)) 4)) (by exact xT_in2 _ _ _ _ _ _) (by exact xT_m2 _ _ _ _ _ _) (by exact congrFun (xT_f2 _ _ _ _ _ _) 4) dX10_stepsRound_54 tw_218 (Or.inl rfl) ?_
        refine Xmp_carry (pc := 57) (by exact xT_in1 _ _ _ _ _ _) (by exact xT_m1 _ _ _ _ hne) dX10_stepsRound_57 tw_218 (Or.inl rfl) ?_
        refine V_eqS (xT S q1_ q2_ (kc (mfo S a_ 0)) (advN (kc (mfo S a_ 0)) ((r * 2) - 1) (gT S a_)) (advN (kc (mfo S a_ 0)) ((r * 2) - 1 + 0) (gT S a_))) (by refine (xT_M1 S _ _ _ _ hne).trans ?_; rw [show (xT S q1_ q2_ (kc (mfo S a_ 0)) (upd (advN (kc (mfo S a_ 0)) (r - 1) (gT S a_)) 3 ((advN (kc (mfo S a_ 0)) (r - 1 + l) (gT S a_)) 3)) (advN (kc (mfo S a_ 0)) (r - 1 + l) (gT S a_))).2.2.2.2.2.2.2 q1_ = _ from xT_f1 S _ _ _ hne, adv_put, show r * 2 - 1 = r - 1 + l by omega]; rfl) ?_
        refine V_iload (pc := 60) dX10_stepsRound_60 1 rfl ?_
        refine V_iconst (v := 2) (pc := 62) dX10_stepsRound_62 (by decide) ?_
        refine V_imul (pc := 63) dX10_stepsRound_63 ?_
        refine V_istore (pc := 64) (L2 := [(5, .int (nI j)), (3, .int (nI l)), (2, .ref (q2_)), (1, .ref (q1_)), (0, .ref (a_))]) dX10_stepsRound_64 (by decide) rfl (fun r2 er2 => ?_)
        rw [show (2 : Int32) = nI 2 from rfl, pk_mul] at er2
        subst er2
        refine V_iconst (v := 0) (pc := 66) dX10_stepsRound_66 (by decide) ?_
        refine V_istore_n (pc := 67) (L2 := [(4, .int (nI (r * 2))), (5, .int (nI j)), (2, .ref (q2_)), (1, .ref (q1_)), (0, .ref (a_))]) dX10_stepsRound_67 rfl (by decide) rfl (fun x3_67 ex3_67 => ?_)
        subst ex3_67
        refine V_sub (L' := [(3, .int (nI 0)), (4, .int (nI (r * 2))), (5, .int (nI j)), (2, .ref (q2_)), (1, .ref (q1_)), (0, .ref (a_))]) [0, 1, 2, 3, 4, 5] rfl ?_
        refine V_aload_n (pc := 68) dX10_stepsRound_68 3 rfl rfl ?_
        refine Xv_advance (pc := 69) (by exact xT_in2 _ _ _ _ _ _) (by exact xT_m2 _ _ _ _ _ _) dX10_stepsRound_69 (Nat.le_of_ble_eq_true rfl) (by decide) (Nat.le_of_ble_eq_true rfl) (Nat.le_of_ble_eq_true rfl) ?_
        refine V_eqS (xT S q1_ q2_ (kc (mfo S a_ 0)) (advN (kc (mfo S a_ 0)) ((r * 2) - 1) (gT S a_)) (advN (kc (mfo S a_ 0)) ((r * 2) - 1 + (0 + 1)) (gT S a_))) (by rw [xT_M2, xT_k2, xT_f2]; rfl) ?_
        refine V_pop (pc := 72) dX10_stepsRound_72 rfl ?_
        refine V_iinc (pc := 73) (v := 1) (L2 := [(4, .int (nI (r * 2))), (5, .int (nI j)), (2, .ref (q2_)), (1, .ref (q1_)), (0, .ref (a_))]) dX10_stepsRound_73 0 rfl (by decide) (by decide) rfl (fun x3_73 ex3_73 => ?_)
        rw [nI_1] at ex3_73
        subst ex3_73
        refine V_iinc (pc := 76) (v := 1) (L2 := [(3, .int (nI (0 + 1))), (4, .int (nI (r * 2))), (2, .ref (q2_)), (1, .ref (q1_)), (0, .ref (a_))]) dX10_stepsRound_76 2 rfl (by decide) (by decide) rfl (fun x5_76 ex5_76 => ?_)
        rw [nI_1] at ex5_76
        subst ex5_76
        refine V_goto (pc := 79) (tgt := 23) dX10_stepsRound_79 (by decide) ?_
        refine V_sub (L' := [(5, .int (nI (j + 1))), (4, .int (nI (r * 2))), (3, .int (nI (0 + 1))), (2, .ref (q2_)), (1, .ref (q1_)), (0, .ref (a_))]) [0, 2, 1, 3, 4, 5] rfl ?_
        refine ih23 (((0 + 1)), ((r * 2)), ((j + 1))) ?_ ?_
        · show ((0 + 1)) + ((r * 2)) = ((j + 1)) + 2 ∧ 1 ≤ ((0 + 1)) ∧ ((0 + 1)) ≤ ((r * 2)) ∧ ((r * 2)) ≤ 10001 ∧ (∀ i, 1 ≤ i → i < ((0 + 1)) → advN (kc (mfo S a_ 0)) (((r * 2)) - 1 + i) (gT S a_) ≠ advN (kc (mfo S a_ 0)) (((r * 2)) - 1) (gT S a_))
          exact ⟨by omega, by omega, by omega, by omega, fun i h1 h2 => absurd h2 (by omega)⟩
        · show 40000 - (j + 1) < 40000 - j
          omega
set_option maxHeartbeats 4000000 in
set_option maxRecDepth 100000 in
theorem c_X10_stepsAhead (Z : VZ) (S : XS) (n_ : Nat) (a_ : Nat) (ha : a_ ∈ xL S) (hm : mcl (xmk S a_)) (hn9 : n_ ≤ 20000) (hor : ∃ s, s ≤ 10000 ∧ advN (kc (mfo S a_ 0)) (s + n_) (gT S a_) = advN (kc (mfo S a_ 0)) s (gT S a_)) : Ct XW Z yX10_stepsAhead cX10_stepsAhead 5 (some .int) 7 2 12 [.ref (a_), .int (nI n_)] (S) (fun v S' => (∃ a : Nat, ahdQ (adv (kc (mfo S a_ 0))) (gT S a_) n_ a ∧ v = some (.int (nI a))) ∧ xCor S S') := by
  refine V_entry (own := RX10) (by decide) rfl (Nat.le_of_ble_eq_true rfl) ?_
  intro B hB
  obtain ⟨s0, s1, s2⟩ := hor
  refine V_sub (L' := [(0, .ref (a_)), (1, .int (nI n_))]) [0, 1] rfl ?_
  refine V_aload_n (pc := 0) dX10_stepsAhead_0 0 rfl rfl ?_
  refine V_callS (pc := 1) dX10_stepsAhead_1 (c_X10_thoughtOf Z _ _ (by exact ha) (by exact hm)) kX10_114 rfl (Nat.le_of_ble_eq_true rfl) (by decide) (by decide) (Nat.le_of_ble_eq_true rfl) (Nat.le_of_ble_eq_true rfl) (fun v1 S1 hp1 => ?_)
  refine V_widen (n' := 1) (k' := 6) (Nat.le_refl _) (Nat.le_refl _) ?_
  obtain ⟨q1_, rfl, hq1, rfl⟩ := hp1
  refine V_astore_n (pc := 4) (L2 := [(0, .ref (a_)), (1, .int (nI n_))]) dX10_stepsAhead_4 rfl (by decide) rfl (fun x2_4 ex2_4 => ?_)
  subst ex2_4
  refine V_aload_n (pc := 5) dX10_stepsAhead_5 1 rfl rfl ?_
  refine V_callS (pc := 6) dX10_stepsAhead_6 (c_X10_thoughtOf Z _ _ (by exact List.mem_append_left _ ha) (by exact mclN_ne hq1 ha hm)) kX10_114 rfl (Nat.le_of_ble_eq_true rfl) (by decide) (by decide) (Nat.le_of_ble_eq_true rfl) (Nat.le_of_ble_eq_true rfl) (fun v6 S6 hp6 => ?_)
  refine V_widen (n' := 2) (k' := 12) (Nat.le_refl _) (Nat.le_refl _) ?_
  obtain ⟨q2_, rfl, hq2, rfl⟩ := hp6
  have hne := xT_ne hq2
  refine V_eqS (xT S q1_ q2_ (kc (mfo S a_ 0)) (gT S a_) (gT S a_)) (by show xN _ _ _ _ = _; rw [mfoF_ne hq1 ha]; rfl) ?_
  refine V_astore_n (pc := 9) (L2 := [(2, .ref (q1_)), (0, .ref (a_)), (1, .int (nI n_))]) dX10_stepsAhead_9 rfl (by decide) rfl (fun x3_9 ex3_9 => ?_)
  subst ex3_9
  refine V_iconst (v := 0) (pc := 10) dX10_stepsAhead_10 (by decide) ?_
  refine V_istore (pc := 11) (L2 := [(3, .ref (q2_)), (2, .ref (q1_)), (0, .ref (a_)), (1, .int (nI n_))]) dX10_stepsAhead_11 (by decide) rfl (fun x4_11 ex4_11 => ?_)
  subst ex4_11
  refine V_sub (L' := [(4, .int (nI 0)), (3, .ref (q2_)), (2, .ref (q1_)), (0, .ref (a_)), (1, .int (nI n_))]) [0, 1, 2, 3, 4] rfl ?_
  refine Vloop (σ := Nat) (fun x => x ≤ n_) (fun x => n_ - x) (fun x => V XW Z cX10_stepsAhead RX10 5 (some .int) 7 2 12 B 2 12 13 [(4, .int (nI x)), (3, .ref (q2_)), (2, .ref (q1_)), (0, .ref (a_)), (1, .int (nI n_))] [] (xT S q1_ q2_ (kc (mfo S a_ 0)) (gT S a_) (advN (kc (mfo S a_ 0)) x (gT S a_)))) ?_ 0 (by exact Nat.zero_le _)
  rintro j hI13 ih13
  have hI13 : j ≤ n_ := hI13
  show V XW Z cX10_stepsAhead RX10 5 (some .int) 7 2 12 B 2 12 13 [(4, .int (nI j)), (3, .ref (q2_)), (2, .ref (q1_)), (0, .ref (a_)), (1, .int (nI n_))] [] (xT S q1_ q2_ (kc (mfo S a_ 0)) (gT S a_) (advN (kc (mfo S a_ 0)) j (gT S a_)))
  refine V_iload (pc := 13) dX10_stepsAhead_13 0 rfl ?_
  refine V_iload_n (pc := 15) dX10_stepsAhead_15 4 rfl rfl ?_
  refine V_icmp_ge (pc := 16) (tgt := 30) dX10_stepsAhead_16 (by decide) (fun h16 => ?_) (fun h16 => ?_)
  · skip
    have hj : n_ ≤ j := (nI_leI (by omega) (by omega)).mp h16
    have ej : j = n_ := Nat.le_antisymm hI13 hj
    refine V_eqS (xT S q1_ q2_ (kc (mfo S a_ 0)) (advN (kc (mfo S a_ 0)) 0 (gT S a_)) (advN (kc (mfo S a_ 0)) (0 + n_) (gT S a_))) (by rw [ej, Nat.zero_add]; rfl) ?_
    refine V_iconst (v := 0) (pc := 30) dX10_stepsAhead_30 (by decide) ?_
    refine V_istore (pc := 31) (L2 := [(3, .ref (q2_)), (2, .ref (q1_)), (0, .ref (a_)), (1, .int (nI n_))]) dX10_stepsAhead_31 (by decide) rfl (fun x4_31 ex4_31 => ?_)
    subst ex4_31
    refine V_sub (L' := [(4, .int (nI 0)), (3, .ref (q2_)), (2, .ref (q1_)), (0, .ref (a_)), (1, .int (nI n_))]) [0, 1, 2, 3, 4] rfl ?_
    refine Vloop (σ := Nat) (fun x => x ≤ s0 ∧ (∀ i, i < x → advN (kc (mfo S a_ 0)) (i + n_) (gT S a_) ≠ advN (kc (mfo S a_ 0)) i (gT S a_))) (fun x => s0 - x) (fun x => V XW Z cX10_stepsAhead RX10 5 (some .int) 7 2 12 B 2 12 33 [(4, .int (nI x)), (3, .ref (q2_)), (2, .ref (q1_)), (0, .ref (a_)), (1, .int (nI n_))] [] (xT S q1_ q2_ (kc (mfo S a_ 0)) (advN (kc (mfo S a_ 0)) x (gT S a_)) (advN (kc (mfo S a_ 0)) (x + n_) (gT S a_)))) ?_ 0 (by exact ⟨Nat.zero_le _, fun i hi => absurd hi (Nat.not_lt_zero _)⟩)
    rintro j hI33 ih33
    have hI33 : j ≤ s0 ∧ (∀ i, i < j → advN (kc (mfo S a_ 0)) (i + n_) (gT S a_) ≠ advN (kc (mfo S a_ 0)) i (gT S a_)) := hI33
    show V XW Z cX10_stepsAhead RX10 5 (some .int) 7 2 12 B 2 12 33 [(4, .int (nI j)), (3, .ref (q2_)), (2, .ref (q1_)), (0, .ref (a_)), (1, .int (nI n_))] [] (xT S q1_ q2_ (kc (mfo S a_ 0)) (advN (kc (mfo S a_ 0)) j (gT S a_)) (advN (kc (mfo S a_ 0)) (j + n_) (gT S a_)))
    refine V_iload (pc := 33) dX10_stepsAhead_33 0 rfl ?_
    refine V_ldc (pc := 35) dX10_stepsAhead_35 tw_471 ?_
    refine V_icmp_ge (pc := 37) (tgt := 64) dX10_stepsAhead_37 (by decide) (fun h37 => ?_) (fun h37 => ?_)
    · skip
      exact absurd h37 (Int32.not_le.mpr (nI_lt (b := 1000000) (by have := hI33.1; omega) (by decide)))
    · skip
      refine V_aload_n (pc := 40) dX10_stepsAhead_40 1 rfl rfl ?_
      refine V_aload_n (pc := 41) dX10_stepsAhead_41 2 rfl rfl ?_
      refine Xv_standsAs (pc := 42) (by exact xT_in1 _ _ _ _ _ _) (by exact xT_m1 _ _ _ _ hne) (by first | exact xT_in2 _ _ _ _ _ _ | exact xT_in1 _ _ _ _ _ _) (by first | exact xT_m2 _ _ _ _ _ _ | exact xT_m1 _ _ _ _ hne) dX10_stepsAhead_42 (Nat.le_of_ble_eq_true rfl) (by decide) (Nat.le_of_ble_eq_true rfl) (Nat.le_of_ble_eq_true rfl) ?_
      refine V_bif_ne (pc := 45) (tgt := 64) dX10_stepsAhead_45 (by decide) (fun h45 => ?_) (fun h45 => ?_)
      · skip
        have hx : advN (kc (mfo S a_ 0)) (j + n_) (gT S a_) = advN (kc (mfo S a_ 0)) j (gT S a_) := by
          rw [xT_f2, xT_f1 _ _ _ _ hne] at h45
          exact adv_eq h45.1 h45.2
        refine V_iload (pc := 64) dX10_stepsAhead_64 0 rfl ?_
        exact V_iret (pc := 66) dX10_stepsAhead_66 (Nat.le_of_ble_eq_true rfl) (Nat.le_of_ble_eq_true rfl) (hB _ _ (by exact ⟨⟨j, ⟨hx, hI33.2⟩, rfl⟩, xT_cor S _ _ _ _ hq1 hq2⟩))
      · skip
        have hx : advN (kc (mfo S a_ 0)) (j + n_) (gT S a_) ≠ advN (kc (mfo S a_ 0)) j (gT S a_) := fun z => h45 (by rw [xT_f2, xT_f1 _ _ _ _ hne, z]; exact ⟨rfl, rfl⟩)
        refine V_aload_n (pc := 48) dX10_stepsAhead_48 2 rfl rfl ?_
        refine Xv_advance (pc := 49) (by exact xT_in1 _ _ _ _ _ _) (by exact xT_m1 _ _ _ _ hne) dX10_stepsAhead_49 (Nat.le_of_ble_eq_true rfl) (by decide) (Nat.le_of_ble_eq_true rfl) (Nat.le_of_ble_eq_true rfl) ?_
        refine V_eqS (xT S q1_ q2_ (kc (mfo S a_ 0)) (advN (kc (mfo S a_ 0)) (j + 1) (gT S a_)) (advN (kc (mfo S a_ 0)) (j + n_) (gT S a_))) (by rw [xT_M1 _ _ _ _ _ hne, xT_k1 _ _ _ _ hne, xT_f1 _ _ _ _ hne]; rfl) ?_
        refine V_pop (pc := 52) dX10_stepsAhead_52 rfl ?_
        refine V_aload_n (pc := 53) dX10_stepsAhead_53 1 rfl rfl ?_
        refine Xv_advance (pc := 54) (by exact xT_in2 _ _ _ _ _ _) (by exact xT_m2 _ _ _ _ _ _) dX10_stepsAhead_54 (Nat.le_of_ble_eq_true rfl) (by decide) (Nat.le_of_ble_eq_true rfl) (Nat.le_of_ble_eq_true rfl) ?_
        refine V_eqS (xT S q1_ q2_ (kc (mfo S a_ 0)) (advN (kc (mfo S a_ 0)) (j + 1) (gT S a_)) (advN (kc (mfo S a_ 0)) (j + 1 + n_) (gT S a_))) (by rw [xT_M2, xT_k2, xT_f2, show j + 1 + n_ = j + n_ + 1 by omega]; rfl) ?_
        refine V_pop (pc := 57) dX10_stepsAhead_57 rfl ?_
        refine V_iinc (pc := 58) (v := 1) (L2 := [(3, .ref (q2_)), (2, .ref (q1_)), (0, .ref (a_)), (1, .int (nI n_))]) dX10_stepsAhead_58 0 rfl (by decide) (by decide) rfl (fun x4_58 ex4_58 => ?_)
        rw [nI_1] at ex4_58
        subst ex4_58
        refine V_goto (pc := 61) (tgt := 33) dX10_stepsAhead_61 (by decide) ?_
        refine V_sub (L' := [(4, .int (nI (j + 1))), (3, .ref (q2_)), (2, .ref (q1_)), (0, .ref (a_)), (1, .int (nI n_))]) [0, 1, 2, 3, 4] rfl ?_
        refine ih33 ((j + 1)) ?_ ?_
        · show ((j + 1)) ≤ s0 ∧ (∀ i, i < ((j + 1)) → advN (kc (mfo S a_ 0)) (i + n_) (gT S a_) ≠ advN (kc (mfo S a_ 0)) i (gT S a_))
          have hjs : j ≠ s0 := fun z => hx (by rw [z]; exact s2)
          refine ⟨Nat.lt_of_le_of_ne hI33.1 hjs, fun i hi => ?_⟩
          by_cases e : i = j
          · rw [e]; exact hx
          · exact hI33.2 i (by omega)
        · show s0 - (j + 1) < s0 - j
          have hjs : j ≠ s0 := fun z => hx (by rw [z]; exact s2)
          have := Nat.lt_of_le_of_ne hI33.1 hjs
          omega
  · skip
    have hj : j < n_ := Nat.not_le.mp fun q => h16 (nI_le q (by omega))
    refine V_aload_n (pc := 19) dX10_stepsAhead_19 1 rfl rfl ?_
    refine Xv_advance (pc := 20) (by exact xT_in2 _ _ _ _ _ _) (by exact xT_m2 _ _ _ _ _ _) dX10_stepsAhead_20 (Nat.le_of_ble_eq_true rfl) (by decide) (Nat.le_of_ble_eq_true rfl) (Nat.le_of_ble_eq_true rfl) ?_
    refine V_eqS (xT S q1_ q2_ (kc (mfo S a_ 0)) (gT S a_) (advN (kc (mfo S a_ 0)) (j + 1) (gT S a_))) (by rw [xT_M2, xT_k2, xT_f2]; rfl) ?_
    refine V_pop (pc := 23) dX10_stepsAhead_23 rfl ?_
    refine V_iinc (pc := 24) (v := 1) (L2 := [(3, .ref (q2_)), (2, .ref (q1_)), (0, .ref (a_)), (1, .int (nI n_))]) dX10_stepsAhead_24 0 rfl (by decide) (by decide) rfl (fun x4_24 ex4_24 => ?_)
    rw [nI_1] at ex4_24
    subst ex4_24
    refine V_goto (pc := 27) (tgt := 13) dX10_stepsAhead_27 (by decide) ?_
    refine V_sub (L' := [(4, .int (nI (j + 1))), (3, .ref (q2_)), (2, .ref (q1_)), (0, .ref (a_)), (1, .int (nI n_))]) [0, 1, 2, 3, 4] rfl ?_
    refine ih13 ((j + 1)) ?_ ?_
    · show ((j + 1)) ≤ n_
      exact hj
    · show n_ - (j + 1) < n_ - j
      omega
theorem ret_ahd {c n : Nat} {g : Nat → Int32} (ho : orbX c g) (h : ∃ s, retQ (adv c) g s n) : ∃ s, s ≤ 10000 ∧ advN c (s + n) g = advN c s g := by
  obtain ⟨s, h1, h2, h3⟩ := h
  obtain ⟨d, d1, d2, d3⟩ := orb_hit ho
  refine ⟨5000, by omega, ?_⟩
  have a1 : advN c (5000 + s * d) g = advN c 5000 g := fn_mul (F := adv c) (d3 5000 (Nat.le_refl _)) s
  have hs : s ≤ 5000 + s * d := Nat.le_trans (Nat.le_mul_of_pos_right s d1) (Nat.le_add_left _ _)
  have a2 : advN c (5000 + s * d + n) g = advN c (5000 + s * d) g := fn_ge (F := adv c) h2 hs
  have a3 : advN c (5000 + s * d + n) g = advN c (5000 + n) g := fn_eqk (F := adv c) a1 n
  rw [← a3, a2, a1]
set_option maxHeartbeats 4000000 in
set_option maxRecDepth 100000 in
theorem c_X10_cycle (Z : VZ) (S : XS) (m_ : Int32) (w_ : Int32) (hx : xOK S) (hor : (0 ≤ m_ ∧ m_ < S.1 1) → orbX (kc (mfo S (xAd S m_) 0)) (gT S (xAd S m_))) : Ct XW Z yX10_cycle cX10_cycle 5 (some .int) 8 4 24 [.ref (Z.2.2.2 99), .int m_, .int w_] (S) (fun v S' => ((¬ ((0 ≤ m_ ∧ m_ < S.1 1) ∧ (0 ≤ w_ ∧ w_ ≤ 1)) ∧ v = some (.int (-2))) ∨ (((0 ≤ m_ ∧ m_ < S.1 1) ∧ (0 ≤ w_ ∧ w_ ≤ 1)) ∧ ∃ r, v = some (.int r) ∧ cycQ (adv (kc (mfo S (xAd S m_) 0))) (gT S (xAd S m_)) w_ r)) ∧ xCor S S') := by
  refine V_entry (own := RX10) (by decide) rfl (Nat.le_of_ble_eq_true rfl) ?_
  intro B hB
  refine V_sub (L' := [(0, .ref (Z.2.2.2 99)), (1, .int m_), (2, .int w_)]) [0, 1, 2] rfl ?_
  refine V_aload_n (pc := 0) dX10_cycle_0 0 rfl rfl ?_
  refine V_iload_n (pc := 1) dX10_cycle_1 1 rfl rfl ?_
  refine V_callV (q0 := 0) (ci := 10) (C := RX10) (T := TX10) (N := 9) (pc := 2) dX10_cycle_2 (c_X10_machineAt Z _ _ (by exact hx)) kX10_76 rfl rfl rfl rfl (Nat.le_of_ble_eq_true rfl) (by decide) (by decide) (Nat.le_of_ble_eq_true rfl) (Nat.le_of_ble_eq_true rfl) (fun v2 S2 hp2 => ?_)
  refine V_widen (n' := 0) (k' := 0) (Nat.le_refl _) (Nat.le_refl _) ?_
  obtain ⟨rfl, ⟨ma_, hvma_, hima_, hMma_, hama_, hmma_, rfl⟩ | ⟨hno2, rfl⟩⟩ := hp2
  · skip
    refine V_astore_n (pc := 5) (L2 := [(0, .ref (Z.2.2.2 99)), (1, .int m_), (2, .int w_)]) dX10_cycle_5 rfl (by decide) rfl (fun x3_5 ex3_5 => ?_)
    subst ex3_5
    refine V_aload_n (pc := 6) dX10_cycle_6 0 rfl rfl ?_
    refine V_ifnull (pc := 7) dX10_cycle_7 ?_
    refine V_iload_n (pc := 10) dX10_cycle_10 3 rfl rfl ?_
    refine V_iconst (v := 0) (pc := 11) dX10_cycle_11 (by decide) ?_
    refine V_iconst (v := 1) (pc := 12) dX10_cycle_12 (by decide) ?_
    refine V_callSi (pc := 13) dX10_cycle_13 (c_X10_between Z _ _ _ _) kX10_60 rfl (Nat.le_of_ble_eq_true rfl) (by decide) (by decide) (Nat.le_of_ble_eq_true rfl) (Nat.le_of_ble_eq_true rfl) ?_
    refine V_bif_ne (pc := 16) (tgt := 22) dX10_cycle_16 (by decide) (fun h16 => ?_) (fun h16 => ?_)
    · skip
      refine V_aload_n (pc := 22) dX10_cycle_22 0 rfl rfl ?_
      refine V_callS (pc := 23) dX10_cycle_23 (c_X10_stepsRound Z _ _ (by exact hama_) (by exact hmma_) (by exact xAd_eq hMma_ ▸ hor hima_)) kX10_191 rfl (Nat.le_of_ble_eq_true rfl) (by decide) (by decide) (Nat.le_of_ble_eq_true rfl) (Nat.le_of_ble_eq_true rfl) (fun v23 S23 hp23 => ?_)
      refine V_widen (n' := 2) (k' := 12) (Nat.le_refl _) (Nat.le_refl _) ?_
      obtain ⟨⟨n_, hn_, hr_, rfl⟩, hc_⟩ := hp23
      obtain ⟨kc1, kc2, kc3⟩ := hc_.2.2.2 ma_ hama_
      have ho_ : orbX (kc (mfo S ma_ 0)) (gT S ma_) := xAd_eq hMma_ ▸ hor hima_
      refine V_istore (pc := 26) (L2 := [(3, .ref (ma_)), (0, .ref (Z.2.2.2 99)), (1, .int m_), (2, .int w_)]) dX10_cycle_26 (by decide) rfl (fun x4_26 ex4_26 => ?_)
      subst ex4_26
      refine V_iload_n (pc := 28) dX10_cycle_28 4 rfl rfl ?_
      refine V_if_ne (pc := 29) (tgt := 37) dX10_cycle_29 (by decide) (fun h29 => ?_) (fun h29 => ?_)
      · skip
        refine V_aload_n (pc := 37) dX10_cycle_37 1 rfl rfl ?_
        refine V_iload (pc := 38) dX10_cycle_38 0 rfl ?_
        refine V_callS (pc := 40) dX10_cycle_40 (c_X10_stepsAhead Z _ _ _ (by exact kc1) (by rw [kc2]; exact hmma_) (by exact hn_) (by unfold gT; rw [kc3]; exact ret_ahd ho_ hr_)) kX10_194 rfl (Nat.le_of_ble_eq_true rfl) (by decide) (by decide) (Nat.le_of_ble_eq_true rfl) (Nat.le_of_ble_eq_true rfl) (fun v40 S40 hp40 => ?_)
        refine V_widen (n' := 4) (k' := 24) (Nat.le_refl _) (Nat.le_refl _) ?_
        unfold gT at hp40
        rw [kc3] at hp40
        obtain ⟨⟨a_, ha_, rfl⟩, hd_⟩ := hp40
        exact V_iret (pc := 43) dX10_cycle_43 (Nat.le_of_ble_eq_true rfl) (Nat.le_of_ble_eq_true rfl) (hB _ _ (by rw [xAd_eq hMma_]; first | exact ⟨Or.inr ⟨⟨hima_, h16⟩, _, rfl, n_, hr_, Or.inl ⟨h29, rfl⟩⟩, hc_⟩ | exact ⟨Or.inr ⟨⟨hima_, h16⟩, _, rfl, n_, hr_, Or.inr ⟨h29, a_, ha_, rfl⟩⟩, xCor_tr hc_ hd_⟩))
      · skip
        refine V_iload (pc := 32) dX10_cycle_32 0 rfl ?_
        refine V_goto (pc := 34) (tgt := 43) dX10_cycle_34 (by decide) ?_
        exact V_iret (pc := 43) dX10_cycle_43 (Nat.le_of_ble_eq_true rfl) (Nat.le_of_ble_eq_true rfl) (hB _ _ (by rw [xAd_eq hMma_]; first | exact ⟨Or.inr ⟨⟨hima_, h16⟩, _, rfl, n_, hr_, Or.inl ⟨h29, rfl⟩⟩, hc_⟩ | exact ⟨Or.inr ⟨⟨hima_, h16⟩, _, rfl, n_, hr_, Or.inr ⟨h29, a_, ha_, rfl⟩⟩, xCor_tr hc_ hd_⟩))
    · skip
      refine V_bipush (v := (-2)) (pc := 19) dX10_cycle_19 (by decide) ?_
      exact V_iret (pc := 21) dX10_cycle_21 (Nat.le_of_ble_eq_true rfl) (Nat.le_of_ble_eq_true rfl) (hB _ _ (by first | exact ⟨Or.inl ⟨fun h => hno2 h.1, rfl⟩, xCor_rfl _⟩ | exact ⟨Or.inl ⟨fun h => h16 h.2, rfl⟩, xCor_rfl _⟩))
  · skip
    refine V_astore_nN (L2 := [(0, .ref (Z.2.2.2 99)), (1, .int m_), (2, .int w_)]) (pc := 5) dX10_cycle_5  rfl (by decide) rfl ?_
    refine V_aload_nN (pc := 6) dX10_cycle_6 0 rfl rfl ?_
    refine V_ifnullN (pc := 7) (tgt := 19) dX10_cycle_7 (by decide) ?_
    refine V_bipush (v := (-2)) (pc := 19) dX10_cycle_19 (by decide) ?_
    exact V_iret (pc := 21) dX10_cycle_21 (Nat.le_of_ble_eq_true rfl) (Nat.le_of_ble_eq_true rfl) (hB _ _ (by first | exact ⟨Or.inl ⟨fun h => hno2 h.1, rfl⟩, xCor_rfl _⟩ | exact ⟨Or.inl ⟨fun h => h16 h.2, rfl⟩, xCor_rfl _⟩))
