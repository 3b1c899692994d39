theorem set_keep {S S' : XS} {m w v : Int32} (h : setX S m w v S') : (∀ i, S'.1 i = S.1 i) ∧ S'.2.1 = S.2.1 ∧ S'.2.2.1 = S.2.2.1 ∧ S'.2.2.2.1 = S.2.2.2.1 := by
  rcases h with ⟨_, rfl⟩ | ⟨_, ⟨_, rfl⟩ | ⟨_, rfl⟩ | ⟨_, ⟨_, rfl⟩ | ⟨_, q, _, rfl⟩⟩ | ⟨_, ⟨_, rfl⟩ | ⟨_, q, _, rfl⟩⟩⟩
  · exact ⟨fun _ => rfl, rfl, rfl, rfl⟩
  · split <;> exact ⟨fun _ => rfl, rfl, rfl, rfl⟩
  · split <;> exact ⟨fun _ => rfl, rfl, rfl, rfl⟩
  all_goals exact ⟨fun _ => rfl, rfl, rfl, rfl⟩
theorem cse_keep {S S' : XS} {w a b c d : Int32} (h : cseX S w a b c d S') : (∀ i, i ≠ 1 → S'.1 i = S.1 i) ∧ S'.2.1 = S.2.1 ∧ S'.2.2.1 = S.2.2.1 ∧ S'.2.2.2.1 = S.2.2.2.1 := by
  rcases h with ⟨_, h⟩ | ⟨_, h⟩ | ⟨_, h⟩ | ⟨_, h⟩ | ⟨_, rfl⟩ | ⟨_, rfl⟩ | ⟨_, _, _, _, _, _, rfl⟩
  · exact mch_keep h
  · exact ⟨fun i _ => (set_keep h).1 i, (set_keep h).2⟩
  · exact ⟨fun i _ => (set_keep h).1 i, (set_keep h).2⟩
  · exact ⟨fun i _ => (set_keep h).1 i, (set_keep h).2⟩
  · unfold stpS
    split <;> exact ⟨fun _ _ => rfl, rfl, rfl, rfl⟩
  · unfold drpS
    split
    · exact ⟨fun _ _ => rfl, rfl, rfl, rfl⟩
    · exact ⟨fun i hi => if_neg hi, rfl, rfl, rfl⟩
  · exact ⟨fun _ _ => rfl, rfl, rfl, rfl⟩
theorem xOK_M' {S : XS} (h : xOK S) (a : Nat) (g : Nat → Int32) : xOK (xM S a g) := h
theorem xOK_R' {S : XS} (h : xOK S) {i q c : Nat} {g : Nat → Int32} (hc : mcl c) (hq : q ∉ xL S) : xOK (xR (xN S q c g) i q) := by
  obtain ⟨n, hn, e, f⟩ := h
  refine ⟨n, hn, e, fun j hj => ?_⟩
  show ∃ a, (if j = i then some q else S.2.2.2.2.1 j) = some a ∧ a ∈ S.2.2.2.2.2.1 ++ [q] ∧ mcl (if a = q then c else xmk S a)
  split
  · exact ⟨q, rfl, List.mem_append_right _ (List.mem_singleton.mpr rfl), by rw [if_pos rfl]; exact hc⟩
  · obtain ⟨a, h1, h2, h3⟩ := f j hj
    exact ⟨a, h1, List.mem_append_left _ h2, by rw [if_neg (fun z : a = q => hq (z ▸ h2))]; exact h3⟩
theorem xOK_D' {S : XS} (h : xOK S) (h1 : ¬ S.1 1 < 1) : xOK (xD S) := by
  obtain ⟨n, hn, e, f⟩ := h
  rw [e] at h1
  have hn1 : 1 ≤ n := Nat.not_lt.mp (fun z => h1 (nI_lt (b := 1) z (by decide)))
  have e2 : S.1 1 - 1 = nI (n - 1) := by
    rw [e]
    rcases (show n = 1 ∨ n = 2 ∨ n = 3 ∨ n = 4 by omega) with rfl | rfl | rfl | rfl <;> decide
  refine ⟨n - 1, by omega, e2, fun j hj => ?_⟩
  obtain ⟨a, q1, q2, q3⟩ := f j (by omega)
  refine ⟨a, ?_, q2, q3⟩
  show (if j = (S.1 1 - 1).toNatClampNeg then none else S.2.2.2.2.1 j) = some a
  rw [e2, nI_clamp (by omega), if_neg (by omega)]
  exact q1
theorem kc_mcl (k : Int32) : mcl (kc k) := by
  unfold kc mcl
  repeat' split
  all_goals simp
theorem set_OK {S S' : XS} {m w v : Int32} (hx : xOK S) (h : setX S m w v S') : xOK S' := by
  rcases h with ⟨_, rfl⟩ | ⟨_, ⟨_, rfl⟩ | ⟨_, rfl⟩ | ⟨_, ⟨_, rfl⟩ | ⟨_, q, hq, rfl⟩⟩ | ⟨_, ⟨_, rfl⟩ | ⟨_, q, hq, rfl⟩⟩⟩
  · exact hx
  · split <;> exact hx
  · split <;> exact hx
  · exact hx
  · exact xOK_R' hx (kc_mcl _) hq
  · exact hx
  · exact xOK_R' hx (kc_mcl _) hq
theorem cse_OK {S S' : XS} {w a b c d : Int32} (hx : xOK S) (h : cseX S w a b c d S') : xOK S' := by
  rcases h with ⟨_, h⟩ | ⟨_, h⟩ | ⟨_, h⟩ | ⟨_, h⟩ | ⟨_, rfl⟩ | ⟨_, rfl⟩ | ⟨_, _, _, _, _, _, rfl⟩
  · exact mch_OK hx h
  · exact set_OK hx h
  · exact set_OK hx h
  · exact set_OK hx h
  · unfold stpS
    split <;> exact hx
  · unfold drpS
    split
    · exact hx
    · rename_i h1; exact xOK_D' hx h1
  · exact hx
/-- the clauses done one after another -/
def runX (S : XS) (W N : Nat → Int32) : Nat → Int32 → XS → Prop
  | 0, r, U => r = 0 ∧ U = S
  | j + 1, r, U => ∃ (r' : Int32) (U' : XS), runX S W N j r' U' ∧ cseX U' (W j) (N (4 * j + 0)) (N (4 * j + 1)) (N (4 * j + 2)) (N (4 * j + 3)) U ∧ r = if cseA U' (W j) (N (4 * j + 0)) (N (4 * j + 1)) (N (4 * j + 2)) (N (4 * j + 3)) = 0 then r' else r' + 1
theorem pOK_13 {T : Nat → Int32} {L c : Nat} (hL : L ≤ 60) (h : pOK T L c) : c ≤ 13 := by
  obtain ⟨d, rfl, h1, _⟩ := h
  have := pre_12 hL h1
  omega
theorem nI_m1 {x : Nat} (h : x ≤ 60) : ¬ nI x = -1 := fun z => nI_pos (n := x) (by omega) (by rw [z]; decide)
set_option maxHeartbeats 4000000 in
set_option maxRecDepth 100000 in
theorem c_X10_text (Z : VZ) (S : XS) (L_ : Nat) (hL : S.1 31 = nI L_) (hL6 : L_ ≤ 60) (hT : ∀ i, i < L_ → ¬ (S.2.2.1 30) i = -1) (hx : xOK S) : CtS XW Z yX10_text cX10_text 4 (some .int) 10 16 96 [.ref (Z.2.2.2 99)] (S) (fun v S' => ∃ (n : Int32) (W' N' : Nat → Int32) (a k t u r : Int32), v = some (.int r) ∧ ((∃ c, pOK (S.2.2.1 30) L_ c ∧ hldC (S.2.2.1 30) L_ c W' N' ∧ runX (xF (xTk (xB S n W' N') a k t u) 31 0) W' N' c r S') ∨ (∃ f, pNO (S.2.2.1 30) L_ f ∧ r = -100 - nI (tB (S.2.2.1 30) L_ f) ∧ S' = xF (xTk (xB S n W' N') a k t u) 31 0))) := by
  refine V_entryS (own := RX10) (by decide +kernel) rfl (Nat.le_of_ble_eq_true rfl) ?_
  intro B hB hst
  refine V_sub (L' := [(0, .ref (Z.2.2.2 99))]) [0] rfl ?_
  refine V_aload_n (pc := 0) dX10_text_0 0 rfl rfl ?_
  refine Xg_X10_37 (pc := 1) dX10_text_1 ?_
  refine V_callVS (q0 := 13) (ci := 7) (C := RX7) (T := TX7) (N := 9) (pc := 4) hst dX10_text_4 (c_X7_read Z _ L_ (by exact hL) (by exact hL6) (by exact hT)) kX10_243 rfl rfl rfl rfl (Nat.le_of_ble_eq_true rfl) (by decide) (by decide) (Nat.le_of_ble_eq_true rfl) (Nat.le_of_ble_eq_true rfl) (fun v4 S4 hp4 => ?_)
  obtain ⟨n, W', N', a, k, t, u, fv, rfl, rfl, hq⟩ := hp4
  refine V_istore_n (pc := 7) (L2 := [(0, .ref (Z.2.2.2 99))]) dX10_text_7 rfl (by decide) rfl (fun x1_7 ex1_7 => ?_)
  subst ex1_7
  refine V_aload_n (pc := 8) dX10_text_8 1 rfl rfl ?_
  refine Xg_X10_37 (pc := 9) dX10_text_9 ?_
  refine V_iconst (v := 0) (pc := 12) dX10_text_12 (by decide) ?_
  refine Xp_X10_242 (pc := 13) dX10_text_13 ?_
  obtain ⟨S1, eS1⟩ : ∃ S1, S1 = xF (xTk (xB S n W' N') a k t u) 31 0 := ⟨_, rfl⟩
  refine V_eqS S1 eS1.symm ?_
  refine V_iload_n (pc := 16) dX10_text_16 0 rfl rfl ?_
  refine V_iconst (v := (-1)) (pc := 17) dX10_text_17 (by decide) ?_
  refine V_icmp_eq (pc := 18) (tgt := 26) dX10_text_18 (by decide) (fun h18 => ?_) (fun h18 => ?_)
  · skip
    have hq2 : ∃ c, n = nI c ∧ pOK (S.2.2.1 30) L_ c ∧ hldC (S.2.2.1 30) L_ c W' N' := by
      rcases hq with ⟨_, h⟩ | ⟨f, e, _⟩
      · exact h
      · exact absurd (e.symm.trans h18) (nI_m1 (Nat.le_trans (tB_le _ _ _) hL6))
    obtain ⟨c, en, hok, hho⟩ := hq2
    have hc13 := pOK_13 hL6 hok
    have hx1 : xOK S1 := by rw [eS1]; exact hx
    have h32 : S1.1 32 = nI c := by rw [eS1]; exact en
    have h33 : S1.2.2.1 33 = W' := by rw [eS1]; rfl
    have h34 : S1.2.2.1 34 = N' := by rw [eS1]; rfl
    refine V_iconst (v := 0) (pc := 26) dX10_text_26 (by decide) ?_
    refine V_istore_n (pc := 27) (L2 := [(1, .int fv), (0, .ref (Z.2.2.2 99))]) dX10_text_27 rfl (by decide) rfl (fun x2_27 ex2_27 => ?_)
    subst ex2_27
    refine V_iconst (v := 0) (pc := 28) dX10_text_28 (by decide) ?_
    refine V_istore_n (pc := 29) (L2 := [(2, .int 0), (1, .int fv), (0, .ref (Z.2.2.2 99))]) dX10_text_29 rfl (by decide) rfl (fun x3_29 ex3_29 => ?_)
    subst ex3_29
    refine V_sub (L' := [(3, .int (nI 0)), (2, .int 0), (1, .int fv), (0, .ref (Z.2.2.2 99))]) [0, 1, 2, 3] rfl ?_
    refine V_widen (n' := ((0))) (k' := (6 * (0))) (by omega) (by omega) ?_
    refine Vloop (σ := Nat × Int32 × XS) (fun x => (x.1) ≤ c ∧ runX S1 W' N' (x.1) (x.2.1) (x.2.2) ∧ xOK (x.2.2) ∧ (x.2.2).1 32 = nI c ∧ (x.2.2).2.2.1 33 = W' ∧ (x.2.2).2.2.1 34 = N') (fun x => c - (x.1)) (fun x => V XW Z cX10_text RX10 4 (some .int) 10 16 96 B ((x.1)) (6 * (x.1)) 30 [(3, .int (nI (x.1))), (2, .int (x.2.1)), (1, .int fv), (0, .ref (Z.2.2.2 99))] [] ((x.2.2))) ?_ (0, 0, _) (by exact ⟨Nat.zero_le _, ⟨rfl, rfl⟩, hx1, h32, h33, h34⟩)
    rintro ⟨j, x, U_⟩ hI30 ih30
    have hI30 : j ≤ c ∧ runX S1 W' N' j x U_ ∧ xOK U_ ∧ U_.1 32 = nI c ∧ U_.2.2.1 33 = W' ∧ U_.2.2.1 34 = N' := hI30
    show V XW Z cX10_text RX10 4 (some .int) 10 16 96 B (j) (6 * j) 30 [(3, .int (nI j)), (2, .int x), (1, .int fv), (0, .ref (Z.2.2.2 99))] [] (U_)
    refine V_iload_n (pc := 30) dX10_text_30 0 rfl rfl ?_
    refine V_aload_n (pc := 31) dX10_text_31 3 rfl rfl ?_
    refine Xg_X10_37 (pc := 32) dX10_text_32 ?_
    refine Xg_X10_246 (pc := 35) (v := (nI c)) hI30.2.2.2.1 dX10_text_35 ?_
    refine V_icmp_ge (pc := 38) (tgt := 66) dX10_text_38 (by decide) (fun h38 => ?_) (fun h38 => ?_)
    · skip
      have hj : j = c := by
        have q := (nI_leI (by omega) (by omega)).mp h38
        omega
      refine V_iload_n (pc := 66) dX10_text_66 1 rfl rfl ?_
      exact V_iret (pc := 67) dX10_text_67 (by omega) (by omega) (hB _ _ (by exact ⟨n, W', N', a, k, t, u, x, rfl, Or.inl ⟨c, hok, hho, by rw [← eS1, ← hj]; exact hI30.2.1⟩⟩))
    · skip
      have hj : j < c := Nat.not_le.mp (fun q => h38 (nI_le q (by omega)))
      refine V_aload_n (pc := 41) dX10_text_41 3 rfl rfl ?_
      refine V_aload_n (pc := 42) dX10_text_42 3 rfl rfl ?_
      refine Xg_X10_37 (pc := 43) dX10_text_43 ?_
      refine V_iload_n (pc := 46) dX10_text_46 0 rfl rfl ?_
      refine V_callVi (q0 := 13) (ci := 7) (C := RX7) (T := TX7) (N := 9) (pc := 47) dX10_text_47 (c_X7_wordOf Z _ j (by omega)) kX10_249 rfl rfl rfl rfl (Nat.le_of_ble_eq_true rfl) (by decide) (by decide) (by omega) (by omega) ?_
      refine V_eqi (W' j) (by rw [hI30.2.2.2.2.1]) ?_
      refine V_iload_n (pc := 50) dX10_text_50 0 rfl rfl ?_
      refine V_callV (q0 := 0) (ci := 10) (C := RX10) (T := TX10) (N := 9) (pc := 51) dX10_text_51 (c_X10_doClause Z _ j _ (by exact hI30.2.2.1) (by omega)) kX10_252 rfl rfl rfl rfl (Nat.le_of_ble_eq_true rfl) (by decide) (by decide) (by omega) (by omega) (fun v51 S51 hp51 => ?_)
      refine V_widen (n' := ((j) + 1)) (k' := ((6 * j) + 6)) (Nat.le_refl _) (Nat.le_refl _) ?_
      obtain ⟨rfl, hp8⟩ := hp51
      have hp9 : cseX U_ (W' j) (N' (4 * j + 0)) (N' (4 * j + 1)) (N' (4 * j + 2)) (N' (4 * j + 3)) S51 := by rw [hI30.2.2.2.2.2] at hp8; exact hp8
      have k9 := cse_keep hp9
      refine V_eqi (cseA U_ (W' j) (N' (4 * j + 0)) (N' (4 * j + 1)) (N' (4 * j + 2)) (N' (4 * j + 3))) (by rw [hI30.2.2.2.2.2]) ?_
      refine V_if_eq (pc := 54) (tgt := 60) dX10_text_54 (by decide) (fun h54 => ?_) (fun h54 => ?_)
      · skip
        refine V_iinc (pc := 60) (v := 1) (L2 := [(2, .int x), (1, .int fv), (0, .ref (Z.2.2.2 99))]) dX10_text_60 0 rfl (by decide) (by decide) rfl (fun x3_60 ex3_60 => ?_)
        rw [nI_1] at ex3_60
        subst ex3_60
        refine V_goto (pc := 63) (tgt := 30) dX10_text_63 (by decide) ?_
        refine V_sub (L' := [(3, .int (nI (j + 1))), (2, .int x), (1, .int fv), (0, .ref (Z.2.2.2 99))]) [0, 1, 2, 3] rfl ?_
        refine V_widen (n' := (((j + 1)))) (k' := (6 * ((j + 1)))) (by omega) (by omega) ?_
        refine ih30 (((j + 1)), _, _) ?_ ?_
        · refine ⟨hj, ⟨x, U_, hI30.2.1, hp9, ?_⟩, cse_OK hI30.2.2.1 hp9, (k9.1 32 (by decide)).trans hI30.2.2.2.1, (congrFun k9.2.2.1 33).trans hI30.2.2.2.2.1, (congrFun k9.2.2.1 34).trans hI30.2.2.2.2.2⟩
          first | exact (if_pos h54).symm | exact (if_neg h54).symm
        · show c - (j + 1) < c - j
          omega
      · skip
        refine V_iinc (pc := 57) (v := 1) (L2 := [(3, .int (nI j)), (1, .int fv), (0, .ref (Z.2.2.2 99))]) dX10_text_57 1 rfl (by decide) (by decide) rfl (fun x2_57 ex2_57 => ?_)
        subst ex2_57
        refine V_iinc (pc := 60) (v := 1) (L2 := [(2, .int (x + 1)), (1, .int fv), (0, .ref (Z.2.2.2 99))]) dX10_text_60 1 rfl (by decide) (by decide) rfl (fun x3_60 ex3_60 => ?_)
        rw [nI_1] at ex3_60
        subst ex3_60
        refine V_goto (pc := 63) (tgt := 30) dX10_text_63 (by decide) ?_
        refine V_sub (L' := [(3, .int (nI (j + 1))), (2, .int (x + 1)), (1, .int fv), (0, .ref (Z.2.2.2 99))]) [0, 1, 2, 3] rfl ?_
        refine V_widen (n' := (((j + 1)))) (k' := (6 * ((j + 1)))) (by omega) (by omega) ?_
        refine ih30 (((j + 1)), _, _) ?_ ?_
        · refine ⟨hj, ⟨x, U_, hI30.2.1, hp9, ?_⟩, cse_OK hI30.2.2.1 hp9, (k9.1 32 (by decide)).trans hI30.2.2.2.1, (congrFun k9.2.2.1 33).trans hI30.2.2.2.2.1, (congrFun k9.2.2.1 34).trans hI30.2.2.2.2.2⟩
          first | exact (if_pos h54).symm | exact (if_neg h54).symm
        · show c - (j + 1) < c - j
          omega
  · skip
    refine V_bipush (v := (-100)) (pc := 21) dX10_text_21 (by decide) ?_
    refine V_iload_n (pc := 23) dX10_text_23 0 rfl rfl ?_
    refine V_isub (pc := 24) dX10_text_24 ?_
    exact V_iret (pc := 25) dX10_text_25 (Nat.le_of_ble_eq_true rfl) (Nat.le_of_ble_eq_true rfl) (hB _ _ (by rcases hq with ⟨e, _⟩ | ⟨f, e, hf⟩; exact absurd e h18; exact ⟨n, W', N', a, k, t, u, _, rfl, Or.inr ⟨f, hf, by rw [e], eS1⟩⟩))
