/-- the class's rows of words and numbers, and how many clauses stand there -/
def xB (S : XS) (n : Int32) (W N : Nat → Int32) : XS := (fun j => if j = 32 then n else S.1 j, S.2.1, fun j => if j = 33 then W else if j = 34 then N else S.2.2.1 j, S.2.2.2)
theorem xTB_w (S : XS) (n : Int32) (W N F : Nat → Int32) (a k t v : Int32) : xA (xTk (xB S n W N) a k t v) 33 F = xTk (xB S n F N) a k t v := by
  refine Prod.ext rfl (Prod.ext rfl (Prod.ext (funext fun j => ?_) rfl))
  simp only [xTk, xB, xA, va_up]
  repeat' split
  all_goals first | rfl | omega
theorem xTB_n (S : XS) (n : Int32) (W N F : Nat → Int32) (a k t v : Int32) : xA (xTk (xB S n W N) a k t v) 34 F = xTk (xB S n W F) a k t v := by
  refine Prod.ext rfl (Prod.ext rfl (Prod.ext (funext fun j => ?_) rfl))
  simp only [xTk, xB, xA, va_up]
  repeat' split
  all_goals first | rfl | omega
theorem xTB_c (S : XS) (n x : Int32) (W N : Nat → Int32) (a k t v : Int32) : xF (xTk (xB S n W N) a k t v) 32 x = xTk (xB S x W N) a k t v := by
  refine Prod.ext (funext fun j => ?_) rfl
  simp only [xTk, xB, xF, va_up]
  repeat' split
  all_goals first | rfl | omega
theorem xTB_0 (S : XS) : xF (xF S 35 0) 32 0 = xTk (xB S 0 (S.2.2.1 33) (S.2.2.1 34)) 0 (S.1 36) (S.1 37) (S.1 38) := by
  refine Prod.ext (funext fun j => ?_) (Prod.ext rfl (Prod.ext (funext fun j => ?_) rfl))
  · simp only [xTk, xB, xF, va_up]
    repeat' split
    all_goals first | rfl | (subst_vars; rfl) | omega
  · simp only [xTk, xB, xF, va_up]
    repeat' split
    all_goals first | rfl | (subst_vars; rfl)
theorem mny_i (a : Int32) : (if a = 0 then 4 else if a = 5 then 0 else 2 : Int32) = nI (mny a) := by
  unfold mny
  repeat' split
  all_goals rfl
set_option maxHeartbeats 4000000 in
set_option maxRecDepth 100000 in
theorem c_X7_numbersOf (Z : VZ) (S : XS) (a_ : Int32) : CtF XW Z yX7_numbersOf cX7_numbersOf 1 (some .int) 0 0 0 [.int a_] (S) (some (.int (nI (mny a_)))) (S) := by
  refine V_entry (own := RX7) (by decide) rfl (Nat.le_of_ble_eq_true rfl) ?_
  intro B hB
  refine V_sub (L' := [(0, .int a_)]) [0] rfl ?_
  refine V_iload_n (pc := 0) dX7_numbersOf_0 0 rfl rfl ?_
  by_cases h1_0 : a_ = 0
  · refine V_eqi 0 h1_0 ?_
    refine V_lookup (pc := 1) (tgt := 28) dX7_numbersOf_1 (by decide) rfl (by decide) ?_
    refine V_iconst (v := 4) (pc := 28) dX7_numbersOf_28 (by decide) ?_
    exact V_iret (pc := 29) dX7_numbersOf_29 (Nat.le_of_ble_eq_true rfl) (Nat.le_of_ble_eq_true rfl) (hB _ _ ⟨congrArg (fun z => some (Value.int z)) (by rw [← mny_i]; exact (if_pos h1_0).symm), by rfl⟩)
  by_cases h1_5 : a_ = 5
  · refine V_eqi 5 h1_5 ?_
    refine V_lookup (pc := 1) (tgt := 30) dX7_numbersOf_1 (by decide) rfl (by decide) ?_
    refine V_iconst (v := 0) (pc := 30) dX7_numbersOf_30 (by decide) ?_
    exact V_iret (pc := 31) dX7_numbersOf_31 (Nat.le_of_ble_eq_true rfl) (Nat.le_of_ble_eq_true rfl) (hB _ _ ⟨congrArg (fun z => some (Value.int z)) (by rw [← mny_i, if_neg h1_0, if_pos h1_5]), by rfl⟩)
  refine V_lookup (pc := 1) (tgt := 32) (off := 31) dX7_numbersOf_1 (by decide) (by exact (lv_osw h1_0 rfl).trans ((lv_osw h1_5 rfl).trans (rfl))) (by decide) ?_
  refine V_iconst (v := 2) (pc := 32) dX7_numbersOf_32 (by decide) ?_
  exact V_iret (pc := 33) dX7_numbersOf_33 (Nat.le_of_ble_eq_true rfl) (Nat.le_of_ble_eq_true rfl) (hB _ _ ⟨congrArg (fun z => some (Value.int z)) (by rw [← mny_i, if_neg h1_0, if_neg h1_5]), by rfl⟩)
set_option maxHeartbeats 4000000 in
set_option maxRecDepth 100000 in
theorem c_X7_numberOf (Z : VZ) (S : XS) (c_ q_ : Nat) (hc : c_ < 16) (hq : q_ < 4) : CtF XW Z yX7_numberOf cX7_numberOf 4 (some .int) 0 0 0 [.ref (Z.2.2.2 5), .int (nI c_), .int (nI q_)] (S) (some (.int (S.2.2.1 34 (4 * c_ + q_)))) (S) := by
  refine V_entry (own := RX7) (by decide) rfl (Nat.le_of_ble_eq_true rfl) ?_
  intro B hB
  refine V_sub (L' := [(0, .ref (Z.2.2.2 5)), (1, .int (nI c_)), (2, .int (nI q_))]) [0, 1, 2] rfl ?_
  refine V_iload_n (pc := 0) dX7_numberOf_0 1 rfl rfl ?_
  refine V_iconst (v := 4) (pc := 1) dX7_numberOf_1 (by decide) ?_
  refine V_imul (pc := 2) dX7_numberOf_2 ?_
  refine V_iload_n (pc := 3) dX7_numberOf_3 2 rfl rfl ?_
  refine V_iadd (pc := 4) dX7_numberOf_4 ?_
  refine V_eqi (nI (4 * c_ + q_)) (by rw [nI4, nI_add]) ?_
  refine V_istore_n (pc := 5) (L2 := [(0, .ref (Z.2.2.2 5)), (1, .int (nI c_)), (2, .int (nI q_))]) dX7_numberOf_5 rfl (by decide) rfl (fun x3_5 ex3_5 => ?_)
  subst ex3_5
  refine V_iload_n (pc := 6) dX7_numberOf_6 0 rfl rfl ?_
  refine V_if_lt (pc := 7) (tgt := 28) dX7_numberOf_7 (by decide) (fun h7 => ?_) (fun h7 => ?_)
  · skip
    exact absurd h7 (nI_pos (by omega))
  · skip
    refine V_iload_n (pc := 10) dX7_numberOf_10 0 rfl rfl ?_
    refine V_aload_n (pc := 11) dX7_numberOf_11 1 rfl rfl ?_
    refine Xg_X7_25 (pc := 12) dX7_numberOf_12 ?_
    refine Xn_34 (pc := 15) dX7_numberOf_15 ?_
    refine V_icmp_ge (pc := 16) (tgt := 28) dX7_numberOf_16 (by decide) (fun h16 => ?_) (fun h16 => ?_)
    · skip
      exact absurd h16 (Int32.not_le.mpr (nI_lt (b := 64) (by omega) (by decide)))
    · skip
      refine V_aload_n (pc := 19) dX7_numberOf_19 1 rfl rfl ?_
      refine Xg_X7_25 (pc := 20) dX7_numberOf_20 ?_
      refine V_iload_n (pc := 23) dX7_numberOf_23 0 rfl rfl ?_
      refine Xl_34 (pc := 24) dX7_numberOf_24 (by exact vp_in_nI (by omega) (by decide)) ?_
      refine V_goto (pc := 25) (tgt := 29) dX7_numberOf_25 (by decide) ?_
      exact V_iret (pc := 29) dX7_numberOf_29 (Nat.le_of_ble_eq_true rfl) (Nat.le_of_ble_eq_true rfl) (hB _ _ ⟨congrArg (fun z => some (Value.int z)) (by rw [nI_clamp (by omega)]), by rfl⟩)
set_option maxHeartbeats 4000000 in
set_option maxRecDepth 100000 in
theorem c_X7_wordOf (Z : VZ) (S : XS) (c_ : Nat) (hc : c_ < 16) : CtF XW Z yX7_wordOf cX7_wordOf 2 (some .int) 0 0 0 [.ref (Z.2.2.2 5), .int (nI c_)] (S) (some (.int (S.2.2.1 33 c_))) (S) := by
  refine V_entry (own := RX7) (by decide) rfl (Nat.le_of_ble_eq_true rfl) ?_
  intro B hB
  refine V_sub (L' := [(0, .ref (Z.2.2.2 5)), (1, .int (nI c_))]) [0, 1] rfl ?_
  refine V_iload_n (pc := 0) dX7_wordOf_0 1 rfl rfl ?_
  refine V_if_lt (pc := 1) (tgt := 22) dX7_wordOf_1 (by decide) (fun h1 => ?_) (fun h1 => ?_)
  · skip
    exact absurd h1 (nI_pos (by omega))
  · skip
    refine V_iload_n (pc := 4) dX7_wordOf_4 1 rfl rfl ?_
    refine V_aload_n (pc := 5) dX7_wordOf_5 0 rfl rfl ?_
    refine Xg_X7_22 (pc := 6) dX7_wordOf_6 ?_
    refine Xn_33 (pc := 9) dX7_wordOf_9 ?_
    refine V_icmp_ge (pc := 10) (tgt := 22) dX7_wordOf_10 (by decide) (fun h10 => ?_) (fun h10 => ?_)
    · skip
      exact absurd h10 (Int32.not_le.mpr (nI_lt (b := 16) (by omega) (by decide)))
    · skip
      refine V_aload_n (pc := 13) dX7_wordOf_13 0 rfl rfl ?_
      refine Xg_X7_22 (pc := 14) dX7_wordOf_14 ?_
      refine V_iload_n (pc := 17) dX7_wordOf_17 1 rfl rfl ?_
      refine Xl_33 (pc := 18) dX7_wordOf_18 (by exact vp_in_nI (by omega) (by decide)) ?_
      refine V_goto (pc := 19) (tgt := 23) dX7_wordOf_19 (by decide) ?_
      exact V_iret (pc := 23) dX7_wordOf_23 (Nat.le_of_ble_eq_true rfl) (Nat.le_of_ble_eq_true rfl) (hB _ _ ⟨congrArg (fun z => some (Value.int z)) (by rw [nI_clamp (by omega)]), by rfl⟩)
set_option maxHeartbeats 4000000 in
set_option maxRecDepth 100000 in
theorem c_X7_add (Z : VZ) (S : XS) (n_ : Nat) (x_ : Int32) (hn : S.1 31 = nI n_) (hn6 : n_ < 60) : CtF XW Z yX7_add cX7_add 2 none 0 0 0 [.ref (Z.2.2.2 5), .int x_] (S) none (xF (xA S 30 (upd (S.2.2.1 30) n_ x_)) 31 (nI (n_ + 1))) := by
  refine V_entry (own := RX7) (by decide) rfl (Nat.le_of_ble_eq_true rfl) ?_
  intro B hB
  refine V_sub (L' := [(0, .ref (Z.2.2.2 5)), (1, .int x_)]) [0, 1] rfl ?_
  refine V_aload_n (pc := 0) dX7_add_0 0 rfl rfl ?_
  refine Xg_X7_15 (pc := 1) (v := (nI n_)) hn dX7_add_1 ?_
  refine V_if_lt (pc := 4) (tgt := 39) dX7_add_4 (by decide) (fun h4 => ?_) (fun h4 => ?_)
  · skip
    exact absurd h4 (nI_pos (by omega))
  · skip
    refine V_aload_n (pc := 7) dX7_add_7 0 rfl rfl ?_
    refine Xg_X7_15 (pc := 8) (v := (nI n_)) hn dX7_add_8 ?_
    refine V_aload_n (pc := 11) dX7_add_11 0 rfl rfl ?_
    refine Xg_X7_11 (pc := 12) dX7_add_12 ?_
    refine Xn_30 (pc := 15) dX7_add_15 ?_
    refine V_icmp_ge (pc := 16) (tgt := 39) dX7_add_16 (by decide) (fun h16 => ?_) (fun h16 => ?_)
    · skip
      exact absurd h16 (Int32.not_le.mpr (nI_lt (b := 60) (by omega) (by decide)))
    · skip
      refine V_aload_n (pc := 19) dX7_add_19 0 rfl rfl ?_
      refine Xg_X7_11 (pc := 20) dX7_add_20 ?_
      refine V_aload_n (pc := 23) dX7_add_23 0 rfl rfl ?_
      refine Xg_X7_15 (pc := 24) (v := (nI n_)) hn dX7_add_24 ?_
      refine V_iload_n (pc := 27) dX7_add_27 1 rfl rfl ?_
      refine Xs_30 (pc := 28) dX7_add_28 (by exact vp_in_nI (by omega) (by decide)) ?_
      refine V_aload_n (pc := 29) dX7_add_29 0 rfl rfl ?_
      refine V_dup (pc := 30) dX7_add_30 rfl ?_
      refine Xg_X7_15 (pc := 31) (v := (nI n_)) hn dX7_add_31 ?_
      refine V_iconst (v := 1) (pc := 34) dX7_add_34 (by decide) ?_
      refine V_iadd (pc := 35) dX7_add_35 ?_
      refine Xp_X7_15 (pc := 36) dX7_add_36 ?_
      exact V_vret (pc := 39) dX7_add_39 (Nat.le_of_ble_eq_true rfl) (Nat.le_of_ble_eq_true rfl) (hB _ _ ⟨rfl, by rw [nI_clamp (by omega), nI_1]⟩)
