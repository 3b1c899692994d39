def xTk (S : XS) (a k t v : Int32) : XS := (fun j => if j = 35 then a else if j = 36 then k else if j = 37 then t else if j = 38 then v else S.1 j, S.2)
theorem xTk_self (S : XS) : S = xTk S (S.1 35) (S.1 36) (S.1 37) (S.1 38) := by
  refine Prod.ext (funext fun j => ?_) rfl
  simp only [xTk]
  repeat' split
  all_goals first | rfl | (subst_vars; rfl)
theorem xTk_a (S : XS) (a k t v x : Int32) : xF (xTk S a k t v) 35 x = xTk S x k t v := by
  refine Prod.ext (funext fun j => ?_) rfl
  simp only [xTk, xF, va_up]
  repeat' split
  all_goals first | rfl | omega
theorem xTk_k (S : XS) (a k t v x : Int32) : xF (xTk S a k t v) 36 x = xTk S a x t v := by
  refine Prod.ext (funext fun j => ?_) rfl
  simp only [xTk, xF, va_up]
  repeat' split
  all_goals first | rfl | omega
theorem xTk_t (S : XS) (a k t v x : Int32) : xF (xTk S a k t v) 37 x = xTk S a k x v := by
  refine Prod.ext (funext fun j => ?_) rfl
  simp only [xTk, xF, va_up]
  repeat' split
  all_goals first | rfl | omega
theorem xTk_v (S : XS) (a k t v x : Int32) : xF (xTk S a k t v) 38 x = xTk S a k t x := by
  refine Prod.ext (funext fun j => ?_) rfl
  simp only [xTk, xF, va_up]
  repeat' split
  all_goals first | rfl | omega
theorem xTk_Tk (S : XS) (a k t v a' k' t' v' : Int32) : xTk (xTk S a k t v) a' k' t' v' = xTk S a' k' t' v' := by
  refine Prod.ext (funext fun j => ?_) rfl
  simp only [xTk]
  repeat' split
  all_goals first | rfl | omega
set_option maxHeartbeats 4000000 in
set_option maxRecDepth 100000 in
theorem c_X7_isLetter (Z : VZ) (S : XS) (c_ : Int32) : CtF XW Z yX7_isLetter cX7_isLetter 1 (some .boolean) 0 0 0 [.int c_] (S) (some (.int (bI (ltB c_ = true)))) (S) := by
  refine V_entry (own := RX7) (by decide) rfl (Nat.le_of_ble_eq_true rfl) ?_
  intro B hB
  refine V_sub (L' := [(0, .int c_)]) [0] rfl ?_
  refine V_iload_n (pc := 0) dX7_isLetter_0 0 rfl rfl ?_
  refine V_bipush (v := 97) (pc := 1) dX7_isLetter_1 (by decide) ?_
  refine V_icmp_lt (pc := 3) (tgt := 16) dX7_isLetter_3 (by decide) (fun h3 => ?_) (fun h3 => ?_)
  · skip
    refine V_iconst (v := 0) (pc := 16) dX7_isLetter_16 (by decide) ?_
    exact V_zret (pc := 17) dX7_isLetter_17 (Nat.le_of_ble_eq_true rfl) (Nat.le_of_ble_eq_true rfl) (Or.inl rfl) (hB _ _ ⟨congrArg (fun z => some (Value.int z)) (by first | exact (bI_t (by unfold ltB; exact decide_eq_true ⟨Int32.not_lt.mp h3, Int32.not_lt.mp h9⟩)).symm | exact (bI_f (by unfold ltB; intro z; exact absurd (of_decide_eq_true z).2 (Int32.not_le.mpr h9))).symm | exact (bI_f (by unfold ltB; intro z; exact absurd (of_decide_eq_true z).1 (Int32.not_le.mpr h3))).symm), by rfl⟩)
  · skip
    refine V_iload_n (pc := 6) dX7_isLetter_6 0 rfl rfl ?_
    refine V_bipush (v := 122) (pc := 7) dX7_isLetter_7 (by decide) ?_
    refine V_icmp_gt (pc := 9) (tgt := 16) dX7_isLetter_9 (by decide) (fun h9 => ?_) (fun h9 => ?_)
    · skip
      refine V_iconst (v := 0) (pc := 16) dX7_isLetter_16 (by decide) ?_
      exact V_zret (pc := 17) dX7_isLetter_17 (Nat.le_of_ble_eq_true rfl) (Nat.le_of_ble_eq_true rfl) (Or.inl rfl) (hB _ _ ⟨congrArg (fun z => some (Value.int z)) (by first | exact (bI_t (by unfold ltB; exact decide_eq_true ⟨Int32.not_lt.mp h3, Int32.not_lt.mp h9⟩)).symm | exact (bI_f (by unfold ltB; intro z; exact absurd (of_decide_eq_true z).2 (Int32.not_le.mpr h9))).symm | exact (bI_f (by unfold ltB; intro z; exact absurd (of_decide_eq_true z).1 (Int32.not_le.mpr h3))).symm), by rfl⟩)
    · skip
      refine V_iconst (v := 1) (pc := 12) dX7_isLetter_12 (by decide) ?_
      refine V_goto (pc := 13) (tgt := 17) dX7_isLetter_13 (by decide) ?_
      exact V_zret (pc := 17) dX7_isLetter_17 (Nat.le_of_ble_eq_true rfl) (Nat.le_of_ble_eq_true rfl) (Or.inr rfl) (hB _ _ ⟨congrArg (fun z => some (Value.int z)) (by first | exact (bI_t (by unfold ltB; exact decide_eq_true ⟨Int32.not_lt.mp h3, Int32.not_lt.mp h9⟩)).symm | exact (bI_f (by unfold ltB; intro z; exact absurd (of_decide_eq_true z).2 (Int32.not_le.mpr h9))).symm | exact (bI_f (by unfold ltB; intro z; exact absurd (of_decide_eq_true z).1 (Int32.not_le.mpr h3))).symm), by rfl⟩)
set_option maxHeartbeats 4000000 in
set_option maxRecDepth 100000 in
theorem c_X7_isDigit (Z : VZ) (S : XS) (c_ : Int32) : CtF XW Z yX7_isDigit cX7_isDigit 1 (some .boolean) 0 0 0 [.int c_] (S) (some (.int (bI (dgB c_ = true)))) (S) := by
  refine V_entry (own := RX7) (by decide) rfl (Nat.le_of_ble_eq_true rfl) ?_
  intro B hB
  refine V_sub (L' := [(0, .int c_)]) [0] rfl ?_
  refine V_iload_n (pc := 0) dX7_isDigit_0 0 rfl rfl ?_
  refine V_bipush (v := 48) (pc := 1) dX7_isDigit_1 (by decide) ?_
  refine V_icmp_lt (pc := 3) (tgt := 16) dX7_isDigit_3 (by decide) (fun h3 => ?_) (fun h3 => ?_)
  · skip
    refine V_iconst (v := 0) (pc := 16) dX7_isDigit_16 (by decide) ?_
    exact V_zret (pc := 17) dX7_isDigit_17 (Nat.le_of_ble_eq_true rfl) (Nat.le_of_ble_eq_true rfl) (Or.inl rfl) (hB _ _ ⟨congrArg (fun z => some (Value.int z)) (by first | exact (bI_t (by unfold dgB; exact decide_eq_true ⟨Int32.not_lt.mp h3, Int32.not_lt.mp h9⟩)).symm | exact (bI_f (by unfold dgB; intro z; exact absurd (of_decide_eq_true z).2 (Int32.not_le.mpr h9))).symm | exact (bI_f (by unfold dgB; intro z; exact absurd (of_decide_eq_true z).1 (Int32.not_le.mpr h3))).symm), by rfl⟩)
  · skip
    refine V_iload_n (pc := 6) dX7_isDigit_6 0 rfl rfl ?_
    refine V_bipush (v := 57) (pc := 7) dX7_isDigit_7 (by decide) ?_
    refine V_icmp_gt (pc := 9) (tgt := 16) dX7_isDigit_9 (by decide) (fun h9 => ?_) (fun h9 => ?_)
    · skip
      refine V_iconst (v := 0) (pc := 16) dX7_isDigit_16 (by decide) ?_
      exact V_zret (pc := 17) dX7_isDigit_17 (Nat.le_of_ble_eq_true rfl) (Nat.le_of_ble_eq_true rfl) (Or.inl rfl) (hB _ _ ⟨congrArg (fun z => some (Value.int z)) (by first | exact (bI_t (by unfold dgB; exact decide_eq_true ⟨Int32.not_lt.mp h3, Int32.not_lt.mp h9⟩)).symm | exact (bI_f (by unfold dgB; intro z; exact absurd (of_decide_eq_true z).2 (Int32.not_le.mpr h9))).symm | exact (bI_f (by unfold dgB; intro z; exact absurd (of_decide_eq_true z).1 (Int32.not_le.mpr h3))).symm), by rfl⟩)
    · skip
      refine V_iconst (v := 1) (pc := 12) dX7_isDigit_12 (by decide) ?_
      refine V_goto (pc := 13) (tgt := 17) dX7_isDigit_13 (by decide) ?_
      exact V_zret (pc := 17) dX7_isDigit_17 (Nat.le_of_ble_eq_true rfl) (Nat.le_of_ble_eq_true rfl) (Or.inr rfl) (hB _ _ ⟨congrArg (fun z => some (Value.int z)) (by first | exact (bI_t (by unfold dgB; exact decide_eq_true ⟨Int32.not_lt.mp h3, Int32.not_lt.mp h9⟩)).symm | exact (bI_f (by unfold dgB; intro z; exact absurd (of_decide_eq_true z).2 (Int32.not_le.mpr h9))).symm | exact (bI_f (by unfold dgB; intro z; exact absurd (of_decide_eq_true z).1 (Int32.not_le.mpr h3))).symm), by rfl⟩)
set_option maxHeartbeats 4000000 in
set_option maxRecDepth 100000 in
theorem c_X7_byteAt (Z : VZ) (S : XS) (i_ L_ : Nat) (hL : S.1 31 = nI L_) (hL6 : L_ ≤ 60) (hi : i_ < 1000) : CtF XW Z yX7_byteAt cX7_byteAt 2 (some .int) 0 0 0 [.ref (Z.2.2.2 5), .int (nI i_)] (S) (some (.int (if i_ < L_ then S.2.2.1 30 i_ else -1))) (S) := by
  refine V_entry (own := RX7) (by decide) rfl (Nat.le_of_ble_eq_true rfl) ?_
  intro B hB
  refine V_sub (L' := [(0, .ref (Z.2.2.2 5)), (1, .int (nI i_))]) [0, 1] rfl ?_
  refine V_iload_n (pc := 0) dX7_byteAt_0 1 rfl rfl ?_
  refine V_if_lt (pc := 1) (tgt := 30) dX7_byteAt_1 (by decide) (fun h1 => ?_) (fun h1 => ?_)
  · skip
    exact absurd h1 (nI_pos (by omega))
  · skip
    refine V_iload_n (pc := 4) dX7_byteAt_4 1 rfl rfl ?_
    refine V_aload_n (pc := 5) dX7_byteAt_5 0 rfl rfl ?_
    refine Xg_X7_15 (pc := 6) (v := (nI L_)) hL dX7_byteAt_6 ?_
    refine V_icmp_ge (pc := 9) (tgt := 30) dX7_byteAt_9 (by decide) (fun h9 => ?_) (fun h9 => ?_)
    · skip
      have h9 : ¬ i_ < L_ := Nat.not_lt.mpr ((nI_leI (by omega) (by omega)).mp h9)
      refine V_iconst (v := (-1)) (pc := 30) dX7_byteAt_30 (by decide) ?_
      exact V_iret (pc := 31) dX7_byteAt_31 (Nat.le_of_ble_eq_true rfl) (Nat.le_of_ble_eq_true rfl) (hB _ _ ⟨congrArg (fun z => some (Value.int z)) (by rw [if_neg h9]), by rfl⟩)
    · skip
      have h9 : i_ < L_ := Nat.not_le.mp (fun q => h9 (nI_le q (by omega)))
      refine V_iload_n (pc := 12) dX7_byteAt_12 1 rfl rfl ?_
      refine V_aload_n (pc := 13) dX7_byteAt_13 0 rfl rfl ?_
      refine Xg_X7_11 (pc := 14) dX7_byteAt_14 ?_
      refine Xn_30 (pc := 17) dX7_byteAt_17 ?_
      refine V_icmp_ge (pc := 18) (tgt := 30) dX7_byteAt_18 (by decide) (fun h18 => ?_) (fun h18 => ?_)
      · skip
        exact absurd h18 (Int32.not_le.mpr (nI_lt (b := 60) (by omega) (by decide)))
      · skip
        refine V_aload_n (pc := 21) dX7_byteAt_21 0 rfl rfl ?_
        refine Xg_X7_11 (pc := 22) dX7_byteAt_22 ?_
        refine V_iload_n (pc := 25) dX7_byteAt_25 1 rfl rfl ?_
        refine Xl_30 (pc := 26) dX7_byteAt_26 (by exact vp_in_nI (by omega) (by decide)) ?_
        refine V_goto (pc := 27) (tgt := 31) dX7_byteAt_27 (by decide) ?_
        exact V_iret (pc := 31) dX7_byteAt_31 (Nat.le_of_ble_eq_true rfl) (Nat.le_of_ble_eq_true rfl) (hB _ _ ⟨congrArg (fun z => some (Value.int z)) (by rw [if_pos h9, nI_clamp (by omega)]), by rfl⟩)
set_option maxHeartbeats 4000000 in
set_option maxRecDepth 100000 in
theorem c_X7_nameOf (Z : VZ) (S : XS) (w_ : Nat) (hw : w_ < 6) : CtS XW Z yX7_nameOf cX7_nameOf 1 (some (.object "java/lang/String")) 0 0 0 [.int (nI w_)] (S) (fun v S' => v = some (.ref (sAd Z w_)) ∧ S = S') := by
  refine V_entryS (own := RX7) (by decide +kernel) rfl (Nat.le_of_ble_eq_true rfl) ?_
  intro B hB hst
  refine V_sub (L' := [(0, .int (nI w_))]) [0] rfl ?_
  refine V_iload_n (pc := 0) dX7_nameOf_0 0 rfl rfl ?_
  by_cases h1_0 : (nI w_) = 0
  · refine V_eqi 0 h1_0 ?_
    refine V_tableIn (pc := 1) (tgt := 36) dX7_nameOf_1 (by decide) (by decide) rfl (by decide) ?_
    refine V_ldcS (pc := 36) (i := 0) hst (by decide) rfl dX7_nameOf_36 ?_
    exact V_aret (pc := 38) dX7_nameOf_38 (Nat.le_of_ble_eq_true rfl) (Nat.le_of_ble_eq_true rfl) (Or.inl ⟨_, rfl⟩) (Or.inr ⟨_, rfl⟩) (hB _ _ (by refine ⟨?_, rfl⟩; rw [(nI_eq (b := 0) (by omega) (by decide)).mp h1_0]))
  by_cases h1_1 : (nI w_) = 1
  · refine V_eqi 1 h1_1 ?_
    refine V_tableIn (pc := 1) (tgt := 39) dX7_nameOf_1 (by decide) (by decide) rfl (by decide) ?_
    refine V_ldcS (pc := 39) (i := 1) hst (by decide) rfl dX7_nameOf_39 ?_
    exact V_aret (pc := 41) dX7_nameOf_41 (Nat.le_of_ble_eq_true rfl) (Nat.le_of_ble_eq_true rfl) (Or.inl ⟨_, rfl⟩) (Or.inr ⟨_, rfl⟩) (hB _ _ (by refine ⟨?_, rfl⟩; rw [(nI_eq (b := 1) (by omega) (by decide)).mp h1_1]))
  by_cases h1_2 : (nI w_) = 2
  · refine V_eqi 2 h1_2 ?_
    refine V_tableIn (pc := 1) (tgt := 42) dX7_nameOf_1 (by decide) (by decide) rfl (by decide) ?_
    refine V_ldcS (pc := 42) (i := 2) hst (by decide) rfl dX7_nameOf_42 ?_
    exact V_aret (pc := 44) dX7_nameOf_44 (Nat.le_of_ble_eq_true rfl) (Nat.le_of_ble_eq_true rfl) (Or.inl ⟨_, rfl⟩) (Or.inr ⟨_, rfl⟩) (hB _ _ (by refine ⟨?_, rfl⟩; rw [(nI_eq (b := 2) (by omega) (by decide)).mp h1_2]))
  by_cases h1_3 : (nI w_) = 3
  · refine V_eqi 3 h1_3 ?_
    refine V_tableIn (pc := 1) (tgt := 45) dX7_nameOf_1 (by decide) (by decide) rfl (by decide) ?_
    refine V_ldcS (pc := 45) (i := 3) hst (by decide) rfl dX7_nameOf_45 ?_
    exact V_aret (pc := 47) dX7_nameOf_47 (Nat.le_of_ble_eq_true rfl) (Nat.le_of_ble_eq_true rfl) (Or.inl ⟨_, rfl⟩) (Or.inr ⟨_, rfl⟩) (hB _ _ (by refine ⟨?_, rfl⟩; rw [(nI_eq (b := 3) (by omega) (by decide)).mp h1_3]))
  by_cases h1_4 : (nI w_) = 4
  · refine V_eqi 4 h1_4 ?_
    refine V_tableIn (pc := 1) (tgt := 48) dX7_nameOf_1 (by decide) (by decide) rfl (by decide) ?_
    refine V_ldcS (pc := 48) (i := 4) hst (by decide) rfl dX7_nameOf_48 ?_
    exact V_aret (pc := 50) dX7_nameOf_50 (Nat.le_of_ble_eq_true rfl) (Nat.le_of_ble_eq_true rfl) (Or.inl ⟨_, rfl⟩) (Or.inr ⟨_, rfl⟩) (hB _ _ (by refine ⟨?_, rfl⟩; rw [(nI_eq (b := 4) (by omega) (by decide)).mp h1_4]))
  refine V_tableOut (pc := 1) (tgt := 51) dX7_nameOf_1 (by have a0 := lv_neT h1_0 (a := 0) rfl; have a1 := lv_neT h1_1 (a := 1) rfl; have a2 := lv_neT h1_2 (a := 2) rfl; have a3 := lv_neT h1_3 (a := 3) rfl; have a4 := lv_neT h1_4 (a := 4) rfl; omega) (by decide) ?_
  refine V_ldcS (pc := 51) (i := 5) hst (by decide) rfl dX7_nameOf_51 ?_
  exact V_aret (pc := 53) dX7_nameOf_53 (Nat.le_of_ble_eq_true rfl) (Nat.le_of_ble_eq_true rfl) (Or.inl ⟨_, rfl⟩) (Or.inr ⟨_, rfl⟩) (hB _ _ (by refine ⟨?_, rfl⟩; rw [show w_ = 5 from by rcases (show w_ = 0 ∨ w_ = 1 ∨ w_ = 2 ∨ w_ = 3 ∨ w_ = 4 ∨ w_ = 5 by omega) with rfl | rfl | rfl | rfl | rfl | rfl; exact absurd rfl h1_0; exact absurd rfl h1_1; exact absurd rfl h1_2; exact absurd rfl h1_3; exact absurd rfl h1_4; rfl]))
set_option maxHeartbeats 4000000 in
set_option maxRecDepth 100000 in
theorem c_X7_isNamed (Z : VZ) (S : XS) (a_ b_ L_ : Nat) (k_ v_ : Int32) (w_ : Nat) (hw : w_ < 6) (hL : S.1 31 = nI L_) (hL6 : L_ ≤ 60) (hb : b_ ≤ a_) (ha : a_ ≤ L_) : CtS XW Z yX7_isNamed cX7_isNamed 3 (some .boolean) 5 0 0 [.ref (Z.2.2.2 5), .ref (sAd Z w_)] (xTk S (nI a_) k_ (nI b_) v_) (fun v S' => v = some (.int (bI (wdm (S.2.2.1 30) b_ a_ w_))) ∧ S' = xTk S (nI a_) k_ (nI b_) v_) := by
  refine V_entryS (own := RX7) (by decide +kernel) rfl (Nat.le_of_ble_eq_true rfl) ?_
  intro B hB hst
  have hl8 := st_len w_ hw
  refine V_sub (L' := [(0, .ref (Z.2.2.2 5)), (1, .ref (sAd Z w_))]) [0, 1] rfl ?_
  refine V_aload_n (pc := 0) dX7_isNamed_0 1 rfl rfl ?_
  refine V_callK (pc := 1) hst (by exact hw) dX7_isNamed_1 (g_length Z _ w_ (by exact hw)) kX7_74 rfl rfl (Nat.le_of_ble_eq_true rfl) (by decide) (by decide) (Nat.le_of_ble_eq_true rfl) (Nat.le_of_ble_eq_true rfl) (fun v1 S1 hp1 => ?_)
  obtain ⟨rfl, rfl⟩ := hp1
  refine V_aload_n (pc := 4) dX7_isNamed_4 0 rfl rfl ?_
  refine Xg_X7_28 (pc := 5) (v := (nI a_)) rfl dX7_isNamed_5 ?_
  refine V_aload_n (pc := 8) dX7_isNamed_8 0 rfl rfl ?_
  refine Xg_X7_34 (pc := 9) (v := (nI b_)) rfl dX7_isNamed_9 ?_
  refine V_isub (pc := 12) dX7_isNamed_12 ?_
  refine V_icmp_eq (pc := 13) (tgt := 18) dX7_isNamed_13 (by decide) (fun h13 => ?_) (fun h13 => ?_)
  · skip
    rw [pk_sub hb, nI_eq (by omega) (by omega)] at h13
    refine V_iconst (v := 0) (pc := 18) dX7_isNamed_18 (by decide) ?_
    refine V_istore_n (pc := 19) (L2 := [(0, .ref (Z.2.2.2 5)), (1, .ref (sAd Z w_))]) dX7_isNamed_19 rfl (by decide) rfl (fun x2_19 ex2_19 => ?_)
    subst ex2_19
    refine V_sub (L' := [(2, .int (nI 0)), (0, .ref (Z.2.2.2 5)), (1, .ref (sAd Z w_))]) [0, 1, 2] rfl ?_
    refine Vloop (σ := Nat) (fun x => x ≤ (stL.getD w_ 0) ∧ ∀ i, i < x → (S.2.2.1 30) (b_ + i) = stC w_ i) (fun x => (stL.getD w_ 0) - x) (fun x => V XW Z cX7_isNamed RX7 3 (some .boolean) 5 0 0 B 0 0 20 [(2, .int (nI x)), (0, .ref (Z.2.2.2 5)), (1, .ref (sAd Z w_))] [] (xTk S (nI a_) k_ (nI b_) v_)) ?_ 0 (by exact ⟨Nat.zero_le _, fun i hi => absurd hi (Nat.not_lt_zero _)⟩)
    rintro j hI20 ih20
    have hI20 : j ≤ (stL.getD w_ 0) ∧ ∀ i, i < j → (S.2.2.1 30) (b_ + i) = stC w_ i := hI20
    show V XW Z cX7_isNamed RX7 3 (some .boolean) 5 0 0 B 0 0 20 [(2, .int (nI j)), (0, .ref (Z.2.2.2 5)), (1, .ref (sAd Z w_))] [] (xTk S (nI a_) k_ (nI b_) v_)
    refine V_iload_n (pc := 20) dX7_isNamed_20 0 rfl rfl ?_
    refine V_aload_n (pc := 21) dX7_isNamed_21 2 rfl rfl ?_
    refine V_callK (pc := 22) hst (by exact hw) dX7_isNamed_22 (g_length Z _ w_ (by exact hw)) kX7_74 rfl rfl (Nat.le_of_ble_eq_true rfl) (by decide) (by decide) (Nat.le_of_ble_eq_true rfl) (Nat.le_of_ble_eq_true rfl) (fun v22 S22 hp22 => ?_)
    obtain ⟨rfl, rfl⟩ := hp22
    refine V_icmp_ge (pc := 25) (tgt := 54) dX7_isNamed_25 (by decide) (fun h25 => ?_) (fun h25 => ?_)
    · skip
      have hj : (stL.getD w_ 0) ≤ j := (nI_leI (by omega) (by omega)).mp h25
      refine V_iconst (v := 1) (pc := 54) dX7_isNamed_54 (by decide) ?_
      exact V_zret (pc := 55) dX7_isNamed_55 (Nat.le_of_ble_eq_true rfl) (Nat.le_of_ble_eq_true rfl) (Or.inr rfl) (hB _ _ (by exact ⟨congrArg (fun z => some (Value.int z)) (bI_t ⟨h13, fun i hi => hI20.2 i (by omega)⟩).symm, rfl⟩))
    · skip
      have hj : j < (stL.getD w_ 0) := Nat.not_le.mp (fun q => h25 (nI_le q (by omega)))
      refine V_aload_n (pc := 28) dX7_isNamed_28 2 rfl rfl ?_
      refine V_iload_n (pc := 29) dX7_isNamed_29 0 rfl rfl ?_
      refine V_callK (pc := 30) hst (by exact hw) dX7_isNamed_30 (g_charAt Z _ w_ (j) (by exact hw) (by exact hj)) kX7_80 rfl rfl (Nat.le_of_ble_eq_true rfl) (by decide) (by decide) (Nat.le_of_ble_eq_true rfl) (Nat.le_of_ble_eq_true rfl) (fun v30 S30 hp30 => ?_)
      obtain ⟨rfl, rfl⟩ := hp30
      refine V_aload_n (pc := 33) dX7_isNamed_33 1 rfl rfl ?_
      refine V_aload_n (pc := 34) dX7_isNamed_34 1 rfl rfl ?_
      refine Xg_X7_34 (pc := 35) (v := (nI b_)) rfl dX7_isNamed_35 ?_
      refine V_iload_n (pc := 38) dX7_isNamed_38 0 rfl rfl ?_
      refine V_iadd (pc := 39) dX7_isNamed_39 ?_
      refine V_eqi (nI (b_ + j)) (nI_add _ _) ?_
      refine V_callVi (q0 := 13) (ci := 7) (C := RX7) (T := TX7) (N := 9) (pc := 40) dX7_isNamed_40 (c_X7_byteAt Z _ (b_ + j) L_ (by exact hL) (by exact hL6) (by omega)) kX7_51 rfl rfl rfl rfl (Nat.le_of_ble_eq_true rfl) (by decide) (by decide) (Nat.le_of_ble_eq_true rfl) (Nat.le_of_ble_eq_true rfl) ?_
      refine V_eqi ((S.2.2.1 30) (b_ + j)) (if_pos (by omega)) ?_
      refine V_icmp_eq (pc := 43) (tgt := 48) dX7_isNamed_43 (by decide) (fun h43 => ?_) (fun h43 => ?_)
      · skip
        refine V_iinc (pc := 48) (v := 1) (L2 := [(0, .ref (Z.2.2.2 5)), (1, .ref (sAd Z w_))]) dX7_isNamed_48 0 rfl (by decide) (by decide) rfl (fun x2_48 ex2_48 => ?_)
        rw [nI_1] at ex2_48
        subst ex2_48
        refine V_goto (pc := 51) (tgt := 20) dX7_isNamed_51 (by decide) ?_
        refine V_sub (L' := [(2, .int (nI (j + 1))), (0, .ref (Z.2.2.2 5)), (1, .ref (sAd Z w_))]) [0, 1, 2] rfl ?_
        refine ih20 ((j + 1)) ?_ ?_
        · show ((j + 1)) ≤ (stL.getD w_ 0) ∧ ∀ i, i < ((j + 1)) → (S.2.2.1 30) (b_ + i) = stC w_ i
          refine ⟨hj, fun i hi => ?_⟩
          by_cases e : i = j
          · rw [e]; exact h43.symm
          · exact hI20.2 i (by omega)
        · show (stL.getD w_ 0) - (j + 1) < (stL.getD w_ 0) - j
          omega
      · skip
        refine V_iconst (v := 0) (pc := 46) dX7_isNamed_46 (by decide) ?_
        exact V_zret (pc := 47) dX7_isNamed_47 (Nat.le_of_ble_eq_true rfl) (Nat.le_of_ble_eq_true rfl) (Or.inl rfl) (hB _ _ (by exact ⟨congrArg (fun z => some (Value.int z)) (bI_f (fun h => h43 (h.2 j hj).symm)).symm, rfl⟩))
  · skip
    rw [pk_sub hb, nI_eq (by omega) (by omega)] at h13
    refine V_iconst (v := 0) (pc := 16) dX7_isNamed_16 (by decide) ?_
    exact V_zret (pc := 17) dX7_isNamed_17 (Nat.le_of_ble_eq_true rfl) (Nat.le_of_ble_eq_true rfl) (Or.inl rfl) (hB _ _ (by exact ⟨congrArg (fun z => some (Value.int z)) (bI_f (fun h => h13 h.1)).symm, rfl⟩))
