def mTk (S : MS) (a b k v : Int32) : MS := (fun j => if j = 22 then a else if j = 23 then b else if j = 24 then k else if j = 25 then v else S.1 j, S.2)
theorem mTk_self (S : MS) : S = mTk S (S.1 22) (S.1 23) (S.1 24) (S.1 25) := by
  refine Prod.ext (funext fun j => ?_) rfl
  simp only [mTk]
  repeat' split
  all_goals first | rfl | (subst_vars; rfl)
theorem mTk_a (S : MS) (a b k v x : Int32) : mF (mTk S a b k v) 22 x = mTk S x b k v := by
  refine Prod.ext (funext fun j => ?_) rfl
  simp only [mTk, mF, va_up]
  repeat' split
  all_goals first | rfl | omega
theorem mTk_b (S : MS) (a b k v x : Int32) : mF (mTk S a b k v) 23 x = mTk S a x k v := by
  refine Prod.ext (funext fun j => ?_) rfl
  simp only [mTk, mF, va_up]
  repeat' split
  all_goals first | rfl | omega
theorem mTk_k (S : MS) (a b k v x : Int32) : mF (mTk S a b k v) 24 x = mTk S a b x v := by
  refine Prod.ext (funext fun j => ?_) rfl
  simp only [mTk, mF, va_up]
  repeat' split
  all_goals first | rfl | omega
theorem mTk_v (S : MS) (a b k v x : Int32) : mF (mTk S a b k v) 25 x = mTk S a b k x := by
  refine Prod.ext (funext fun j => ?_) rfl
  simp only [mTk, mF, va_up]
  repeat' split
  all_goals first | rfl | omega
theorem bI_iff {p q : Prop} [Decidable p] [Decidable q] (h : p ↔ q) : bI p = bI q := by
  by_cases hq : q
  · rw [bI_t hq, bI_t (h.mpr hq)]
  · rw [bI_f hq, bI_f (fun z => hq (h.mp z))]
theorem nI_lt' {a b : Nat} (ha : a < 2147483648) (hb : b < 2147483648) : ¬ nI b ≤ nI a ↔ a < b := by
  rw [nI_leI hb ha]
  exact Nat.not_le
theorem cM_isAtT (Z : VZ) (S : MS) (a_ L_ : Nat) (b_ k_ v_ x_ y_ : Int32) (hL : S.1 21 = nI L_) (hL6 : L_ ≤ 60) (ha : a_ ≤ 60) : CtF MW Z yX11_isAt cX11_isAt 3 (some .boolean) 1 0 0 [.ref (Z.2.2.2 99), .int x_, .int y_] (mTk S (nI a_) b_ k_ v_) (some (.int (bI (a_ < L_ ∧ (x_ ≤ S.2.2 20 a_ ∧ S.2.2 20 a_ ≤ y_))))) (mTk S (nI a_) b_ k_ v_) := by
  have e1 : (mTk S (nI a_) b_ k_ v_).1 21 = nI L_ := hL
  have e2 : (mTk S (nI a_) b_ k_ v_).1 22 = nI a_ := rfl
  have h := cM_isAt Z (mTk S (nI a_) b_ k_ v_) x_ y_ (fun h => by
    rw [e1, e2] at h
    have := (nI_lt' (by omega) (by omega)).mp h
    exact vp_in_nI (by omega) (by decide))
  have e : bI (¬ (mTk S (nI a_) b_ k_ v_).1 21 ≤ (mTk S (nI a_) b_ k_ v_).1 22 ∧ (x_ ≤ (mTk S (nI a_) b_ k_ v_).2.2 20 ((mTk S (nI a_) b_ k_ v_).1 22).toNatClampNeg ∧ (mTk S (nI a_) b_ k_ v_).2.2 20 ((mTk S (nI a_) b_ k_ v_).1 22).toNatClampNeg ≤ y_)) = bI (a_ < L_ ∧ (x_ ≤ S.2.2 20 a_ ∧ S.2.2 20 a_ ≤ y_)) := by
    refine bI_iff ?_
    rw [e1, e2, nI_lt' (by omega) (by omega), nI_clamp (by omega)]
    exact Iff.rfl
  rw [e] at h
  exact h
theorem one_iff {x c : Int32} : (c ≤ x ∧ x ≤ c) ↔ x = c := ⟨fun h => Int32.le_antisymm h.2 h.1, fun h => h ▸ ⟨Int32.le_refl _, Int32.le_refl _⟩⟩
set_option maxHeartbeats 4000000 in
set_option maxRecDepth 100000 in
theorem cM_wordOf (Z : VZ) (S : MS) (w_ : Nat) (hw : w_ < 6) : CtS MW Z yX11_wordOf cX11_wordOf 1 (some (.object "java/lang/String")) 0 0 0 [.int (nI w_)] (S) (fun v S' => v = some (.ref (sAd Z w_)) ∧ S = S') := by
  refine V_entryS (own := RX11) (by decide +kernel) rfl (Nat.le_of_ble_eq_true rfl) ?_
  intro B hB hst
  refine V_sub (L' := [(0, .int (nI w_))]) [0] rfl ?_
  refine V_iload_n (pc := 0) dX11_wordOf_0 0 rfl rfl ?_
  by_cases h1_0 : (nI w_) = 0
  · refine V_eqi 0 h1_0 ?_
    refine V_tableIn (pc := 1) (tgt := 36) dX11_wordOf_1 (by decide) (by decide) rfl (by decide) ?_
    refine V_ldcWS (pc := 36) (i := 0) hst (by decide) rfl dX11_wordOf_36 ?_
    exact V_aret (pc := 39) dX11_wordOf_39 (Nat.le_of_ble_eq_true rfl) (Nat.le_of_ble_eq_true rfl) (Or.inl ⟨_, rfl⟩) (Or.inr ⟨_, rfl⟩) (hB _ _ (by refine ⟨?_, rfl⟩; rw [(nI_eq (b := 0) (by omega) (by decide)).mp h1_0]))
  by_cases h1_1 : (nI w_) = 1
  · refine V_eqi 1 h1_1 ?_
    refine V_tableIn (pc := 1) (tgt := 40) dX11_wordOf_1 (by decide) (by decide) rfl (by decide) ?_
    refine V_ldcWS (pc := 40) (i := 1) hst (by decide) rfl dX11_wordOf_40 ?_
    exact V_aret (pc := 43) dX11_wordOf_43 (Nat.le_of_ble_eq_true rfl) (Nat.le_of_ble_eq_true rfl) (Or.inl ⟨_, rfl⟩) (Or.inr ⟨_, rfl⟩) (hB _ _ (by refine ⟨?_, rfl⟩; rw [(nI_eq (b := 1) (by omega) (by decide)).mp h1_1]))
  by_cases h1_2 : (nI w_) = 2
  · refine V_eqi 2 h1_2 ?_
    refine V_tableIn (pc := 1) (tgt := 44) dX11_wordOf_1 (by decide) (by decide) rfl (by decide) ?_
    refine V_ldcWS (pc := 44) (i := 2) hst (by decide) rfl dX11_wordOf_44 ?_
    exact V_aret (pc := 47) dX11_wordOf_47 (Nat.le_of_ble_eq_true rfl) (Nat.le_of_ble_eq_true rfl) (Or.inl ⟨_, rfl⟩) (Or.inr ⟨_, rfl⟩) (hB _ _ (by refine ⟨?_, rfl⟩; rw [(nI_eq (b := 2) (by omega) (by decide)).mp h1_2]))
  by_cases h1_3 : (nI w_) = 3
  · refine V_eqi 3 h1_3 ?_
    refine V_tableIn (pc := 1) (tgt := 48) dX11_wordOf_1 (by decide) (by decide) rfl (by decide) ?_
    refine V_ldcWS (pc := 48) (i := 3) hst (by decide) rfl dX11_wordOf_48 ?_
    exact V_aret (pc := 51) dX11_wordOf_51 (Nat.le_of_ble_eq_true rfl) (Nat.le_of_ble_eq_true rfl) (Or.inl ⟨_, rfl⟩) (Or.inr ⟨_, rfl⟩) (hB _ _ (by refine ⟨?_, rfl⟩; rw [(nI_eq (b := 3) (by omega) (by decide)).mp h1_3]))
  by_cases h1_4 : (nI w_) = 4
  · refine V_eqi 4 h1_4 ?_
    refine V_tableIn (pc := 1) (tgt := 52) dX11_wordOf_1 (by decide) (by decide) rfl (by decide) ?_
    refine V_ldcWS (pc := 52) (i := 4) hst (by decide) rfl dX11_wordOf_52 ?_
    exact V_aret (pc := 55) dX11_wordOf_55 (Nat.le_of_ble_eq_true rfl) (Nat.le_of_ble_eq_true rfl) (Or.inl ⟨_, rfl⟩) (Or.inr ⟨_, rfl⟩) (hB _ _ (by refine ⟨?_, rfl⟩; rw [(nI_eq (b := 4) (by omega) (by decide)).mp h1_4]))
  refine V_tableOut (pc := 1) (tgt := 56) dX11_wordOf_1 (by have a0 := lv_neT h1_0 (a := 0) rfl; have a1 := lv_neT h1_1 (a := 1) rfl; have a2 := lv_neT h1_2 (a := 2) rfl; have a3 := lv_neT h1_3 (a := 3) rfl; have a4 := lv_neT h1_4 (a := 4) rfl; omega) (by decide) ?_
  refine V_ldcWS (pc := 56) (i := 5) hst (by decide) rfl dX11_wordOf_56 ?_
  exact V_aret (pc := 59) dX11_wordOf_59 (Nat.le_of_ble_eq_true rfl) (Nat.le_of_ble_eq_true rfl) (Or.inl ⟨_, rfl⟩) (Or.inr ⟨_, rfl⟩) (hB _ _ (by refine ⟨?_, rfl⟩; rw [show w_ = 5 from by rcases (show w_ = 0 ∨ w_ = 1 ∨ w_ = 2 ∨ w_ = 3 ∨ w_ = 4 ∨ w_ = 5 by omega) with rfl | rfl | rfl | rfl | rfl | rfl; exact absurd rfl h1_0; exact absurd rfl h1_1; exact absurd rfl h1_2; exact absurd rfl h1_3; exact absurd rfl h1_4; rfl]))
set_option maxHeartbeats 4000000 in
set_option maxRecDepth 100000 in
theorem cM_isWord (Z : VZ) (S : MS) (a_ b_ L_ : Nat) (k_ v_ : Int32) (w_ : Nat) (hw : w_ < 6) (hL : S.1 21 = nI L_) (hL6 : L_ ≤ 60) (hb : b_ ≤ a_) (ha : a_ ≤ L_) : CtS MW Z yX11_isWord cX11_isWord 5 (some .boolean) 5 0 0 [.ref (Z.2.2.2 99), .int (nI w_)] (mTk S (nI a_) (nI b_) k_ v_) (fun v S' => v = some (.int (bI (wdm (S.2.2 20) b_ a_ w_))) ∧ S' = mTk S (nI a_) (nI b_) k_ v_) := by
  refine V_entryS (own := RX11) (by decide +kernel) rfl (Nat.le_of_ble_eq_true rfl) ?_
  intro B hB hst
  have hl8 := st_len w_ hw
  refine V_sub (L' := [(0, .ref (Z.2.2.2 99)), (1, .int (nI w_))]) [0, 1] rfl ?_
  refine V_iload_n (pc := 0) dX11_isWord_0 1 rfl rfl ?_
  refine V_callSS (pc := 1) hst dX11_isWord_1 (cM_wordOf Z _ w_ (by exact hw)) kM_268 rfl (Nat.le_of_ble_eq_true rfl) (by decide) (by decide) (Nat.le_of_ble_eq_true rfl) (Nat.le_of_ble_eq_true rfl) (fun v1 S1 hp1 => ?_)
  obtain ⟨rfl, rfl⟩ := hp1
  refine V_astore_n (pc := 4) (L2 := [(0, .ref (Z.2.2.2 99)), (1, .int (nI w_))]) dX11_isWord_4 rfl (by decide) rfl (fun x2_4 ex2_4 => ?_)
  subst ex2_4
  refine V_aload_n (pc := 5) dX11_isWord_5 1 rfl rfl ?_
  refine Mg_at (pc := 6) (v := (nI a_)) rfl dX11_isWord_6 ?_
  refine V_aload_n (pc := 9) dX11_isWord_9 1 rfl rfl ?_
  refine Mg_begun (pc := 10) (v := (nI b_)) rfl dX11_isWord_10 ?_
  refine V_isub (pc := 13) dX11_isWord_13 ?_
  refine V_aload_n (pc := 14) dX11_isWord_14 0 rfl rfl ?_
  refine V_callK (pc := 15) hst (by exact hw) dX11_isWord_15 (g_length Z _ w_ (by exact hw)) kX11_275 rfl rfl (Nat.le_of_ble_eq_true rfl) (by decide) (by decide) (Nat.le_of_ble_eq_true rfl) (Nat.le_of_ble_eq_true rfl) (fun v15 S15 hp15 => ?_)
  obtain ⟨rfl, rfl⟩ := hp15
  refine V_icmp_ne (pc := 18) (tgt := 25) dX11_isWord_18 (by decide) (fun h18 => ?_) (fun h18 => ?_)
  · skip
    have hq : ¬ stL.getD w_ 0 = a_ - b_ := by
      rw [pk_sub hb, nI_eq (by omega) (by omega)] at h18
      exact fun z => h18 z.symm
    refine V_iconst (v := 0) (pc := 25) dX11_isWord_25 (by decide) ?_
    refine V_istore_n (pc := 26) (L2 := [(2, .ref (sAd Z w_)), (0, .ref (Z.2.2.2 99)), (1, .int (nI w_))]) dX11_isWord_26 rfl (by decide) rfl (fun x3_26 ex3_26 => ?_)
    subst ex3_26
    refine V_iconst (v := 0) (pc := 27) dX11_isWord_27 (by decide) ?_
    refine V_istore (pc := 28) (L2 := [(3, .int 0), (2, .ref (sAd Z w_)), (0, .ref (Z.2.2.2 99)), (1, .int (nI w_))]) dX11_isWord_28 (by decide) rfl (fun x4_28 ex4_28 => ?_)
    subst ex4_28
    refine V_sub (L' := [(4, .int (nI 0)), (3, .int 0), (2, .ref (sAd Z w_)), (0, .ref (Z.2.2.2 99)), (1, .int (nI w_))]) [0, 1, 2, 3, 4] rfl ?_
    refine Vloop (σ := Nat × Int32) (fun x => ((x.2) = 0 ∨ (x.2) = 1) ∧ ((x.2) = 1 → (stL.getD w_ 0 = a_ - b_ ∧ (x.1) ≤ (stL.getD w_ 0) ∧ ∀ i, i < (x.1) → (S.2.2 20) (b_ + i) = stC w_ i)) ∧ ((x.2) = 0 → ¬ wdm (S.2.2 20) b_ a_ w_) ∧ (x.1) ≤ 8) (fun x => (if (x.2) = 0 then 0 else 9 - (x.1))) (fun x => V MW Z cX11_isWord RX11 5 (some .boolean) 5 0 0 B 0 0 30 [(4, .int (nI (x.1))), (3, .int (x.2)), (2, .ref (sAd Z w_)), (0, .ref (Z.2.2.2 99)), (1, .int (nI w_))] [] (mTk S (nI a_) (nI b_) k_ v_)) ?_ (0, 0) (by first | exact ⟨Or.inr rfl, fun _ => ⟨hq, Nat.zero_le _, fun i hi => absurd hi (Nat.not_lt_zero _)⟩, fun z => absurd z (by decide), by decide⟩ | exact ⟨Or.inl rfl, fun z => absurd z (by decide), fun _ h => hq h.1, by decide⟩)
    rintro ⟨j, q⟩ hI30 ih30
    have hI30 : (q = 0 ∨ q = 1) ∧ (q = 1 → (stL.getD w_ 0 = a_ - b_ ∧ j ≤ (stL.getD w_ 0) ∧ ∀ i, i < j → (S.2.2 20) (b_ + i) = stC w_ i)) ∧ (q = 0 → ¬ wdm (S.2.2 20) b_ a_ w_) ∧ j ≤ 8 := hI30
    show V MW Z cX11_isWord RX11 5 (some .boolean) 5 0 0 B 0 0 30 [(4, .int (nI j)), (3, .int q), (2, .ref (sAd Z w_)), (0, .ref (Z.2.2.2 99)), (1, .int (nI w_))] [] (mTk S (nI a_) (nI b_) k_ v_)
    refine V_iload_n (pc := 30) dX11_isWord_30 1 rfl rfl ?_
    refine V_if_eq (pc := 31) (tgt := 76) dX11_isWord_31 (by decide) (fun h31 => ?_) (fun h31 => ?_)
    · skip
      refine V_iload_n (pc := 76) dX11_isWord_76 1 rfl rfl ?_
      exact V_zret (pc := 77) dX11_isWord_77 (Nat.le_of_ble_eq_true rfl) (Nat.le_of_ble_eq_true rfl) (by exact hI30.1) (hB _ _ (by refine ⟨congrArg (fun z => some (Value.int z)) ?_, rfl⟩; rw [h31]; exact (bI_f (hI30.2.2.1 h31)).symm))
    · skip
      have hq1 : q = 1 := hI30.1.resolve_left h31
      refine V_iload (pc := 34) dX11_isWord_34 0 rfl ?_
      refine V_aload_n (pc := 36) dX11_isWord_36 2 rfl rfl ?_
      refine V_callK (pc := 37) hst (by exact hw) dX11_isWord_37 (g_length Z _ w_ (by exact hw)) kX11_275 rfl rfl (Nat.le_of_ble_eq_true rfl) (by decide) (by decide) (Nat.le_of_ble_eq_true rfl) (Nat.le_of_ble_eq_true rfl) (fun v37 S37 hp37 => ?_)
      obtain ⟨rfl, rfl⟩ := hp37
      refine V_icmp_ge (pc := 40) (tgt := 76) dX11_isWord_40 (by decide) (fun h40 => ?_) (fun h40 => ?_)
      · skip
        have hj : (stL.getD w_ 0) ≤ j := (nI_leI (by omega) (by omega)).mp h40
        refine V_iload_n (pc := 76) dX11_isWord_76 1 rfl rfl ?_
        exact V_zret (pc := 77) dX11_isWord_77 (Nat.le_of_ble_eq_true rfl) (Nat.le_of_ble_eq_true rfl) (by exact hI30.1) (hB _ _ (by refine ⟨congrArg (fun z => some (Value.int z)) ?_, rfl⟩; rw [hq1]; exact (bI_t ⟨(hI30.2.1 hq1).1, fun i hi => (hI30.2.1 hq1).2.2 i (by omega)⟩).symm))
      · skip
        have hj : j < (stL.getD w_ 0) := Nat.not_le.mp (fun q => h40 (nI_le q (by omega)))
        refine V_aload_n (pc := 43) dX11_isWord_43 3 rfl rfl ?_
        refine Mg_tape (pc := 44) dX11_isWord_44 ?_
        refine V_aload_n (pc := 47) dX11_isWord_47 3 rfl rfl ?_
        refine Mg_begun (pc := 48) (v := (nI b_)) rfl dX11_isWord_48 ?_
        refine V_iload (pc := 51) dX11_isWord_51 0 rfl ?_
        refine V_iadd (pc := 53) dX11_isWord_53 ?_
        refine V_eqi (nI (b_ + j)) (nI_add _ _) ?_
        refine Ml_tape (pc := 54) dX11_isWord_54 (by have := (hI30.2.1 hq1).1; exact vp_in_nI (by omega) (by decide)) ?_
        refine V_eqi ((S.2.2 20) (b_ + j)) (by rw [nI_clamp (by omega)]; rfl) ?_
        refine V_aload_n (pc := 55) dX11_isWord_55 2 rfl rfl ?_
        refine V_iload (pc := 56) dX11_isWord_56 0 rfl ?_
        refine V_callK (pc := 58) hst (by exact hw) dX11_isWord_58 (g_charAt Z _ w_ (j) (by exact hw) (by exact hj)) kX11_279 rfl rfl (Nat.le_of_ble_eq_true rfl) (by decide) (by decide) (Nat.le_of_ble_eq_true rfl) (Nat.le_of_ble_eq_true rfl) (fun v58 S58 hp58 => ?_)
        obtain ⟨rfl, rfl⟩ := hp58
        refine V_icmp_ne (pc := 61) (tgt := 68) dX11_isWord_61 (by decide) (fun h61 => ?_) (fun h61 => ?_)
        · skip
          refine V_iconst (v := 0) (pc := 68) dX11_isWord_68 (by decide) ?_
          refine V_istore_n (pc := 69) (L2 := [(4, .int (nI j)), (2, .ref (sAd Z w_)), (0, .ref (Z.2.2.2 99)), (1, .int (nI w_))]) dX11_isWord_69 rfl (by decide) rfl (fun x3_69 ex3_69 => ?_)
          subst ex3_69
          refine V_iinc (pc := 70) (v := 1) (L2 := [(3, .int 0), (2, .ref (sAd Z w_)), (0, .ref (Z.2.2.2 99)), (1, .int (nI w_))]) dX11_isWord_70 1 rfl (by decide) (by decide) rfl (fun x4_70 ex4_70 => ?_)
          rw [nI_1] at ex4_70
          subst ex4_70
          refine V_goto (pc := 73) (tgt := 30) dX11_isWord_73 (by decide) ?_
          refine V_sub (L' := [(4, .int (nI (j + 1))), (3, .int 0), (2, .ref (sAd Z w_)), (0, .ref (Z.2.2.2 99)), (1, .int (nI w_))]) [0, 1, 2, 3, 4] rfl ?_
          refine ih30 (((j + 1)), _) ?_ ?_
          · first | exact ⟨Or.inr rfl, fun _ => ⟨(hI30.2.1 hq1).1, hj, fun i hi => by
                by_cases e : i = j
                · rw [e]; exact h61
                · exact ((hI30.2.1 hq1).2.2 i (by have : i < j + 1 := hi; omega))⟩, fun z => absurd (show (1 : Int32) = 0 from z) (by decide), by show j + 1 ≤ 8; omega⟩ | exact ⟨Or.inl rfl, fun z => absurd (show (0 : Int32) = 1 from z) (by decide), fun _ h => h61 (h.2 j hj), by show j + 1 ≤ 8; omega⟩
          · first | (rw [if_neg h31]; show (if (1 : Int32) = 0 then 0 else 9 - (j + 1)) < 9 - j; rw [if_neg (by decide)]; omega) | (rw [if_neg h31]; show (if (0 : Int32) = 0 then 0 else 9 - (j + 1)) < 9 - j; rw [if_pos rfl]; omega)
        · skip
          refine V_iconst (v := 1) (pc := 64) dX11_isWord_64 (by decide) ?_
          refine V_goto (pc := 65) (tgt := 69) dX11_isWord_65 (by decide) ?_
          refine V_istore_n (pc := 69) (L2 := [(4, .int (nI j)), (2, .ref (sAd Z w_)), (0, .ref (Z.2.2.2 99)), (1, .int (nI w_))]) dX11_isWord_69 rfl (by decide) rfl (fun x3_69 ex3_69 => ?_)
          subst ex3_69
          refine V_iinc (pc := 70) (v := 1) (L2 := [(3, .int 1), (2, .ref (sAd Z w_)), (0, .ref (Z.2.2.2 99)), (1, .int (nI w_))]) dX11_isWord_70 1 rfl (by decide) (by decide) rfl (fun x4_70 ex4_70 => ?_)
          rw [nI_1] at ex4_70
          subst ex4_70
          refine V_goto (pc := 73) (tgt := 30) dX11_isWord_73 (by decide) ?_
          refine V_sub (L' := [(4, .int (nI (j + 1))), (3, .int 1), (2, .ref (sAd Z w_)), (0, .ref (Z.2.2.2 99)), (1, .int (nI w_))]) [0, 1, 2, 3, 4] rfl ?_
          refine ih30 (((j + 1)), _) ?_ ?_
          · first | exact ⟨Or.inr rfl, fun _ => ⟨(hI30.2.1 hq1).1, hj, fun i hi => by
                by_cases e : i = j
                · rw [e]; exact h61
                · exact ((hI30.2.1 hq1).2.2 i (by have : i < j + 1 := hi; omega))⟩, fun z => absurd (show (1 : Int32) = 0 from z) (by decide), by show j + 1 ≤ 8; omega⟩ | exact ⟨Or.inl rfl, fun z => absurd (show (0 : Int32) = 1 from z) (by decide), fun _ h => h61 (h.2 j hj), by show j + 1 ≤ 8; omega⟩
          · first | (rw [if_neg h31]; show (if (1 : Int32) = 0 then 0 else 9 - (j + 1)) < 9 - j; rw [if_neg (by decide)]; omega) | (rw [if_neg h31]; show (if (0 : Int32) = 0 then 0 else 9 - (j + 1)) < 9 - j; rw [if_pos rfl]; omega)
  · skip
    have hq : stL.getD w_ 0 = a_ - b_ := by
      rw [pk_sub hb, nI_eq (by omega) (by omega)] at h18
      exact h18.symm
    refine V_iconst (v := 1) (pc := 21) dX11_isWord_21 (by decide) ?_
    refine V_goto (pc := 22) (tgt := 26) dX11_isWord_22 (by decide) ?_
    refine V_istore_n (pc := 26) (L2 := [(2, .ref (sAd Z w_)), (0, .ref (Z.2.2.2 99)), (1, .int (nI w_))]) dX11_isWord_26 rfl (by decide) rfl (fun x3_26 ex3_26 => ?_)
    subst ex3_26
    refine V_iconst (v := 0) (pc := 27) dX11_isWord_27 (by decide) ?_
    refine V_istore (pc := 28) (L2 := [(3, .int 1), (2, .ref (sAd Z w_)), (0, .ref (Z.2.2.2 99)), (1, .int (nI w_))]) dX11_isWord_28 (by decide) rfl (fun x4_28 ex4_28 => ?_)
    subst ex4_28
    refine V_sub (L' := [(4, .int (nI 0)), (3, .int 1), (2, .ref (sAd Z w_)), (0, .ref (Z.2.2.2 99)), (1, .int (nI w_))]) [0, 1, 2, 3, 4] rfl ?_
    refine Vloop (σ := Nat × Int32) (fun x => ((x.2) = 0 ∨ (x.2) = 1) ∧ ((x.2) = 1 → (stL.getD w_ 0 = a_ - b_ ∧ (x.1) ≤ (stL.getD w_ 0) ∧ ∀ i, i < (x.1) → (S.2.2 20) (b_ + i) = stC w_ i)) ∧ ((x.2) = 0 → ¬ wdm (S.2.2 20) b_ a_ w_) ∧ (x.1) ≤ 8) (fun x => (if (x.2) = 0 then 0 else 9 - (x.1))) (fun x => V MW Z cX11_isWord RX11 5 (some .boolean) 5 0 0 B 0 0 30 [(4, .int (nI (x.1))), (3, .int (x.2)), (2, .ref (sAd Z w_)), (0, .ref (Z.2.2.2 99)), (1, .int (nI w_))] [] (mTk S (nI a_) (nI b_) k_ v_)) ?_ (0, 1) (by first | exact ⟨Or.inr rfl, fun _ => ⟨hq, Nat.zero_le _, fun i hi => absurd hi (Nat.not_lt_zero _)⟩, fun z => absurd z (by decide), by decide⟩ | exact ⟨Or.inl rfl, fun z => absurd z (by decide), fun _ h => hq h.1, by decide⟩)
    rintro ⟨j, q⟩ hI30 ih30
    have hI30 : (q = 0 ∨ q = 1) ∧ (q = 1 → (stL.getD w_ 0 = a_ - b_ ∧ j ≤ (stL.getD w_ 0) ∧ ∀ i, i < j → (S.2.2 20) (b_ + i) = stC w_ i)) ∧ (q = 0 → ¬ wdm (S.2.2 20) b_ a_ w_) ∧ j ≤ 8 := hI30
    show V MW Z cX11_isWord RX11 5 (some .boolean) 5 0 0 B 0 0 30 [(4, .int (nI j)), (3, .int q), (2, .ref (sAd Z w_)), (0, .ref (Z.2.2.2 99)), (1, .int (nI w_))] [] (mTk S (nI a_) (nI b_) k_ v_)
    refine V_iload_n (pc := 30) dX11_isWord_30 1 rfl rfl ?_
    refine V_if_eq (pc := 31) (tgt := 76) dX11_isWord_31 (by decide) (fun h31 => ?_) (fun h31 => ?_)
    · skip
      refine V_iload_n (pc := 76) dX11_isWord_76 1 rfl rfl ?_
      exact V_zret (pc := 77) dX11_isWord_77 (Nat.le_of_ble_eq_true rfl) (Nat.le_of_ble_eq_true rfl) (by exact hI30.1) (hB _ _ (by refine ⟨congrArg (fun z => some (Value.int z)) ?_, rfl⟩; rw [h31]; exact (bI_f (hI30.2.2.1 h31)).symm))
    · skip
      have hq1 : q = 1 := hI30.1.resolve_left h31
      refine V_iload (pc := 34) dX11_isWord_34 0 rfl ?_
      refine V_aload_n (pc := 36) dX11_isWord_36 2 rfl rfl ?_
      refine V_callK (pc := 37) hst (by exact hw) dX11_isWord_37 (g_length Z _ w_ (by exact hw)) kX11_275 rfl rfl (Nat.le_of_ble_eq_true rfl) (by decide) (by decide) (Nat.le_of_ble_eq_true rfl) (Nat.le_of_ble_eq_true rfl) (fun v37 S37 hp37 => ?_)
      obtain ⟨rfl, rfl⟩ := hp37
      refine V_icmp_ge (pc := 40) (tgt := 76) dX11_isWord_40 (by decide) (fun h40 => ?_) (fun h40 => ?_)
      · skip
        have hj : (stL.getD w_ 0) ≤ j := (nI_leI (by omega) (by omega)).mp h40
        refine V_iload_n (pc := 76) dX11_isWord_76 1 rfl rfl ?_
        exact V_zret (pc := 77) dX11_isWord_77 (Nat.le_of_ble_eq_true rfl) (Nat.le_of_ble_eq_true rfl) (by exact hI30.1) (hB _ _ (by refine ⟨congrArg (fun z => some (Value.int z)) ?_, rfl⟩; rw [hq1]; exact (bI_t ⟨(hI30.2.1 hq1).1, fun i hi => (hI30.2.1 hq1).2.2 i (by omega)⟩).symm))
      · skip
        have hj : j < (stL.getD w_ 0) := Nat.not_le.mp (fun q => h40 (nI_le q (by omega)))
        refine V_aload_n (pc := 43) dX11_isWord_43 3 rfl rfl ?_
        refine Mg_tape (pc := 44) dX11_isWord_44 ?_
        refine V_aload_n (pc := 47) dX11_isWord_47 3 rfl rfl ?_
        refine Mg_begun (pc := 48) (v := (nI b_)) rfl dX11_isWord_48 ?_
        refine V_iload (pc := 51) dX11_isWord_51 0 rfl ?_
        refine V_iadd (pc := 53) dX11_isWord_53 ?_
        refine V_eqi (nI (b_ + j)) (nI_add _ _) ?_
        refine Ml_tape (pc := 54) dX11_isWord_54 (by have := (hI30.2.1 hq1).1; exact vp_in_nI (by omega) (by decide)) ?_
        refine V_eqi ((S.2.2 20) (b_ + j)) (by rw [nI_clamp (by omega)]; rfl) ?_
        refine V_aload_n (pc := 55) dX11_isWord_55 2 rfl rfl ?_
        refine V_iload (pc := 56) dX11_isWord_56 0 rfl ?_
        refine V_callK (pc := 58) hst (by exact hw) dX11_isWord_58 (g_charAt Z _ w_ (j) (by exact hw) (by exact hj)) kX11_279 rfl rfl (Nat.le_of_ble_eq_true rfl) (by decide) (by decide) (Nat.le_of_ble_eq_true rfl) (Nat.le_of_ble_eq_true rfl) (fun v58 S58 hp58 => ?_)
        obtain ⟨rfl, rfl⟩ := hp58
        refine V_icmp_ne (pc := 61) (tgt := 68) dX11_isWord_61 (by decide) (fun h61 => ?_) (fun h61 => ?_)
        · skip
          refine V_iconst (v := 0) (pc := 68) dX11_isWord_68 (by decide) ?_
          refine V_istore_n (pc := 69) (L2 := [(4, .int (nI j)), (2, .ref (sAd Z w_)), (0, .ref (Z.2.2.2 99)), (1, .int (nI w_))]) dX11_isWord_69 rfl (by decide) rfl (fun x3_69 ex3_69 => ?_)
          subst ex3_69
          refine V_iinc (pc := 70) (v := 1) (L2 := [(3, .int 0), (2, .ref (sAd Z w_)), (0, .ref (Z.2.2.2 99)), (1, .int (nI w_))]) dX11_isWord_70 1 rfl (by decide) (by decide) rfl (fun x4_70 ex4_70 => ?_)
          rw [nI_1] at ex4_70
          subst ex4_70
          refine V_goto (pc := 73) (tgt := 30) dX11_isWord_73 (by decide) ?_
          refine V_sub (L' := [(4, .int (nI (j + 1))), (3, .int 0), (2, .ref (sAd Z w_)), (0, .ref (Z.2.2.2 99)), (1, .int (nI w_))]) [0, 1, 2, 3, 4] rfl ?_
          refine ih30 (((j + 1)), _) ?_ ?_
          · first | exact ⟨Or.inr rfl, fun _ => ⟨(hI30.2.1 hq1).1, hj, fun i hi => by
                by_cases e : i = j
                · rw [e]; exact h61
                · exact ((hI30.2.1 hq1).2.2 i (by have : i < j + 1 := hi; omega))⟩, fun z => absurd (show (1 : Int32) = 0 from z) (by decide), by show j + 1 ≤ 8; omega⟩ | exact ⟨Or.inl rfl, fun z => absurd (show (0 : Int32) = 1 from z) (by decide), fun _ h => h61 (h.2 j hj), by show j + 1 ≤ 8; omega⟩
          · first | (rw [if_neg h31]; show (if (1 : Int32) = 0 then 0 else 9 - (j + 1)) < 9 - j; rw [if_neg (by decide)]; omega) | (rw [if_neg h31]; show (if (0 : Int32) = 0 then 0 else 9 - (j + 1)) < 9 - j; rw [if_pos rfl]; omega)
        · skip
          refine V_iconst (v := 1) (pc := 64) dX11_isWord_64 (by decide) ?_
          refine V_goto (pc := 65) (tgt := 69) dX11_isWord_65 (by decide) ?_
          refine V_istore_n (pc := 69) (L2 := [(4, .int (nI j)), (2, .ref (sAd Z w_)), (0, .ref (Z.2.2.2 99)), (1, .int (nI w_))]) dX11_isWord_69 rfl (by decide) rfl (fun x3_69 ex3_69 => ?_)
          subst ex3_69
          refine V_iinc (pc := 70) (v := 1) (L2 := [(3, .int 1), (2, .ref (sAd Z w_)), (0, .ref (Z.2.2.2 99)), (1, .int (nI w_))]) dX11_isWord_70 1 rfl (by decide) (by decide) rfl (fun x4_70 ex4_70 => ?_)
          rw [nI_1] at ex4_70
          subst ex4_70
          refine V_goto (pc := 73) (tgt := 30) dX11_isWord_73 (by decide) ?_
          refine V_sub (L' := [(4, .int (nI (j + 1))), (3, .int 1), (2, .ref (sAd Z w_)), (0, .ref (Z.2.2.2 99)), (1, .int (nI w_))]) [0, 1, 2, 3, 4] rfl ?_
          refine ih30 (((j + 1)), _) ?_ ?_
          · first | exact ⟨Or.inr rfl, fun _ => ⟨(hI30.2.1 hq1).1, hj, fun i hi => by
                by_cases e : i = j
                · rw [e]; exact h61
                · exact ((hI30.2.1 hq1).2.2 i (by have : i < j + 1 := hi; omega))⟩, fun z => absurd (show (1 : Int32) = 0 from z) (by decide), by show j + 1 ≤ 8; omega⟩ | exact ⟨Or.inl rfl, fun z => absurd (show (0 : Int32) = 1 from z) (by decide), fun _ h => h61 (h.2 j hj), by show j + 1 ≤ 8; omega⟩
          · first | (rw [if_neg h31]; show (if (1 : Int32) = 0 then 0 else 9 - (j + 1)) < 9 - j; rw [if_neg (by decide)]; omega) | (rw [if_neg h31]; show (if (0 : Int32) = 0 then 0 else 9 - (j + 1)) < 9 - j; rw [if_pos rfl]; omega)
