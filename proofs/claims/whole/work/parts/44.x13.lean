abbrev igC (f : Nat → Int32) (i : Nat) : Nat := kc (f (5 * i))
abbrev igG (f : Nat → Int32) (i : Nat) : Nat → Int32 := gM (f (5 * i)) (f (5 * i + 1)) (f (5 * i + 2)) (f (5 * i + 3)) (f (5 * i + 4))
abbrev bkM (S : XS) (i : Nat) (U : XS) : Prop := ∃ q, U.2.2.2.2.1 i = some q ∧ q ∈ xL U ∧ xmk U q = igC (S.2.2.1 2) i ∧ mfo U q = igG (S.2.2.1 2) i
/-- the machines up to a place have come back from the image -/
def bkI (S U : XS) (j : Nat) : Prop := (U.1 = S.1 ∧ U.2.1 = S.2.1 ∧ U.2.2.1 = S.2.2.1 ∧ U.2.2.2.1 = S.2.2.2.1) ∧ (∀ i, i < j → (nI i < S.1 3 → bkM S i U) ∧ (¬ nI i < S.1 3 → U.2.2.2.2.1 i = none)) ∧ (∀ i k, i < j → k < j → nI i < S.1 3 → nI k < S.1 3 → i ≠ k → U.2.2.2.2.1 i ≠ U.2.2.2.2.1 k)
theorem bkI_0 (S : XS) : bkI S S 0 := ⟨⟨rfl, rfl, rfl, rfl⟩, fun i hi => absurd hi (Nat.not_lt_zero _), fun i _ hi => absurd hi (Nat.not_lt_zero _)⟩
theorem bkI_no {S U : XS} {j : Nat} (hj : j < 4) (h : bkI S U j) (hno : ¬ nI j < S.1 3) : bkI S (U.1, U.2.1, U.2.2.1, U.2.2.2.1, va_up U.2.2.2.2.1 (nI j).toNatClampNeg none, U.2.2.2.2.2) (j + 1) := by
  obtain ⟨h1, h2, h3⟩ := h
  rw [nI_clamp (by omega)]
  refine ⟨h1, fun i hi => ?_, fun i k hi hk h5 h6 hne => ?_⟩
  · by_cases e : i = j
    · subst e
      exact ⟨fun h => absurd h hno, fun _ => va_up_self _ _ _⟩
    · obtain ⟨k1, k2⟩ := h2 i (by omega)
      refine ⟨fun h => ?_, fun h => (va_up_ne _ _ e).trans (k2 h)⟩
      obtain ⟨q, q1, q2, q3, q4⟩ := k1 h
      exact ⟨q, (va_up_ne _ _ e).trans q1, q2, q3, q4⟩
  · have n1 : i ≠ j := fun e => hno (e ▸ h5)
    have n2 : k ≠ j := fun e => hno (e ▸ h6)
    show va_up U.2.2.2.2.1 j none i ≠ va_up U.2.2.2.2.1 j none k
    rw [va_up_ne _ _ n1, va_up_ne _ _ n2]
    exact h3 i k (by omega) (by omega) h5 h6 hne
theorem bkI_yes {S U : XS} {j q : Nat} (hj : j < 4) (h : bkI S U j) (hq : q ∉ xL U) (hy : nI j < S.1 3) : bkI S ((xN U q (igC (U.2.2.1 2) j) (igG (U.2.2.1 2) j)).1, (xN U q (igC (U.2.2.1 2) j) (igG (U.2.2.1 2) j)).2.1, (xN U q (igC (U.2.2.1 2) j) (igG (U.2.2.1 2) j)).2.2.1, (xN U q (igC (U.2.2.1 2) j) (igG (U.2.2.1 2) j)).2.2.2.1, va_up (xN U q (igC (U.2.2.1 2) j) (igG (U.2.2.1 2) j)).2.2.2.2.1 (nI j).toNatClampNeg (some q), (xN U q (igC (U.2.2.1 2) j) (igG (U.2.2.1 2) j)).2.2.2.2.2) (j + 1) := by
  obtain ⟨h1, h2, h3⟩ := h
  rw [nI_clamp (by omega), h1.2.2.1]
  refine ⟨⟨h1.1, h1.2.1, h1.2.2.1, h1.2.2.2⟩, fun i hi => ?_, fun i k hi hk h5 h6 hne => ?_⟩
  · by_cases e : i = j
    · subst e
      exact ⟨fun _ => ⟨q, va_up_self _ _ _, List.mem_append_right _ (List.mem_singleton.mpr rfl), va_up_self _ _ _, va_up_self _ _ _⟩, fun h => absurd hy h⟩
    · obtain ⟨k1, k2⟩ := h2 i (by omega)
      refine ⟨fun h => ?_, fun h => (va_up_ne _ _ e).trans (k2 h)⟩
      obtain ⟨p, q1, q2, q3, q4⟩ := k1 h
      have n1 : p ≠ q := fun z => hq (z ▸ q2)
      exact ⟨p, (va_up_ne _ _ e).trans q1, List.mem_append_left _ q2, (va_up_ne _ _ n1).trans q3, (va_up_ne _ _ n1).trans q4⟩
  · show va_up U.2.2.2.2.1 j (some q) i ≠ va_up U.2.2.2.2.1 j (some q) k
    have old : ∀ i, i < j → nI i < S.1 3 → U.2.2.2.2.1 i ≠ some q := by
      intro i hi hn z
      obtain ⟨p, q1, q2, _⟩ := (h2 i hi).1 hn
      rw [z] at q1
      exact hq (Option.some.inj q1 ▸ q2)
    by_cases e1 : i = j
    · subst e1
      rw [va_up_self, va_up_ne _ _ (Ne.symm hne)]
      exact fun z => old k (by omega) h6 z.symm
    · by_cases e2 : k = j
      · subst e2
        rw [va_up_self, va_up_ne _ _ e1]
        exact old i (by omega) h5
      · rw [va_up_ne _ _ e1, va_up_ne _ _ e2]
        exact h3 i k (by omega) (by omega) h5 h6 hne
/-- what back makes of the class -/
def backX (S S' : XS) : Prop := ∃ U, bkI S U 4 ∧ S' = xF U 1 (S.1 3)
set_option maxHeartbeats 4000000 in
set_option maxRecDepth 100000 in
theorem c_X10_back (Z : VZ) (S : XS) : Ct XW Z yX10_back cX10_back 2 (some .int) 7 4 24 [.ref (Z.2.2.2 99)] (S) (fun v S' => v = some (.int (if S.1 3 = -1 then -3 else S.1 3)) ∧ ((S.1 3 = -1 ∧ S' = S) ∨ (¬ S.1 3 = -1 ∧ backX S S'))) := by
  refine V_entry (own := RX10) (by decide) rfl (Nat.le_of_ble_eq_true rfl) ?_
  intro B hB
  refine V_sub (L' := [(0, .ref (Z.2.2.2 99))]) [0] rfl ?_
  refine V_aload_n (pc := 0) dX10_back_0 0 rfl rfl ?_
  refine Xg_X10_25 (pc := 1) (v := (S.1 3)) rfl dX10_back_1 ?_
  refine V_iconst (v := (-1)) (pc := 4) dX10_back_4 (by decide) ?_
  refine V_icmp_ne (pc := 5) (tgt := 11) dX10_back_5 (by decide) (fun h5 => ?_) (fun h5 => ?_)
  · skip
    refine V_iconst (v := 0) (pc := 11) dX10_back_11 (by decide) ?_
    refine V_istore_n (pc := 12) (L2 := [(0, .ref (Z.2.2.2 99))]) dX10_back_12 rfl (by decide) rfl (fun x1_12 ex1_12 => ?_)
    subst ex1_12
    refine V_sub (L' := [(1, .int (nI 0)), (0, .ref (Z.2.2.2 99))]) [0, 1] rfl ?_
    refine V_widen (n' := ((0))) (k' := (6 * (0))) (by omega) (by omega) ?_
    refine Vloop (σ := Nat × XS) (fun x => (x.1) ≤ 4 ∧ bkI S (x.2) (x.1)) (fun x => 4 - (x.1)) (fun x => V XW Z cX10_back RX10 2 (some .int) 7 4 24 B ((x.1)) (6 * (x.1)) 13 [(1, .int (nI (x.1))), (0, .ref (Z.2.2.2 99))] [] ((x.2))) ?_ (0, _) (by exact ⟨Nat.zero_le _, bkI_0 S⟩)
    rintro ⟨j, U_⟩ hI13 ih13
    have hI13 : j ≤ 4 ∧ bkI S U_ j := hI13
    show V XW Z cX10_back RX10 2 (some .int) 7 4 24 B (j) (6 * j) 13 [(1, .int (nI j)), (0, .ref (Z.2.2.2 99))] [] (U_)
    refine V_iload_n (pc := 13) dX10_back_13 0 rfl rfl ?_
    refine V_aload_n (pc := 14) dX10_back_14 1 rfl rfl ?_
    refine Xg_X10_13 (pc := 15) dX10_back_15 ?_
    refine Xn_0 (pc := 18) dX10_back_18 ?_
    refine V_icmp_ge (pc := 19) (tgt := 53) dX10_back_19 (by decide) (fun h19 => ?_) (fun h19 => ?_)
    · skip
      have hj : 4 ≤ j := jge h19 (by omega)
      have ej : j = 4 := by omega
      refine V_aload_n (pc := 53) dX10_back_53 1 rfl rfl ?_
      refine V_aload_n (pc := 54) dX10_back_54 1 rfl rfl ?_
      refine Xg_X10_25 (pc := 55) (v := (S.1 3)) (congrFun hI13.2.1.1 3) dX10_back_55 ?_
      refine Xp_X10_17 (pc := 58) dX10_back_58 ?_
      refine V_aload_n (pc := 61) dX10_back_61 1 rfl rfl ?_
      refine Xg_X10_17 (pc := 62) (v := (S.1 3)) (va_up_self U_.1 1 (S.1 3)) dX10_back_62 ?_
      exact V_iret (pc := 65) dX10_back_65 (by omega) (by omega) (hB _ _ ⟨congrArg (fun z => some (Value.int z)) (by exact (if_neg h5).symm), by exact Or.inr ⟨h5, U_, ej ▸ hI13.2, rfl⟩⟩)
    · skip
      have hj : j < 4 := jlt h19 (by omega)
      refine V_aload_n (pc := 22) dX10_back_22 1 rfl rfl ?_
      refine Xg_X10_13 (pc := 23) dX10_back_23 ?_
      refine V_iload_n (pc := 26) dX10_back_26 0 rfl rfl ?_
      refine V_iload_n (pc := 27) dX10_back_27 0 rfl rfl ?_
      refine V_aload_n (pc := 28) dX10_back_28 1 rfl rfl ?_
      refine Xg_X10_25 (pc := 29) (v := (S.1 3)) (congrFun hI13.2.1.1 3) dX10_back_29 ?_
      refine V_icmp_ge (pc := 32) (tgt := 45) dX10_back_32 (by decide) (fun h32 => ?_) (fun h32 => ?_)
      · skip
        refine V_null (pc := 45) dX10_back_45 ?_
        refine Xs_mN (pc := 46) dX10_back_46 (by exact vp_in_nI (by omega) (by decide)) ?_
        refine V_iinc (pc := 47) (v := 1) (L2 := [(0, .ref (Z.2.2.2 99))]) dX10_back_47 0 rfl (by decide) (by decide) rfl (fun x1_47 ex1_47 => ?_)
        rw [nI_1] at ex1_47
        subst ex1_47
        refine V_goto (pc := 50) (tgt := 13) dX10_back_50 (by decide) ?_
        refine V_sub (L' := [(1, .int (nI (j + 1))), (0, .ref (Z.2.2.2 99))]) [0, 1] rfl ?_
        refine V_widen (n' := (((j + 1)))) (k' := (6 * ((j + 1)))) (by omega) (by omega) ?_
        refine ih13 (((j + 1)), _) ?_ ?_
        · first | exact ⟨hj, bkI_yes hj hI13.2 hq_ (Int32.not_le.mp h32)⟩ | exact ⟨hj, bkI_no hj hI13.2 (Int32.not_lt.mpr h32)⟩
        · show 4 - (j + 1) < 4 - j
          omega
      · skip
        refine V_aload_n (pc := 35) dX10_back_35 1 rfl rfl ?_
        refine V_iload_n (pc := 36) dX10_back_36 0 rfl rfl ?_
        refine V_iconst (v := 5) (pc := 37) dX10_back_37 (by decide) ?_
        refine V_imul (pc := 38) dX10_back_38 ?_
        refine V_eqi (nI (5 * j)) (nI5 j) ?_
        refine V_callV (q0 := 0) (ci := 10) (C := RX10) (T := TX10) (N := 9) (pc := 39) dX10_back_39 (c_X10_imagedAt Z _ _ (by exact hj)) kX10_259 rfl rfl rfl rfl (Nat.le_of_ble_eq_true rfl) (by decide) (by decide) (by omega) (by omega) (fun v39 S39 hp39 => ?_)
        refine V_widen (n' := ((j) + 1)) (k' := ((6 * j) + 6)) (Nat.le_refl _) (Nat.le_refl _) ?_
        obtain ⟨q_, rfl, hq_, rfl⟩ := hp39
        refine V_goto (pc := 42) (tgt := 46) dX10_back_42 (by decide) ?_
        refine Xs_m (pc := 46) (by exact in_xN _ _ _ _) (by exact mcl_xN _ _ _ _) dX10_back_46 (by exact vp_in_nI (by omega) (by decide)) ?_
        refine V_iinc (pc := 47) (v := 1) (L2 := [(0, .ref (Z.2.2.2 99))]) dX10_back_47 0 rfl (by decide) (by decide) rfl (fun x1_47 ex1_47 => ?_)
        rw [nI_1] at ex1_47
        subst ex1_47
        refine V_goto (pc := 50) (tgt := 13) dX10_back_50 (by decide) ?_
        refine V_sub (L' := [(1, .int (nI (j + 1))), (0, .ref (Z.2.2.2 99))]) [0, 1] rfl ?_
        refine V_widen (n' := (((j + 1)))) (k' := (6 * ((j + 1)))) (by omega) (by omega) ?_
        refine ih13 (((j + 1)), _) ?_ ?_
        · first | exact ⟨hj, bkI_yes hj hI13.2 hq_ (Int32.not_le.mp h32)⟩ | exact ⟨hj, bkI_no hj hI13.2 (Int32.not_lt.mpr h32)⟩
        · show 4 - (j + 1) < 4 - j
          omega
  · skip
    refine V_bipush (v := (-3)) (pc := 8) dX10_back_8 (by decide) ?_
    exact V_iret (pc := 10) dX10_back_10 (Nat.le_of_ble_eq_true rfl) (Nat.le_of_ble_eq_true rfl) (hB _ _ ⟨congrArg (fun z => some (Value.int z)) (by exact (if_pos h5).symm), by exact Or.inl ⟨h5, rfl⟩⟩)
theorem Xcpy {Z : VZ} {cc : ByteArray} {nL : Nat} {ret : Option FieldType} {d mc ms : Nat} {B : VB XS} {n k pc : Nat} {L : List (Nat × Value)} {st : List Value} {S : XS} {i j : Nat} {sp dp u : Int32} (hi : i < 4) (hj : j < 4) (hd : decode cc pc = .ok (.invokestatic 288, 3)) (h1 : ¬ sp < 0) (h2 : ¬ dp < 0) (h3 : ¬ u < 0) (h4 : sp.toNatClampNeg + u.toNatClampNeg ≤ 40) (h5 : dp.toNatClampNeg + u.toNatClampNeg ≤ 40) (hd1 : 1 ≤ d) (hrm : (st.map fun v => v.category).sum + (nativeFrameWords "java/lang/System" "arraycopy" 5 + 11) ≤ 100 * d) (kk : V XW Z cc RX10 nL ret d mc ms B n k (pc + 3) L st (xA S (20 + j) (va_cpy (S.2.2.1 (20 + i)) (S.2.2.1 (20 + j)) sp.toNatClampNeg dp.toNatClampNeg u.toNatClampNeg))) : V XW Z cc RX10 nL ret d mc ms B n k pc L (.int u :: .int dp :: .ref (Z.2.2.2 (20 + j)) :: .int sp :: .ref (Z.2.2.2 (20 + i)) :: st) S := by
  intro p e s m args below meth c S0 po hB hk H locs ls hP hD hS hl
  have hts := hk.2.2.2.2.1
  match i, hi, j, hj with
  | 0, _, 0, _ => exact va_copyi hk.1 hk.2.1 (hk.2.2.1.trans hl.1.symm) hk.2.2.2.1 (hts _ tw_854) (hts _ tw_nat) (hts _ tw_855) (hts _ tw_16) hk.2.2.2.2.2.2.2.1 hP hD hS 9 9 0 0 rfl rfl rfl rfl rfl h1 h2 h3 h4 h5 (fun _ _ => rfl) hd1 hrm hd (fun H locs hP hD hS => kk p e s m args below meth c S0 po hB hk H locs ls hP hD hS hl)
  | 0, _, 1, _ => exact va_copyi hk.1 hk.2.1 (hk.2.2.1.trans hl.1.symm) hk.2.2.2.1 (hts _ tw_854) (hts _ tw_nat) (hts _ tw_855) (hts _ tw_16) hk.2.2.2.2.2.2.2.1 hP hD hS 9 10 0 0 rfl rfl rfl rfl rfl h1 h2 h3 h4 h5 (fun _ _ => rfl) hd1 hrm hd (fun H locs hP hD hS => kk p e s m args below meth c S0 po hB hk H locs ls hP hD hS hl)
  | 0, _, 2, _ => exact va_copyi hk.1 hk.2.1 (hk.2.2.1.trans hl.1.symm) hk.2.2.2.1 (hts _ tw_854) (hts _ tw_nat) (hts _ tw_855) (hts _ tw_16) hk.2.2.2.2.2.2.2.1 hP hD hS 9 11 0 0 rfl rfl rfl rfl rfl h1 h2 h3 h4 h5 (fun _ _ => rfl) hd1 hrm hd (fun H locs hP hD hS => kk p e s m args below meth c S0 po hB hk H locs ls hP hD hS hl)
  | 0, _, 3, _ => exact va_copyi hk.1 hk.2.1 (hk.2.2.1.trans hl.1.symm) hk.2.2.2.1 (hts _ tw_854) (hts _ tw_nat) (hts _ tw_855) (hts _ tw_16) hk.2.2.2.2.2.2.2.1 hP hD hS 9 12 0 0 rfl rfl rfl rfl rfl h1 h2 h3 h4 h5 (fun _ _ => rfl) hd1 hrm hd (fun H locs hP hD hS => kk p e s m args below meth c S0 po hB hk H locs ls hP hD hS hl)
  | 1, _, 0, _ => exact va_copyi hk.1 hk.2.1 (hk.2.2.1.trans hl.1.symm) hk.2.2.2.1 (hts _ tw_854) (hts _ tw_nat) (hts _ tw_855) (hts _ tw_16) hk.2.2.2.2.2.2.2.1 hP hD hS 10 9 0 0 rfl rfl rfl rfl rfl h1 h2 h3 h4 h5 (fun _ _ => rfl) hd1 hrm hd (fun H locs hP hD hS => kk p e s m args below meth c S0 po hB hk H locs ls hP hD hS hl)
  | 1, _, 1, _ => exact va_copyi hk.1 hk.2.1 (hk.2.2.1.trans hl.1.symm) hk.2.2.2.1 (hts _ tw_854) (hts _ tw_nat) (hts _ tw_855) (hts _ tw_16) hk.2.2.2.2.2.2.2.1 hP hD hS 10 10 0 0 rfl rfl rfl rfl rfl h1 h2 h3 h4 h5 (fun _ _ => rfl) hd1 hrm hd (fun H locs hP hD hS => kk p e s m args below meth c S0 po hB hk H locs ls hP hD hS hl)
  | 1, _, 2, _ => exact va_copyi hk.1 hk.2.1 (hk.2.2.1.trans hl.1.symm) hk.2.2.2.1 (hts _ tw_854) (hts _ tw_nat) (hts _ tw_855) (hts _ tw_16) hk.2.2.2.2.2.2.2.1 hP hD hS 10 11 0 0 rfl rfl rfl rfl rfl h1 h2 h3 h4 h5 (fun _ _ => rfl) hd1 hrm hd (fun H locs hP hD hS => kk p e s m args below meth c S0 po hB hk H locs ls hP hD hS hl)
  | 1, _, 3, _ => exact va_copyi hk.1 hk.2.1 (hk.2.2.1.trans hl.1.symm) hk.2.2.2.1 (hts _ tw_854) (hts _ tw_nat) (hts _ tw_855) (hts _ tw_16) hk.2.2.2.2.2.2.2.1 hP hD hS 10 12 0 0 rfl rfl rfl rfl rfl h1 h2 h3 h4 h5 (fun _ _ => rfl) hd1 hrm hd (fun H locs hP hD hS => kk p e s m args below meth c S0 po hB hk H locs ls hP hD hS hl)
  | 2, _, 0, _ => exact va_copyi hk.1 hk.2.1 (hk.2.2.1.trans hl.1.symm) hk.2.2.2.1 (hts _ tw_854) (hts _ tw_nat) (hts _ tw_855) (hts _ tw_16) hk.2.2.2.2.2.2.2.1 hP hD hS 11 9 0 0 rfl rfl rfl rfl rfl h1 h2 h3 h4 h5 (fun _ _ => rfl) hd1 hrm hd (fun H locs hP hD hS => kk p e s m args below meth c S0 po hB hk H locs ls hP hD hS hl)
  | 2, _, 1, _ => exact va_copyi hk.1 hk.2.1 (hk.2.2.1.trans hl.1.symm) hk.2.2.2.1 (hts _ tw_854) (hts _ tw_nat) (hts _ tw_855) (hts _ tw_16) hk.2.2.2.2.2.2.2.1 hP hD hS 11 10 0 0 rfl rfl rfl rfl rfl h1 h2 h3 h4 h5 (fun _ _ => rfl) hd1 hrm hd (fun H locs hP hD hS => kk p e s m args below meth c S0 po hB hk H locs ls hP hD hS hl)
  | 2, _, 2, _ => exact va_copyi hk.1 hk.2.1 (hk.2.2.1.trans hl.1.symm) hk.2.2.2.1 (hts _ tw_854) (hts _ tw_nat) (hts _ tw_855) (hts _ tw_16) hk.2.2.2.2.2.2.2.1 hP hD hS 11 11 0 0 rfl rfl rfl rfl rfl h1 h2 h3 h4 h5 (fun _ _ => rfl) hd1 hrm hd (fun H locs hP hD hS => kk p e s m args below meth c S0 po hB hk H locs ls hP hD hS hl)
  | 2, _, 3, _ => exact va_copyi hk.1 hk.2.1 (hk.2.2.1.trans hl.1.symm) hk.2.2.2.1 (hts _ tw_854) (hts _ tw_nat) (hts _ tw_855) (hts _ tw_16) hk.2.2.2.2.2.2.2.1 hP hD hS 11 12 0 0 rfl rfl rfl rfl rfl h1 h2 h3 h4 h5 (fun _ _ => rfl) hd1 hrm hd (fun H locs hP hD hS => kk p e s m args below meth c S0 po hB hk H locs ls hP hD hS hl)
  | 3, _, 0, _ => exact va_copyi hk.1 hk.2.1 (hk.2.2.1.trans hl.1.symm) hk.2.2.2.1 (hts _ tw_854) (hts _ tw_nat) (hts _ tw_855) (hts _ tw_16) hk.2.2.2.2.2.2.2.1 hP hD hS 12 9 0 0 rfl rfl rfl rfl rfl h1 h2 h3 h4 h5 (fun _ _ => rfl) hd1 hrm hd (fun H locs hP hD hS => kk p e s m args below meth c S0 po hB hk H locs ls hP hD hS hl)
  | 3, _, 1, _ => exact va_copyi hk.1 hk.2.1 (hk.2.2.1.trans hl.1.symm) hk.2.2.2.1 (hts _ tw_854) (hts _ tw_nat) (hts _ tw_855) (hts _ tw_16) hk.2.2.2.2.2.2.2.1 hP hD hS 12 10 0 0 rfl rfl rfl rfl rfl h1 h2 h3 h4 h5 (fun _ _ => rfl) hd1 hrm hd (fun H locs hP hD hS => kk p e s m args below meth c S0 po hB hk H locs ls hP hD hS hl)
  | 3, _, 2, _ => exact va_copyi hk.1 hk.2.1 (hk.2.2.1.trans hl.1.symm) hk.2.2.2.1 (hts _ tw_854) (hts _ tw_nat) (hts _ tw_855) (hts _ tw_16) hk.2.2.2.2.2.2.2.1 hP hD hS 12 11 0 0 rfl rfl rfl rfl rfl h1 h2 h3 h4 h5 (fun _ _ => rfl) hd1 hrm hd (fun H locs hP hD hS => kk p e s m args below meth c S0 po hB hk H locs ls hP hD hS hl)
  | 3, _, 3, _ => exact va_copyi hk.1 hk.2.1 (hk.2.2.1.trans hl.1.symm) hk.2.2.2.1 (hts _ tw_854) (hts _ tw_nat) (hts _ tw_855) (hts _ tw_16) hk.2.2.2.2.2.2.2.1 hP hD hS 12 12 0 0 rfl rfl rfl rfl rfl h1 h2 h3 h4 h5 (fun _ _ => rfl) hd1 hrm hd (fun H locs hP hD hS => kk p e s m args below meth c S0 po hB hk H locs ls hP hD hS hl)
  | i + 4, hi, _, _ => exact absurd hi (by omega)
  | _, _, j + 4, hj => exact absurd hj (by omega)
theorem hasW {z i n : Int32} (h1 : ¬ lg_cmp (Int32.toInt64 i) 0 < 0) (h0 : ¬ lg_cmp (Int32.toInt64 n) 0 < 0) (h2 : ¬ 0 < lg_cmp (Int32.toInt64 i + Int32.toInt64 n) (Int32.toInt64 z)) (h3 : ¬ 40 < z) : ¬ i < 0 ∧ ¬ n < 0 ∧ i.toNatClampNeg + n.toNatClampNeg ≤ 40 := by
  rw [lg_cmp_lt] at h1 h0
  rw [lg_cmp_gt] at h2
  have h1 := Int64.le_iff_toInt_le.mp (Int64.not_lt.mp h1)
  have h0 := Int64.le_iff_toInt_le.mp (Int64.not_lt.mp h0)
  have h2 := Int64.le_iff_toInt_le.mp (Int64.not_lt.mp h2)
  have h3 := Int32.le_iff_toInt_le.mp (Int32.not_lt.mp h3)
  have e0 : (0 : Int64).toInt = 0 := rfl
  have e4 : (40 : Int32).toInt = 40 := rfl
  have b1 := i.toInt_lt
  have b2 := n.toInt_lt
  rw [e0, Int32.toInt_toInt64] at h1 h0
  rw [Int64.toInt_add, Int32.toInt_toInt64, Int32.toInt_toInt64, Int32.toInt_toInt64, Int.bmod_eq_of_le (by omega) (by omega)] at h2
  rw [e4] at h3
  have k1 : ¬ i < 0 := Int32.not_lt.mpr (Int32.le_iff_toInt_le.mpr h1)
  have k2 : ¬ n < 0 := Int32.not_lt.mpr (Int32.le_iff_toInt_le.mpr h0)
  refine ⟨k1, k2, ?_⟩
  obtain ⟨a, ha, rfl⟩ := nI_of k1
  obtain ⟨b, hb, rfl⟩ := nI_of k2
  rw [nI_toInt ha, nI_toInt hb] at h2
  rw [nI_clamp ha, nI_clamp hb]
  omega
set_option maxHeartbeats 4000000 in
set_option maxRecDepth 100000 in
theorem c_X10_copy (Z : VZ) (S : XS) (a_ : Int32) (i_ : Int32) (b_ : Int32) (j_ : Int32) (n_ : Int32) : CtF XW Z yX10_copy cX10_copy 8 (some .int) 1 0 0 [.ref (Z.2.2.2 99), .int a_, .int i_, .int b_, .int j_, .int n_] (S) (some (.int (if ((0 ≤ a_ ∧ a_ ≤ 3) ∧ (0 ≤ b_ ∧ b_ ≤ 3)) then (if (¬ S.1 (10 + a_.toNatClampNeg) = -1 ∧ ¬ S.1 (10 + b_.toNatClampNeg) = -1) then (if (S.1 (10 + a_.toNatClampNeg) = S.1 (10 + b_.toNatClampNeg)) then (if ((¬ lg_cmp (Int32.toInt64 i_) 0 < 0 ∧ ¬ lg_cmp (Int32.toInt64 n_) 0 < 0 ∧ ¬ 0 < lg_cmp (Int32.toInt64 i_ + Int32.toInt64 n_) (Int32.toInt64 (S.1 (20 + a_.toNatClampNeg))) ∧ ¬ 40 < S.1 (20 + a_.toNatClampNeg)) ∧ (¬ lg_cmp (Int32.toInt64 j_) 0 < 0 ∧ ¬ lg_cmp (Int32.toInt64 n_) 0 < 0 ∧ ¬ 0 < lg_cmp (Int32.toInt64 j_ + Int32.toInt64 n_) (Int32.toInt64 (S.1 (20 + b_.toNatClampNeg))) ∧ ¬ 40 < S.1 (20 + b_.toNatClampNeg))) then n_ else -12) else -13) else -11) else -2))) (if ((0 ≤ a_ ∧ a_ ≤ 3) ∧ (0 ≤ b_ ∧ b_ ≤ 3)) ∧ (¬ S.1 (10 + a_.toNatClampNeg) = -1 ∧ ¬ S.1 (10 + b_.toNatClampNeg) = -1) ∧ (S.1 (10 + a_.toNatClampNeg) = S.1 (10 + b_.toNatClampNeg)) ∧ ((¬ lg_cmp (Int32.toInt64 i_) 0 < 0 ∧ ¬ lg_cmp (Int32.toInt64 n_) 0 < 0 ∧ ¬ 0 < lg_cmp (Int32.toInt64 i_ + Int32.toInt64 n_) (Int32.toInt64 (S.1 (20 + a_.toNatClampNeg))) ∧ ¬ 40 < S.1 (20 + a_.toNatClampNeg)) ∧ (¬ lg_cmp (Int32.toInt64 j_) 0 < 0 ∧ ¬ lg_cmp (Int32.toInt64 n_) 0 < 0 ∧ ¬ 0 < lg_cmp (Int32.toInt64 j_ + Int32.toInt64 n_) (Int32.toInt64 (S.1 (20 + b_.toNatClampNeg))) ∧ ¬ 40 < S.1 (20 + b_.toNatClampNeg))) then xA S (20 + b_.toNatClampNeg) (va_cpy (S.2.2.1 (20 + a_.toNatClampNeg)) (S.2.2.1 (20 + b_.toNatClampNeg)) i_.toNatClampNeg j_.toNatClampNeg n_.toNatClampNeg) else S) := by
  refine V_entry (own := RX10) (by decide) rfl (Nat.le_of_ble_eq_true rfl) ?_
  intro B hB
  refine V_sub (L' := [(0, .ref (Z.2.2.2 99)), (1, .int a_), (2, .int i_), (3, .int b_), (4, .int j_), (5, .int n_)]) [0, 1, 2, 3, 4, 5] rfl ?_
  refine V_aload_n (pc := 0) dX10_copy_0 0 rfl rfl ?_
  refine V_iload_n (pc := 1) dX10_copy_1 1 rfl rfl ?_
  refine V_callV (q0 := 0) (ci := 10) (C := RX10) (T := TX10) (N := 9) (pc := 2) dX10_copy_2 (c_X10_sheetAt Z _ _) kX10_118 rfl rfl rfl rfl (Nat.le_of_ble_eq_true rfl) (by decide) (by decide) (Nat.le_of_ble_eq_true rfl) (Nat.le_of_ble_eq_true rfl) (fun v2 S2 hp2 => ?_)
  refine V_widen (n' := 0) (k' := 0) (Nat.le_refl _) (Nat.le_refl _) ?_
  obtain ⟨rfl, ⟨hv2, hs2, hi2, rfl⟩ | ⟨hno2, rfl⟩⟩ := hp2
  · skip
    refine V_astore (pc := 5) (L2 := [(0, .ref (Z.2.2.2 99)), (1, .int a_), (2, .int i_), (3, .int b_), (4, .int j_), (5, .int n_)]) dX10_copy_5 (by decide) rfl (fun x6_5 ex6_5 => ?_)
    subst ex6_5
    refine V_aload_n (pc := 7) dX10_copy_7 1 rfl rfl ?_
    refine V_iload_n (pc := 8) dX10_copy_8 4 rfl rfl ?_
    refine V_callV (q0 := 0) (ci := 10) (C := RX10) (T := TX10) (N := 9) (pc := 9) dX10_copy_9 (c_X10_sheetAt Z _ _) kX10_118 rfl rfl rfl rfl (Nat.le_of_ble_eq_true rfl) (by decide) (by decide) (Nat.le_of_ble_eq_true rfl) (Nat.le_of_ble_eq_true rfl) (fun v9 S9 hp9 => ?_)
    refine V_widen (n' := 0) (k' := 0) (Nat.le_refl _) (Nat.le_refl _) ?_
    obtain ⟨rfl, ⟨hv9, hs9, hi9, rfl⟩ | ⟨hno9, rfl⟩⟩ := hp9
    · skip
      refine V_astore (pc := 12) (L2 := [(6, .ref (Z.2.2.2 (10 + (a_).toNatClampNeg))), (0, .ref (Z.2.2.2 99)), (1, .int a_), (2, .int i_), (3, .int b_), (4, .int j_), (5, .int n_)]) dX10_copy_12 (by decide) rfl (fun x7_12 ex7_12 => ?_)
      subst ex7_12
      refine V_aload (pc := 14) dX10_copy_14 1 rfl ?_
      refine V_ifnull (pc := 16) dX10_copy_16 ?_
      refine V_aload (pc := 19) dX10_copy_19 0 rfl ?_
      refine V_ifnonnull (pc := 21) (tgt := 27) dX10_copy_21 (by decide) ?_
      refine V_aload (pc := 27) dX10_copy_27 1 rfl ?_
      refine V_callVi (ci := 8) (C := RX8) (T := TX8) (N := 3) (pc := 29) dX10_copy_29 (c_X8_isMissing Z _ _ (by exact hs2)) kX10_134 (x_sh Z _ (by exact hs2)) rfl rfl rfl (Nat.le_of_ble_eq_true rfl) (by decide) (by decide) (Nat.le_of_ble_eq_true rfl) (Nat.le_of_ble_eq_true rfl) ?_
      refine V_bif_ne (pc := 32) (tgt := 43) dX10_copy_32 (by decide) (fun h32 => ?_) (fun h32 => ?_)
      · skip
        refine V_bipush (v := (-11)) (pc := 43) dX10_copy_43 (by decide) ?_
        exact V_iret (pc := 45) dX10_copy_45 (Nat.le_of_ble_eq_true rfl) (Nat.le_of_ble_eq_true rfl) (hB _ _ ⟨congrArg (fun z => some (Value.int z)) (by rw [if_pos ⟨hi2, hi9⟩, if_neg (fun h => h.1 h32)]), by exact (if_neg (fun h => h.2.1.1 h32)).symm⟩)
      · skip
        refine V_aload (pc := 35) dX10_copy_35 0 rfl ?_
        refine V_callVi (ci := 8) (C := RX8) (T := TX8) (N := 3) (pc := 37) dX10_copy_37 (c_X8_isMissing Z _ _ (by exact hs9)) kX10_134 (x_sh Z _ (by exact hs9)) rfl rfl rfl (Nat.le_of_ble_eq_true rfl) (by decide) (by decide) (Nat.le_of_ble_eq_true rfl) (Nat.le_of_ble_eq_true rfl) ?_
        refine V_bif_eq (pc := 40) (tgt := 46) dX10_copy_40 (by decide) (fun h40 => ?_) (fun h40 => ?_)
        · skip
          refine V_aload (pc := 46) dX10_copy_46 1 rfl ?_
          refine Xg_X10_262 (pc := 48) (v := (S.1 (10 + (a_).toNatClampNeg))) (by exact hs2) rfl dX10_copy_48 ?_
          refine V_aload (pc := 51) dX10_copy_51 0 rfl ?_
          refine Xg_X10_262 (pc := 53) (v := (S.1 (10 + (b_).toNatClampNeg))) (by exact hs9) rfl dX10_copy_53 ?_
          refine V_icmp_eq (pc := 56) (tgt := 62) dX10_copy_56 (by decide) (fun h56 => ?_) (fun h56 => ?_)
          · skip
            refine V_aload (pc := 62) dX10_copy_62 1 rfl ?_
            refine V_iload_n (pc := 64) dX10_copy_64 4 rfl rfl ?_
            refine V_i2l (pc := 65) dX10_copy_65 rfl ?_
            refine V_iload (pc := 66) dX10_copy_66 7 rfl ?_
            refine V_i2l (pc := 68) dX10_copy_68 rfl ?_
            refine V_callVi (ci := 8) (C := RX8) (T := TX8) (N := 3) (pc := 69) dX10_copy_69 (c_X8_has Z _ _ _ _ (by exact hs2)) kX10_267 (x_sh Z _ (by exact hs2)) rfl rfl rfl (Nat.le_of_ble_eq_true rfl) (by decide) (by decide) (Nat.le_of_ble_eq_true rfl) (Nat.le_of_ble_eq_true rfl) ?_
            refine V_bif_eq (pc := 72) (tgt := 89) dX10_copy_72 (by decide) (fun h72 => ?_) (fun h72 => ?_)
            · skip
              refine V_bipush (v := (-12)) (pc := 89) dX10_copy_89 (by decide) ?_
              exact V_iret (pc := 91) dX10_copy_91 (Nat.le_of_ble_eq_true rfl) (Nat.le_of_ble_eq_true rfl) (hB _ _ ⟨congrArg (fun z => some (Value.int z)) (by rw [if_pos ⟨hi2, hi9⟩, if_pos ⟨h32, h40⟩, if_pos h56, if_neg (fun h => h72 h.1)]), by exact (if_neg (fun h => h72 h.2.2.2.1)).symm⟩)
            · skip
              refine V_aload (pc := 75) dX10_copy_75 0 rfl ?_
              refine V_iload (pc := 77) dX10_copy_77 6 rfl ?_
              refine V_i2l (pc := 79) dX10_copy_79 rfl ?_
              refine V_iload (pc := 80) dX10_copy_80 7 rfl ?_
              refine V_i2l (pc := 82) dX10_copy_82 rfl ?_
              refine V_callVi (ci := 8) (C := RX8) (T := TX8) (N := 3) (pc := 83) dX10_copy_83 (c_X8_has Z _ _ _ _ (by exact hs9)) kX10_267 (x_sh Z _ (by exact hs9)) rfl rfl rfl (Nat.le_of_ble_eq_true rfl) (by decide) (by decide) (Nat.le_of_ble_eq_true rfl) (Nat.le_of_ble_eq_true rfl) ?_
              refine V_bif_ne (pc := 86) (tgt := 92) dX10_copy_86 (by decide) (fun h86 => ?_) (fun h86 => ?_)
              · skip
                have w1 := hasW h72.1 h72.2.1 h72.2.2.1 h72.2.2.2
                have w2 := hasW h86.1 h86.2.1 h86.2.2.1 h86.2.2.2
                refine V_aload (pc := 92) dX10_copy_92 1 rfl ?_
                refine Xg_X10_271 (pc := 94) (by exact hs2) dX10_copy_94 ?_
                refine V_iload_n (pc := 97) dX10_copy_97 4 rfl rfl ?_
                refine V_aload (pc := 98) dX10_copy_98 0 rfl ?_
                refine Xg_X10_271 (pc := 100) (by exact hs9) dX10_copy_100 ?_
                refine V_iload (pc := 103) dX10_copy_103 6 rfl ?_
                refine V_iload (pc := 105) dX10_copy_105 7 rfl ?_
                refine Xcpy (pc := 107) (by exact hs2) (by exact hs9) dX10_copy_107 (by exact w1.1) (by exact w2.1) (by exact w1.2.1) (by exact w1.2.2) (by exact w2.2.2) (by decide) (Nat.le_of_ble_eq_true rfl) ?_
                refine V_iload (pc := 110) dX10_copy_110 7 rfl ?_
                exact V_iret (pc := 112) dX10_copy_112 (Nat.le_of_ble_eq_true rfl) (Nat.le_of_ble_eq_true rfl) (hB _ _ ⟨congrArg (fun z => some (Value.int z)) (by rw [if_pos ⟨hi2, hi9⟩, if_pos ⟨h32, h40⟩, if_pos h56, if_pos ⟨h72, h86⟩]), by exact (if_pos ⟨⟨hi2, hi9⟩, ⟨h32, h40⟩, h56, h72, h86⟩).symm⟩)
              · skip
                refine V_bipush (v := (-12)) (pc := 89) dX10_copy_89 (by decide) ?_
                exact V_iret (pc := 91) dX10_copy_91 (Nat.le_of_ble_eq_true rfl) (Nat.le_of_ble_eq_true rfl) (hB _ _ ⟨congrArg (fun z => some (Value.int z)) (by rw [if_pos ⟨hi2, hi9⟩, if_pos ⟨h32, h40⟩, if_pos h56, if_neg (fun h => h86 h.2)]), by exact (if_neg (fun h => h86 h.2.2.2.2)).symm⟩)
          · skip
            refine V_bipush (v := (-13)) (pc := 59) dX10_copy_59 (by decide) ?_
            exact V_iret (pc := 61) dX10_copy_61 (Nat.le_of_ble_eq_true rfl) (Nat.le_of_ble_eq_true rfl) (hB _ _ ⟨congrArg (fun z => some (Value.int z)) (by rw [if_pos ⟨hi2, hi9⟩, if_pos ⟨h32, h40⟩, if_neg h56]), by exact (if_neg (fun h => h56 h.2.2.1)).symm⟩)
        · skip
          refine V_bipush (v := (-11)) (pc := 43) dX10_copy_43 (by decide) ?_
          exact V_iret (pc := 45) dX10_copy_45 (Nat.le_of_ble_eq_true rfl) (Nat.le_of_ble_eq_true rfl) (hB _ _ ⟨congrArg (fun z => some (Value.int z)) (by rw [if_pos ⟨hi2, hi9⟩, if_neg (fun h => h.2 h40)]), by exact (if_neg (fun h => h.2.1.2 h40)).symm⟩)
    · skip
      refine V_astoreN (L2 := [(6, .ref (Z.2.2.2 (10 + (a_).toNatClampNeg))), (0, .ref (Z.2.2.2 99)), (1, .int a_), (2, .int i_), (3, .int b_), (4, .int j_), (5, .int n_)]) (pc := 12) dX10_copy_12  (by decide) rfl ?_
      refine V_aload (pc := 14) dX10_copy_14 1 rfl ?_
      refine V_ifnull (pc := 16) dX10_copy_16 ?_
      refine V_aloadN (pc := 19) dX10_copy_19 0 rfl ?_
      refine V_ifnonnullN (pc := 21) dX10_copy_21 ?_
      refine V_bipush (v := (-2)) (pc := 24) dX10_copy_24 (by decide) ?_
      exact V_iret (pc := 26) dX10_copy_26 (Nat.le_of_ble_eq_true rfl) (Nat.le_of_ble_eq_true rfl) (hB _ _ ⟨congrArg (fun z => some (Value.int z)) (by first | exact (if_neg (fun h => hno2 h.1)).symm | exact (if_neg (fun h => hno9 h.2)).symm), by first | exact (if_neg (fun h => hno2 h.1.1)).symm | exact (if_neg (fun h => hno9 h.1.2)).symm⟩)
  · skip
    refine V_astoreN (L2 := [(0, .ref (Z.2.2.2 99)), (1, .int a_), (2, .int i_), (3, .int b_), (4, .int j_), (5, .int n_)]) (pc := 5) dX10_copy_5  (by decide) rfl ?_
    refine V_aload_n (pc := 7) dX10_copy_7 1 rfl rfl ?_
    refine V_iload_n (pc := 8) dX10_copy_8 4 rfl rfl ?_
    refine V_callV (q0 := 0) (ci := 10) (C := RX10) (T := TX10) (N := 9) (pc := 9) dX10_copy_9 (c_X10_sheetAt Z _ _) kX10_118 rfl rfl rfl rfl (Nat.le_of_ble_eq_true rfl) (by decide) (by decide) (Nat.le_of_ble_eq_true rfl) (Nat.le_of_ble_eq_true rfl) (fun v9 S9 hp9 => ?_)
    refine V_widen (n' := 0) (k' := 0) (Nat.le_refl _) (Nat.le_refl _) ?_
    obtain ⟨rfl, ⟨hv9, hs9, hi9, rfl⟩ | ⟨hno9, rfl⟩⟩ := hp9
    · skip
      refine V_astore (pc := 12) (L2 := [(6, .null), (0, .ref (Z.2.2.2 99)), (1, .int a_), (2, .int i_), (3, .int b_), (4, .int j_), (5, .int n_)]) dX10_copy_12 (by decide) rfl (fun x7_12 ex7_12 => ?_)
      subst ex7_12
      refine V_aloadN (pc := 14) dX10_copy_14 1 rfl ?_
      refine V_ifnullN (pc := 16) (tgt := 24) dX10_copy_16 (by decide) ?_
      refine V_bipush (v := (-2)) (pc := 24) dX10_copy_24 (by decide) ?_
      exact V_iret (pc := 26) dX10_copy_26 (Nat.le_of_ble_eq_true rfl) (Nat.le_of_ble_eq_true rfl) (hB _ _ ⟨congrArg (fun z => some (Value.int z)) (by first | exact (if_neg (fun h => hno2 h.1)).symm | exact (if_neg (fun h => hno9 h.2)).symm), by first | exact (if_neg (fun h => hno2 h.1.1)).symm | exact (if_neg (fun h => hno9 h.1.2)).symm⟩)
    · skip
      refine V_astoreN (L2 := [(6, .null), (0, .ref (Z.2.2.2 99)), (1, .int a_), (2, .int i_), (3, .int b_), (4, .int j_), (5, .int n_)]) (pc := 12) dX10_copy_12  (by decide) rfl ?_
      refine V_aloadN (pc := 14) dX10_copy_14 1 rfl ?_
      refine V_ifnullN (pc := 16) (tgt := 24) dX10_copy_16 (by decide) ?_
      refine V_bipush (v := (-2)) (pc := 24) dX10_copy_24 (by decide) ?_
      exact V_iret (pc := 26) dX10_copy_26 (Nat.le_of_ble_eq_true rfl) (Nat.le_of_ble_eq_true rfl) (hB _ _ ⟨congrArg (fun z => some (Value.int z)) (by first | exact (if_neg (fun h => hno2 h.1)).symm | exact (if_neg (fun h => hno9 h.2)).symm), by first | exact (if_neg (fun h => hno2 h.1.1)).symm | exact (if_neg (fun h => hno9 h.1.2)).symm⟩)
