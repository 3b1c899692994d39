theorem absN {x : Int64} (h : x.toInt.natAbs < 2 ^ 62) : (if 0 < x then x else -x) = lN x.toInt.natAbs := by
  apply Int64.toInt_inj.mp
  rw [pk_lT (by omega)]
  have e0 : (0 : Int64).toInt = 0 := rfl
  split
  · rename_i h0
    have h1 := Int64.lt_iff_toInt_lt.mp h0
    omega
  · rename_i h0
    have h1 := mt Int64.lt_iff_toInt_lt.mpr h0
    rw [Int64.toInt_neg, Int.bmod_eq_of_le (by omega) (by omega)]
    omega
theorem xLw_lw (S : XS) (a c : Int32) (b d : Int64) : xLw (xLw S a b) c d = xLw S c d := by
  show (va_up (va_up S.1 40 a) 40 c, va_up (va_up S.2.1 6 b) 6 d, S.2.2) = (va_up S.1 40 c, va_up S.2.1 6 d, S.2.2)
  rw [bx_uu, bx_uu]
theorem xLw_self (S : XS) : S = xLw S (S.1 40) (S.2.1 6) := by
  show S = (va_up S.1 40 (S.1 40), va_up S.2.1 6 (S.2.1 6), S.2.2)
  rw [va_upS, va_upS]
theorem lw_ne (S : XS) (a : Int32) (b : Int64) {k : Nat} (h : k ≠ 40) : (xLw S a b).1 k = S.1 k := va_up_ne _ _ h
def chN (b : Int64) (z : Int32) (l n : Nat) (k : Int32) (j : Nat) : Nat := it (fun i c => if k < (lfX (slX b (z + nI i) l n) l).2.2.2.2 then c else c + 1) j 0
theorem chN_le (b : Int64) (z : Int32) (l n : Nat) (k : Int32) (j : Nat) : chN b z l n k j ≤ j := by
  induction j with
  | zero => exact Nat.le_refl _
  | succ j ih =>
    show (if k < (lfX (slX b (z + nI j) l n) l).2.2.2.2 then chN b z l n k j else chN b z l n k j + 1) ≤ j + 1
    split <;> omega
def awX (c t s : Int32) (j : Nat) : Int64 := it (fun i (b : Int64) => if t >>> (nI i &&& 31) &&& 1 = 1 then b + (s &&& (1 <<< (nI i &&& 31) - 1)).toInt64 <<< ((c - nI i).toInt64 &&& 63) else b) j (-s).toInt64
/-- a part of a fraction in its lowest terms -/
def ltX (a : Int64) (b : Nat) (w : Int32) : Int64 := (if w = 0 then a else lN b) / lN (Nat.gcd a.toInt.natAbs b)
set_option maxHeartbeats 4000000 in
set_option maxRecDepth 100000 in
theorem c_X10_binaryDigits (Z : VZ) (S : XS) (v_ : Int64) : CtF XW Z yX10_binaryDigits cX10_binaryDigits 2 (some .int) 2 0 0 [.long v_] (S) (some (.int (64 - nlzL v_))) (S) := by
  refine V_entry (own := RX10) (by decide) rfl (Nat.le_of_ble_eq_true rfl) ?_
  intro B hB
  refine V_sub (L' := [(0, .long v_)]) [0] rfl ?_
  refine V_bipush (v := 64) (pc := 0) dX10_binaryDigits_0 (by decide) ?_
  refine V_lload_n (pc := 2) dX10_binaryDigits_2 0 rfl rfl ?_
  refine V_callSi (pc := 3) dX10_binaryDigits_3 (c_J13_numberOfLeadingZeros_95d88 Z _ _) kX10_327 rfl (Nat.le_of_ble_eq_true rfl) (by decide) (by decide) (Nat.le_of_ble_eq_true rfl) (Nat.le_of_ble_eq_true rfl) ?_
  refine V_isub (pc := 6) dX10_binaryDigits_6 ?_
  exact V_iret (pc := 7) dX10_binaryDigits_7 (Nat.le_of_ble_eq_true rfl) (Nat.le_of_ble_eq_true rfl) (hB _ _ ⟨congrArg (fun z => some (Value.int z)) (by first | rfl | assumption | (simp_all; done)), by rfl⟩)
set_option maxHeartbeats 4000000 in
set_option maxRecDepth 100000 in
theorem c_X10_commonDivisor (Z : VZ) (S : XS) (a_ b_ : Nat) (ha : a_ < 2 ^ 62) (hb : b_ < 1000000) : CtF XW Z yX10_commonDivisor cX10_commonDivisor 11 (some .long) 0 0 0 [.long (lN a_), .long (lN b_)] (S) (some (.long (lN (Nat.gcd a_ b_)))) (S) := by
  refine V_entry (own := RX10) (by decide) rfl (Nat.le_of_ble_eq_true rfl) ?_
  intro B hB
  refine V_sub (L' := [(0, .long (lN a_)), (2, .long (lN b_))]) [0, 1] rfl ?_
  refine V_lload_n (pc := 0) dX10_commonDivisor_0 0 rfl rfl ?_
  refine V_lstore (pc := 1) (L2 := [(0, .long (lN a_)), (2, .long (lN b_))]) dX10_commonDivisor_1 (by decide) rfl (fun x4_1 ex4_1 => ?_)
  subst ex4_1
  refine V_lload_n (pc := 3) dX10_commonDivisor_3 2 rfl rfl ?_
  refine V_lstore (pc := 4) (L2 := [(4, .long (lN a_)), (0, .long (lN a_)), (2, .long (lN b_))]) dX10_commonDivisor_4 (by decide) rfl (fun x6_4 ex6_4 => ?_)
  subst ex6_4
  refine V_iconst (v := 0) (pc := 6) dX10_commonDivisor_6 (by decide) ?_
  refine V_istore (pc := 7) (L2 := [(6, .long (lN b_)), (4, .long (lN a_)), (0, .long (lN a_)), (2, .long (lN b_))]) dX10_commonDivisor_7 (by decide) rfl (fun x8_7 ex8_7 => ?_)
  subst ex8_7
  refine V_sub (L' := [(8, .int (nI 0)), (6, .long (lN b_)), (4, .long (lN a_)), (0, .long (lN a_)), (2, .long (lN b_))]) [0, 1, 2, 3, 4] rfl ?_
  refine Vloop (σ := Nat × Nat × Nat × Int64 × Int64) (fun x => (x.2.2.2.2) = lN (x.1) ∧ (x.2.2.2.1) = lN (x.2.1) ∧ (x.1) < 2 ^ 62 ∧ (x.2.2.1) + (x.2.1) ≤ b_ ∧ Nat.gcd (x.1) (x.2.1) = Nat.gcd a_ b_) (fun x => (x.2.1)) (fun x => V XW Z cX10_commonDivisor RX10 11 (some .long) 0 0 0 B 0 0 9 [(8, .int (nI (x.2.2.1))), (6, .long (x.2.2.2.1)), (4, .long (x.2.2.2.2)), (0, .long (lN a_)), (2, .long (lN b_))] [] (S)) ?_ (a_, b_, 0, (lN b_), (lN a_)) (by exact ⟨rfl, rfl, ha, Nat.le_of_eq (Nat.zero_add _), rfl⟩)
  rintro ⟨g_, s_, j, v_, u⟩ hI9 ih9
  have hI9 : u = lN g_ ∧ v_ = lN s_ ∧ g_ < 2 ^ 62 ∧ j + s_ ≤ b_ ∧ Nat.gcd g_ s_ = Nat.gcd a_ b_ := hI9
  show V XW Z cX10_commonDivisor RX10 11 (some .long) 0 0 0 B 0 0 9 [(8, .int (nI j)), (6, .long v_), (4, .long u), (0, .long (lN a_)), (2, .long (lN b_))] [] (S)
  refine V_iload (pc := 9) dX10_commonDivisor_9 0 rfl ?_
  refine V_ldc (pc := 11) dX10_commonDivisor_11 tw_471 ?_
  refine V_icmp_ge (pc := 13) (tgt := 44) dX10_commonDivisor_13 (by decide) (fun h13 => ?_) (fun h13 => ?_)
  · skip
    exact absurd h13 (Int32.not_le.mpr (nI_lt (b := 1000000) (by omega) (by decide)))
  · skip
    refine V_lload (pc := 16) dX10_commonDivisor_16 1 rfl ?_
    refine V_lconst (v := 0) (pc := 18) dX10_commonDivisor_18 (by decide) ?_
    refine V_lcmp (pc := 19) dX10_commonDivisor_19 ?_
    refine V_if_eq (pc := 20) (tgt := 44) dX10_commonDivisor_20 (by decide) (fun h20 => ?_) (fun h20 => ?_)
    · skip
      have hs : s_ = 0 := by
        have z := (lg_cmp_eq _ _).mp h20
        rw [hI9.2.1] at z
        exact (pk_lEQ (b := 0) (by omega) (by decide)).mp z
      refine V_lload (pc := 44) dX10_commonDivisor_44 2 rfl ?_
      exact V_lret (pc := 46) dX10_commonDivisor_46 (Nat.le_of_ble_eq_true rfl) (Nat.le_of_ble_eq_true rfl) (hB _ _ ⟨congrArg (fun z => some (Value.long z)) (by rw [hI9.1, ← hI9.2.2.2.2, hs, Nat.gcd_zero_right]), by rfl⟩)
    · skip
      have hs : 0 < s_ := by
        rcases Nat.eq_zero_or_pos s_ with z | z
        · exact absurd ((lg_cmp_eq _ _).mpr (by rw [hI9.2.1, z]; rfl)) h20
        · exact z
      have hv : ¬ v_ = 0 := fun z => h20 ((lg_cmp_eq _ _).mpr z)
      refine V_lload (pc := 23) dX10_commonDivisor_23 2 rfl ?_
      refine V_lload (pc := 25) dX10_commonDivisor_25 1 rfl ?_
      refine V_lrem (pc := 27) dX10_commonDivisor_27 (by exact hv) ?_
      refine V_lstore (pc := 28) (L2 := [(8, .int (nI j)), (6, .long v_), (4, .long u), (0, .long (lN a_)), (2, .long (lN b_))]) dX10_commonDivisor_28 (by decide) rfl (fun x9_28 ex9_28 => ?_)
      subst ex9_28
      refine V_lload (pc := 30) dX10_commonDivisor_30 2 rfl ?_
      refine V_lstore (pc := 32) (L2 := [(9, .long (u - u / v_ * v_)), (8, .int (nI j)), (6, .long v_), (0, .long (lN a_)), (2, .long (lN b_))]) dX10_commonDivisor_32 (by decide) rfl (fun x4_32 ex4_32 => ?_)
      subst ex4_32
      refine V_lload (pc := 34) dX10_commonDivisor_34 1 rfl ?_
      refine V_lstore (pc := 36) (L2 := [(4, .long v_), (9, .long (u - u / v_ * v_)), (8, .int (nI j)), (0, .long (lN a_)), (2, .long (lN b_))]) dX10_commonDivisor_36 (by decide) rfl (fun x6_36 ex6_36 => ?_)
      subst ex6_36
      refine V_iinc (pc := 38) (v := 1) (L2 := [(6, .long (u - u / v_ * v_)), (4, .long v_), (9, .long (u - u / v_ * v_)), (0, .long (lN a_)), (2, .long (lN b_))]) dX10_commonDivisor_38 3 rfl (by decide) (by decide) rfl (fun x8_38 ex8_38 => ?_)
      rw [nI_1] at ex8_38
      subst ex8_38
      refine V_goto (pc := 41) (tgt := 9) dX10_commonDivisor_41 (by decide) ?_
      refine V_sub (L' := [(8, .int (nI (j + 1))), (6, .long (u - u / v_ * v_)), (4, .long v_), (0, .long (lN a_)), (2, .long (lN b_))]) [0, 1, 2, 4, 5] rfl ?_
      refine ih9 (s_, (g_ % s_), ((j + 1)), _, _) ?_ ?_
      · obtain ⟨k1, k2, k3, k4, k5⟩ := hI9
        have hm := Nat.mod_lt g_ hs
        refine ⟨k2, ?_, ?_, ?_, ?_⟩
        · show u - u / v_ * v_ = lN (g_ % s_)
          rw [k1, k2, pk_lRem (by omega) hs (by omega)]
        · show s_ < 2 ^ 62
          omega
        · show j + 1 + g_ % s_ ≤ b_
          omega
        · show Nat.gcd s_ (g_ % s_) = _
          rw [← k5, Nat.gcd_comm g_ s_, Nat.gcd_rec s_ g_, Nat.gcd_comm]
      · show g_ % s_ < s_
        exact Nat.mod_lt _ hs
set_option maxHeartbeats 4000000 in
set_option maxRecDepth 100000 in
theorem c_X10_inLowestTerms (Z : VZ) (S : XS) (b_ : Nat) (a_ : Int64) (w_ : Int32) (ha : a_.toInt.natAbs < 2 ^ 62) (hb : 0 < b_ ∧ b_ < 1000000) : CtF XW Z yX10_inLowestTerms cX10_inLowestTerms 9 (some .long) 1 0 0 [.long a_, .long (lN b_), .int w_] (S) (some (.long (ltX a_ b_ w_))) (S) := by
  refine V_entry (own := RX10) (by decide) rfl (Nat.le_of_ble_eq_true rfl) ?_
  intro B hB
  refine V_sub (L' := [(0, .long a_), (2, .long (lN b_)), (4, .int w_)]) [0, 1, 2] rfl ?_
  refine V_lload_n (pc := 0) dX10_inLowestTerms_0 0 rfl rfl ?_
  refine V_mabsl (pc := 1) dX10_inLowestTerms_1 tw_541 tw_504 tw_14 tw_505 (by decide) (Nat.le_of_ble_eq_true rfl) (Nat.le_refl _) (Nat.le_refl _) ?_
  refine V_eql (lN a_.toInt.natAbs) (absN ha) ?_
  refine V_lload_n (pc := 4) dX10_inLowestTerms_4 1 rfl rfl ?_
  refine V_callSl (pc := 5) dX10_inLowestTerms_5 (c_X10_commonDivisor Z _ _ _ (by exact ha) (by exact hb.2)) kX10_336 rfl (Nat.le_of_ble_eq_true rfl) (by decide) (by decide) (Nat.le_of_ble_eq_true rfl) (Nat.le_of_ble_eq_true rfl) ?_
  have hg : 0 < Nat.gcd a_.toInt.natAbs b_ := Nat.gcd_pos_of_pos_right _ hb.1
  have hg2 : Nat.gcd a_.toInt.natAbs b_ ≤ b_ := Nat.gcd_le_right _ hb.1
  refine V_lstore (pc := 8) (L2 := [(0, .long a_), (2, .long (lN b_)), (4, .int w_)]) dX10_inLowestTerms_8 (by decide) rfl (fun x5_8 ex5_8 => ?_)
  subst ex5_8
  refine V_iload (pc := 10) dX10_inLowestTerms_10 3 rfl ?_
  refine V_if_ne (pc := 12) (tgt := 19) dX10_inLowestTerms_12 (by decide) (fun h12 => ?_) (fun h12 => ?_)
  · skip
    refine V_lload_n (pc := 19) dX10_inLowestTerms_19 2 rfl rfl ?_
    refine V_lstore (pc := 20) (L2 := [(5, .long (lN (Nat.gcd a_.toInt.natAbs b_))), (0, .long a_), (2, .long (lN b_)), (4, .int w_)]) dX10_inLowestTerms_20 (by decide) rfl (fun x7_20 ex7_20 => ?_)
    subst ex7_20
    refine V_lload (pc := 22) dX10_inLowestTerms_22 1 rfl ?_
    refine V_lconst (v := 0) (pc := 24) dX10_inLowestTerms_24 (by decide) ?_
    refine V_lcmp (pc := 25) dX10_inLowestTerms_25 ?_
    refine V_if_le (pc := 26) (tgt := 37) dX10_inLowestTerms_26 (by decide) (fun h26 => ?_) (fun h26 => ?_)
    · skip
      exact absurd ((pk_lLE (a := Nat.gcd a_.toInt.natAbs b_) (b := 0) (by omega) (by decide)).mp ((lg_cmp_le _ _).mp h26)) (by omega)
    · skip
      refine V_lload (pc := 29) dX10_inLowestTerms_29 0 rfl ?_
      refine V_lload (pc := 31) dX10_inLowestTerms_31 1 rfl ?_
      refine V_ldiv (pc := 33) dX10_inLowestTerms_33 (by intro z; have z2 := (pk_lEQ (a := Nat.gcd a_.toInt.natAbs b_) (b := 0) (by omega) (by decide)).mp z; omega) ?_
      refine V_goto (pc := 34) (tgt := 39) dX10_inLowestTerms_34 (by decide) ?_
      exact V_lret (pc := 39) dX10_inLowestTerms_39 (Nat.le_of_ble_eq_true rfl) (Nat.le_of_ble_eq_true rfl) (hB _ _ ⟨congrArg (fun z => some (Value.long z)) (by unfold ltX; first | (rw [if_pos h12]; done) | (rw [if_neg h12]; done)), by rfl⟩)
  · skip
    refine V_lload_n (pc := 15) dX10_inLowestTerms_15 1 rfl rfl ?_
    refine V_goto (pc := 16) (tgt := 20) dX10_inLowestTerms_16 (by decide) ?_
    refine V_lstore (pc := 20) (L2 := [(5, .long (lN (Nat.gcd a_.toInt.natAbs b_))), (0, .long a_), (2, .long (lN b_)), (4, .int w_)]) dX10_inLowestTerms_20 (by decide) rfl (fun x7_20 ex7_20 => ?_)
    subst ex7_20
    refine V_lload (pc := 22) dX10_inLowestTerms_22 1 rfl ?_
    refine V_lconst (v := 0) (pc := 24) dX10_inLowestTerms_24 (by decide) ?_
    refine V_lcmp (pc := 25) dX10_inLowestTerms_25 ?_
    refine V_if_le (pc := 26) (tgt := 37) dX10_inLowestTerms_26 (by decide) (fun h26 => ?_) (fun h26 => ?_)
    · skip
      exact absurd ((pk_lLE (a := Nat.gcd a_.toInt.natAbs b_) (b := 0) (by omega) (by decide)).mp ((lg_cmp_le _ _).mp h26)) (by omega)
    · skip
      refine V_lload (pc := 29) dX10_inLowestTerms_29 0 rfl ?_
      refine V_lload (pc := 31) dX10_inLowestTerms_31 1 rfl ?_
      refine V_ldiv (pc := 33) dX10_inLowestTerms_33 (by intro z; have z2 := (pk_lEQ (a := Nat.gcd a_.toInt.natAbs b_) (b := 0) (by omega) (by decide)).mp z; omega) ?_
      refine V_goto (pc := 34) (tgt := 39) dX10_inLowestTerms_34 (by decide) ?_
      exact V_lret (pc := 39) dX10_inLowestTerms_39 (Nat.le_of_ble_eq_true rfl) (Nat.le_of_ble_eq_true rfl) (hB _ _ ⟨congrArg (fun z => some (Value.long z)) (by unfold ltX; first | (rw [if_pos h12]; done) | (rw [if_neg h12]; done)), by rfl⟩)
set_option maxHeartbeats 4000000 in
set_option maxRecDepth 100000 in
theorem c_X10_aboveWithoutCarry (Z : VZ) (S : XS) (c_ : Int32) (t_ : Int32) (s_ : Int32) : CtF XW Z yX10_aboveWithoutCarry cX10_aboveWithoutCarry 6 (some .long) 1 0 0 [.int c_, .int t_, .int s_] (S) (some (.long (awX c_ t_ s_ c_.toNatClampNeg))) (S) := by
  refine V_entry (own := RX10) (by decide) rfl (Nat.le_of_ble_eq_true rfl) ?_
  intro B hB
  refine V_sub (L' := [(0, .int c_), (1, .int t_), (2, .int s_)]) [0, 1, 2] rfl ?_
  refine V_iload_n (pc := 0) dX10_aboveWithoutCarry_0 2 rfl rfl ?_
  refine V_ineg (pc := 1) dX10_aboveWithoutCarry_1 ?_
  refine V_i2l (pc := 2) dX10_aboveWithoutCarry_2 rfl ?_
  refine V_lstore_n (pc := 3) (L2 := [(0, .int c_), (1, .int t_), (2, .int s_)]) dX10_aboveWithoutCarry_3 rfl (by decide) rfl (fun x3_3 ex3_3 => ?_)
  subst ex3_3
  refine V_iconst (v := 0) (pc := 4) dX10_aboveWithoutCarry_4 (by decide) ?_
  refine V_istore (pc := 5) (L2 := [(3, .long (Int32.toInt64 (-s_))), (0, .int c_), (1, .int t_), (2, .int s_)]) dX10_aboveWithoutCarry_5 (by decide) rfl (fun x5_5 ex5_5 => ?_)
  subst ex5_5
  refine V_sub (L' := [(5, .int (nI 0)), (3, .long (Int32.toInt64 (-s_))), (0, .int c_), (1, .int t_), (2, .int s_)]) [0, 1, 2, 3, 4] rfl ?_
  refine Vloop (σ := Nat × Int64) (fun x => (x.1) ≤ c_.toNatClampNeg ∧ (x.2) = awX c_ t_ s_ (x.1)) (fun x => c_.toNatClampNeg - (x.1)) (fun x => V XW Z cX10_aboveWithoutCarry RX10 6 (some .long) 1 0 0 B 0 0 7 [(5, .int (nI (x.1))), (3, .long (x.2)), (0, .int c_), (1, .int t_), (2, .int s_)] [] (S)) ?_ (0, (Int32.toInt64 (-s_))) (by exact ⟨Nat.zero_le _, rfl⟩)
  rintro ⟨j, u⟩ hI7 ih7
  have hI7 : j ≤ c_.toNatClampNeg ∧ u = awX c_ t_ s_ j := hI7
  show V XW Z cX10_aboveWithoutCarry RX10 6 (some .long) 1 0 0 B 0 0 7 [(5, .int (nI j)), (3, .long u), (0, .int c_), (1, .int t_), (2, .int s_)] [] (S)
  refine V_iload (pc := 7) dX10_aboveWithoutCarry_7 0 rfl ?_
  refine V_iload_n (pc := 9) dX10_aboveWithoutCarry_9 2 rfl rfl ?_
  refine V_icmp_ge (pc := 10) (tgt := 45) dX10_aboveWithoutCarry_10 (by decide) (fun h10 => ?_) (fun h10 => ?_)
  · skip
    have hj : c_.toNatClampNeg ≤ j := jge h10 (Nat.lt_of_le_of_lt hI7.1 (clampLt _))
    have ej : j = c_.toNatClampNeg := Nat.le_antisymm hI7.1 hj
    refine V_lload_n (pc := 45) dX10_aboveWithoutCarry_45 1 rfl rfl ?_
    exact V_lret (pc := 46) dX10_aboveWithoutCarry_46 (Nat.le_of_ble_eq_true rfl) (Nat.le_of_ble_eq_true rfl) (hB _ _ ⟨congrArg (fun z => some (Value.long z)) (by rw [hI7.2, ej]), by rfl⟩)
  · skip
    have hj : j < c_.toNatClampNeg := jlt h10 (Nat.lt_of_le_of_lt hI7.1 (clampLt _))
    refine V_iload_n (pc := 13) dX10_aboveWithoutCarry_13 3 rfl rfl ?_
    refine V_iload (pc := 14) dX10_aboveWithoutCarry_14 0 rfl ?_
    refine V_ishr (pc := 16) dX10_aboveWithoutCarry_16 ?_
    refine V_iconst (v := 1) (pc := 17) dX10_aboveWithoutCarry_17 (by decide) ?_
    refine V_iand (pc := 18) dX10_aboveWithoutCarry_18 ?_
    refine V_iconst (v := 1) (pc := 19) dX10_aboveWithoutCarry_19 (by decide) ?_
    refine V_icmp_ne (pc := 20) (tgt := 39) dX10_aboveWithoutCarry_20 (by decide) (fun h20 => ?_) (fun h20 => ?_)
    · skip
      refine V_iinc (pc := 39) (v := 1) (L2 := [(3, .long u), (0, .int c_), (1, .int t_), (2, .int s_)]) dX10_aboveWithoutCarry_39 0 rfl (by decide) (by decide) rfl (fun x5_39 ex5_39 => ?_)
      rw [nI_1] at ex5_39
      subst ex5_39
      refine V_goto (pc := 42) (tgt := 7) dX10_aboveWithoutCarry_42 (by decide) ?_
      refine V_sub (L' := [(5, .int (nI (j + 1))), (3, .long u), (0, .int c_), (1, .int t_), (2, .int s_)]) [0, 1, 2, 3, 4] rfl ?_
      refine ih7 (((j + 1)), _) ?_ ?_
      · show ((j + 1)) ≤ c_.toNatClampNeg ∧ (u) = awX c_ t_ s_ ((j + 1))
        refine ⟨hj, ?_⟩
        rw [hI7.2]
        simp only [awX, it]
        first | exact (if_pos h20).symm | exact (if_neg h20).symm
      · show c_.toNatClampNeg - (j + 1) < c_.toNatClampNeg - j
        omega
    · skip
      refine V_lload_n (pc := 23) dX10_aboveWithoutCarry_23 1 rfl rfl ?_
      refine V_iload_n (pc := 24) dX10_aboveWithoutCarry_24 4 rfl rfl ?_
      refine V_iload (pc := 25) dX10_aboveWithoutCarry_25 0 rfl ?_
      refine V_callSi (pc := 27) dX10_aboveWithoutCarry_27 (c_X10_allCells Z _ _) kX10_64 rfl (Nat.le_of_ble_eq_true rfl) (by decide) (by decide) (Nat.le_of_ble_eq_true rfl) (Nat.le_of_ble_eq_true rfl) ?_
      refine V_iand (pc := 30) dX10_aboveWithoutCarry_30 ?_
      refine V_i2l (pc := 31) dX10_aboveWithoutCarry_31 rfl ?_
      refine V_iload_n (pc := 32) dX10_aboveWithoutCarry_32 2 rfl rfl ?_
      refine V_iload (pc := 33) dX10_aboveWithoutCarry_33 0 rfl ?_
      refine V_isub (pc := 35) dX10_aboveWithoutCarry_35 ?_
      refine V_lshl (pc := 36) dX10_aboveWithoutCarry_36 rfl ?_
      refine V_ladd (pc := 37) dX10_aboveWithoutCarry_37 ?_
      refine V_lstore_n (pc := 38) (L2 := [(5, .int (nI j)), (0, .int c_), (1, .int t_), (2, .int s_)]) dX10_aboveWithoutCarry_38 rfl (by decide) rfl (fun x3_38 ex3_38 => ?_)
      subst ex3_38
      refine V_iinc (pc := 39) (v := 1) (L2 := [(3, .long (u + ((Int32.toInt64 (s_ &&& (1 <<< (nI j &&& 31) - 1))) <<< (Int32.toInt64 (c_ - (nI j)) &&& 63)))), (0, .int c_), (1, .int t_), (2, .int s_)]) dX10_aboveWithoutCarry_39 1 rfl (by decide) (by decide) rfl (fun x5_39 ex5_39 => ?_)
      rw [nI_1] at ex5_39
      subst ex5_39
      refine V_goto (pc := 42) (tgt := 7) dX10_aboveWithoutCarry_42 (by decide) ?_
      refine V_sub (L' := [(5, .int (nI (j + 1))), (3, .long (u + ((Int32.toInt64 (s_ &&& (1 <<< (nI j &&& 31) - 1))) <<< (Int32.toInt64 (c_ - (nI j)) &&& 63)))), (0, .int c_), (1, .int t_), (2, .int s_)]) [0, 1, 2, 3, 4] rfl ?_
      refine ih7 (((j + 1)), _) ?_ ?_
      · show ((j + 1)) ≤ c_.toNatClampNeg ∧ ((u + ((Int32.toInt64 (s_ &&& (1 <<< (nI j &&& 31) - 1))) <<< (Int32.toInt64 (c_ - (nI j)) &&& 63)))) = awX c_ t_ s_ ((j + 1))
        refine ⟨hj, ?_⟩
        rw [hI7.2]
        simp only [awX, it]
        first | exact (if_pos h20).symm | exact (if_neg h20).symm
      · show c_.toNatClampNeg - (j + 1) < c_.toNatClampNeg - j
        omega
set_option maxHeartbeats 4000000 in
set_option maxRecDepth 100000 in
theorem c_X10_lawAnswer (Z : VZ) (S : XS) (b_ : Int64) (n_ : Int32) (w_ : Int32) : CtF XW Z yX10_lawAnswer cX10_lawAnswer 5 (some .long) 2 0 0 [.ref (Z.2.2.2 99), .long b_, .int n_, .int w_] (S) (some (.long (laX b_ n_ w_))) (xLw S (lfX b_ n_.toNatClampNeg).2.2.2.2 (us64 (lfX b_ n_.toNatClampNeg).1 1)) := by
  refine V_entry (own := RX10) (by decide) rfl (Nat.le_of_ble_eq_true rfl) ?_
  intro B hB
  refine V_sub (L' := [(0, .ref (Z.2.2.2 99)), (1, .long b_), (3, .int n_), (4, .int w_)]) [0, 1, 2, 3] rfl ?_
  refine V_aload_n (pc := 0) dX10_lawAnswer_0 0 rfl rfl ?_
  refine Xg_X10_51 (pc := 1) dX10_lawAnswer_1 ?_
  refine V_lload_n (pc := 4) dX10_lawAnswer_4 1 rfl rfl ?_
  refine V_iload_n (pc := 5) dX10_lawAnswer_5 2 rfl rfl ?_
  refine V_callVv (q0 := 18) (ci := 3) (C := RX3) (T := TX3) (N := 2) (pc := 6) dX10_lawAnswer_6 (c_X3_find Z _ _ _) kX10_202 rfl rfl rfl rfl (Nat.le_of_ble_eq_true rfl) (by decide) (by decide) (Nat.le_of_ble_eq_true rfl) (Nat.le_of_ble_eq_true rfl) ?_
  refine V_iload (pc := 9) dX10_lawAnswer_9 3 rfl ?_
  refine V_if_ne (pc := 11) (tgt := 23) dX10_lawAnswer_11 (by decide) (fun h11 => ?_) (fun h11 => ?_)
  · skip
    refine V_iconst (v := 2) (pc := 23) dX10_lawAnswer_23 (by decide) ?_
    refine V_aload_n (pc := 24) dX10_lawAnswer_24 0 rfl rfl ?_
    refine Xg_X10_51 (pc := 25) dX10_lawAnswer_25 ?_
    refine Xg_X10_203 (pc := 28) (v := (lfX b_ n_.toNatClampNeg).2.2.2.2) rfl dX10_lawAnswer_28 ?_
    refine V_imul (pc := 31) dX10_lawAnswer_31 ?_
    refine V_iload_n (pc := 32) dX10_lawAnswer_32 2 rfl rfl ?_
    refine V_icmp_le (pc := 33) (tgt := 42) dX10_lawAnswer_33 (by decide) (fun h33 => ?_) (fun h33 => ?_)
    · skip
      refine V_aload_n (pc := 42) dX10_lawAnswer_42 0 rfl rfl ?_
      refine Xg_X10_51 (pc := 43) dX10_lawAnswer_43 ?_
      refine Xg_X10_345 (pc := 46) (v := (us64 (lfX b_ n_.toNatClampNeg).1 1)) rfl dX10_lawAnswer_46 ?_
      exact V_lret (pc := 49) dX10_lawAnswer_49 (Nat.le_of_ble_eq_true rfl) (Nat.le_of_ble_eq_true rfl) (hB _ _ ⟨congrArg (fun z => some (Value.long z)) (by unfold laX; first | exact (if_pos h11).symm | (rw [if_neg h11]; first | exact (if_pos h33).symm | exact (if_neg h33).symm)), by rfl⟩)
    · skip
      refine V_ldc2 (pc := 36) dX10_lawAnswer_36 tw_593 ?_
      refine V_goto (pc := 39) (tgt := 49) dX10_lawAnswer_39 (by decide) ?_
      exact V_lret (pc := 49) dX10_lawAnswer_49 (Nat.le_of_ble_eq_true rfl) (Nat.le_of_ble_eq_true rfl) (hB _ _ ⟨congrArg (fun z => some (Value.long z)) (by unfold laX; first | exact (if_pos h11).symm | (rw [if_neg h11]; first | exact (if_pos h33).symm | exact (if_neg h33).symm)), by rfl⟩)
  · skip
    refine V_aload_n (pc := 14) dX10_lawAnswer_14 0 rfl rfl ?_
    refine Xg_X10_51 (pc := 15) dX10_lawAnswer_15 ?_
    refine Xg_X10_203 (pc := 18) (v := (lfX b_ n_.toNatClampNeg).2.2.2.2) rfl dX10_lawAnswer_18 ?_
    refine V_i2l (pc := 21) dX10_lawAnswer_21 rfl ?_
    exact V_lret (pc := 22) dX10_lawAnswer_22 (Nat.le_of_ble_eq_true rfl) (Nat.le_of_ble_eq_true rfl) (hB _ _ ⟨congrArg (fun z => some (Value.long z)) (by unfold laX; first | exact (if_pos h11).symm | (rw [if_neg h11]; first | exact (if_pos h33).symm | exact (if_neg h33).symm)), by rfl⟩)
set_option maxHeartbeats 4000000 in
set_option maxRecDepth 100000 in
theorem c_X10_linear (Z : VZ) (S : XS) (a_ : Int32) (w_ : Int32) (hz : zOK S) : Ct XW Z yX10_linear cX10_linear 4 (some .long) 3 0 0 [.ref (Z.2.2.2 99), .int a_, .int w_] (S) (fun v S' => v = some (.long (if ((0 ≤ a_ ∧ a_ ≤ 3) ∧ (0 ≤ w_ ∧ w_ ≤ 1) ∧ ¬ (S.1 (10 + a_.toNatClampNeg) = -1)) then laX (btL (S.2.2.1 (20 + a_.toNatClampNeg)) (S.1 (20 + a_.toNatClampNeg)).toNatClampNeg) (S.1 (20 + a_.toNatClampNeg)) w_ else -9223372036854775808)) ∧ xCor S S') := by
  refine V_entry (own := RX10) (by decide) rfl (Nat.le_of_ble_eq_true rfl) ?_
  intro B hB
  refine V_sub (L' := [(0, .ref (Z.2.2.2 99)), (1, .int a_), (2, .int w_)]) [0, 1, 2] rfl ?_
  refine V_aload_n (pc := 0) dX10_linear_0 0 rfl rfl ?_
  refine V_iload_n (pc := 1) dX10_linear_1 1 rfl rfl ?_
  refine V_callV (q0 := 0) (ci := 10) (C := RX10) (T := TX10) (N := 9) (pc := 2) dX10_linear_2 (c_X10_sheetAt Z _ _) kX10_118 rfl rfl rfl rfl (Nat.le_of_ble_eq_true rfl) (by decide) (by decide) (Nat.le_of_ble_eq_true rfl) (Nat.le_of_ble_eq_true rfl) (fun v2 S2 hp2 => ?_)
  refine V_widen (n' := 0) (k' := 0) (Nat.le_refl _) (Nat.le_refl _) ?_
  obtain ⟨rfl, ⟨hv2, hs2, hi2, rfl⟩ | ⟨hno2, rfl⟩⟩ := hp2
  · skip
    refine V_astore_n (pc := 5) (L2 := [(0, .ref (Z.2.2.2 99)), (1, .int a_), (2, .int w_)]) dX10_linear_5 rfl (by decide) rfl (fun x3_5 ex3_5 => ?_)
    subst ex3_5
    refine V_aload_n (pc := 6) dX10_linear_6 0 rfl rfl ?_
    refine V_ifnull (pc := 7) dX10_linear_7 ?_
    refine V_iload_n (pc := 10) dX10_linear_10 3 rfl rfl ?_
    refine V_iconst (v := 0) (pc := 11) dX10_linear_11 (by decide) ?_
    refine V_iconst (v := 1) (pc := 12) dX10_linear_12 (by decide) ?_
    refine V_callSi (pc := 13) dX10_linear_13 (c_X10_between Z _ _ _ _) kX10_60 rfl (Nat.le_of_ble_eq_true rfl) (by decide) (by decide) (Nat.le_of_ble_eq_true rfl) (Nat.le_of_ble_eq_true rfl) ?_
    refine V_bif_eq (pc := 16) (tgt := 26) dX10_linear_16 (by decide) (fun h16 => ?_) (fun h16 => ?_)
    · skip
      refine V_ldc2 (pc := 26) dX10_linear_26 tw_449 ?_
      exact V_lret (pc := 29) dX10_linear_29 (Nat.le_of_ble_eq_true rfl) (Nat.le_of_ble_eq_true rfl) (hB _ _ ⟨congrArg (fun z => some (Value.long z)) (by first | exact (if_neg (fun h => hno2 h.1)).symm | exact (if_neg (fun h => h16 h.2.1)).symm | exact (if_neg (fun h => h.2.2 h23)).symm), by exact xCor_rfl _⟩)
    · skip
      refine V_aload_n (pc := 19) dX10_linear_19 0 rfl rfl ?_
      refine V_callVi (ci := 8) (C := RX8) (T := TX8) (N := 3) (pc := 20) dX10_linear_20 (c_X8_isMissing Z _ _ (by exact hs2)) kX10_134 (x_sh Z _ (by exact hs2)) rfl rfl rfl (Nat.le_of_ble_eq_true rfl) (by decide) (by decide) (Nat.le_of_ble_eq_true rfl) (Nat.le_of_ble_eq_true rfl) ?_
      refine V_bif_eq (pc := 23) (tgt := 30) dX10_linear_23 (by decide) (fun h23 => ?_) (fun h23 => ?_)
      · skip
        refine V_aload_n (pc := 30) dX10_linear_30 1 rfl rfl ?_
        refine V_aload_n (pc := 31) dX10_linear_31 0 rfl rfl ?_
        refine V_callVl (ci := 8) (C := RX8) (T := TX8) (N := 3) (pc := 32) dX10_linear_32 (c_X8_bits Z _ _ (by exact hs2) (by exact zOK_le hz hs2)) kX10_140 (x_sh Z _ (by exact hs2)) rfl rfl rfl (Nat.le_of_ble_eq_true rfl) (by decide) (by decide) (Nat.le_of_ble_eq_true rfl) (Nat.le_of_ble_eq_true rfl) ?_
        refine V_aload_n (pc := 35) dX10_linear_35 0 rfl rfl ?_
        refine Xg_X10_161 (pc := 36) (v := (S.1 (20 + (a_).toNatClampNeg))) (by exact hs2) rfl dX10_linear_36 ?_
        refine V_iload_n (pc := 39) dX10_linear_39 3 rfl rfl ?_
        refine V_callVl (q0 := 0) (ci := 10) (C := RX10) (T := TX10) (N := 9) (pc := 40) dX10_linear_40 (c_X10_lawAnswer Z _ _ _ _) kX10_198 rfl rfl rfl rfl (Nat.le_of_ble_eq_true rfl) (by decide) (by decide) (Nat.le_of_ble_eq_true rfl) (Nat.le_of_ble_eq_true rfl) ?_
        exact V_lret (pc := 43) dX10_linear_43 (Nat.le_of_ble_eq_true rfl) (Nat.le_of_ble_eq_true rfl) (hB _ _ ⟨congrArg (fun z => some (Value.long z)) (by exact (if_pos ⟨hi2, h16, h23⟩).symm), by exact xCor_lw _ _ _⟩)
      · skip
        refine V_ldc2 (pc := 26) dX10_linear_26 tw_449 ?_
        exact V_lret (pc := 29) dX10_linear_29 (Nat.le_of_ble_eq_true rfl) (Nat.le_of_ble_eq_true rfl) (hB _ _ ⟨congrArg (fun z => some (Value.long z)) (by first | exact (if_neg (fun h => hno2 h.1)).symm | exact (if_neg (fun h => h16 h.2.1)).symm | exact (if_neg (fun h => h.2.2 h23)).symm), by exact xCor_rfl _⟩)
  · skip
    refine V_astore_nN (L2 := [(0, .ref (Z.2.2.2 99)), (1, .int a_), (2, .int w_)]) (pc := 5) dX10_linear_5  rfl (by decide) rfl ?_
    refine V_aload_nN (pc := 6) dX10_linear_6 0 rfl rfl ?_
    refine V_ifnullN (pc := 7) (tgt := 26) dX10_linear_7 (by decide) ?_
    refine V_ldc2 (pc := 26) dX10_linear_26 tw_449 ?_
    exact V_lret (pc := 29) dX10_linear_29 (Nat.le_of_ble_eq_true rfl) (Nat.le_of_ble_eq_true rfl) (hB _ _ ⟨congrArg (fun z => some (Value.long z)) (by first | exact (if_neg (fun h => hno2 h.1)).symm | exact (if_neg (fun h => h16 h.2.1)).symm | exact (if_neg (fun h => h.2.2 h23)).symm), by exact xCor_rfl _⟩)
set_option maxHeartbeats 4000000 in
set_option maxRecDepth 100000 in
theorem c_X10_twin (Z : VZ) (S : XS) (m_ : Int32) (n_ : Int32) (w_ : Int32) (hx : xOK S) : Ct XW Z yX10_twin cX10_twin 5 (some .long) 7 1 6 [.ref (Z.2.2.2 99), .int m_, .int n_, .int w_] (S) (fun v S' => v = some (.long (if ((0 ≤ m_ ∧ m_ < S.1 1) ∧ (0 ≤ n_ ∧ n_ ≤ 40) ∧ (0 ≤ w_ ∧ w_ ≤ 1)) then laX (tlL (kc (mfo S (xAd S m_) 0)) (gT S (xAd S m_)) n_.toNatClampNeg) n_ w_ else -9223372036854775808)) ∧ xCor S S') := by
  refine V_entry (own := RX10) (by decide) rfl (Nat.le_of_ble_eq_true rfl) ?_
  intro B hB
  refine V_sub (L' := [(0, .ref (Z.2.2.2 99)), (1, .int m_), (2, .int n_), (3, .int w_)]) [0, 1, 2, 3] rfl ?_
  refine V_aload_n (pc := 0) dX10_twin_0 0 rfl rfl ?_
  refine V_iload_n (pc := 1) dX10_twin_1 1 rfl rfl ?_
  refine V_callV (q0 := 0) (ci := 10) (C := RX10) (T := TX10) (N := 9) (pc := 2) dX10_twin_2 (c_X10_machineAt Z _ _ (by exact hx)) kX10_76 rfl rfl rfl rfl (Nat.le_of_ble_eq_true rfl) (by decide) (by decide) (Nat.le_of_ble_eq_true rfl) (Nat.le_of_ble_eq_true rfl) (fun v2 S2 hp2 => ?_)
  refine V_widen (n' := 0) (k' := 0) (Nat.le_refl _) (Nat.le_refl _) ?_
  obtain ⟨rfl, ⟨ma_, hvma_, hima_, hMma_, hama_, hmma_, rfl⟩ | ⟨hno2, rfl⟩⟩ := hp2
  · skip
    refine V_astore (pc := 5) (L2 := [(0, .ref (Z.2.2.2 99)), (1, .int m_), (2, .int n_), (3, .int w_)]) dX10_twin_5 (by decide) rfl (fun x4_5 ex4_5 => ?_)
    subst ex4_5
    refine V_aload (pc := 7) dX10_twin_7 0 rfl ?_
    refine V_ifnull (pc := 9) dX10_twin_9 ?_
    refine V_iload_n (pc := 12) dX10_twin_12 3 rfl rfl ?_
    refine V_iconst (v := 0) (pc := 13) dX10_twin_13 (by decide) ?_
    refine V_bipush (v := 40) (pc := 14) dX10_twin_14 (by decide) ?_
    refine V_callSi (pc := 16) dX10_twin_16 (c_X10_between Z _ _ _ _) kX10_60 rfl (Nat.le_of_ble_eq_true rfl) (by decide) (by decide) (Nat.le_of_ble_eq_true rfl) (Nat.le_of_ble_eq_true rfl) ?_
    refine V_bif_eq (pc := 19) (tgt := 31) dX10_twin_19 (by decide) (fun h19 => ?_) (fun h19 => ?_)
    · skip
      refine V_ldc2 (pc := 31) dX10_twin_31 tw_449 ?_
      exact V_lret (pc := 34) dX10_twin_34 (Nat.le_of_ble_eq_true rfl) (Nat.le_of_ble_eq_true rfl) (hB _ _ ⟨congrArg (fun z => some (Value.long z)) (by first | exact (if_neg (fun h => hno2 h.1)).symm | exact (if_neg (fun h => h19 h.2.1)).symm | exact (if_neg (fun h => h28 h.2.2)).symm), by exact xCor_rfl _⟩)
    · skip
      refine V_iload_n (pc := 22) dX10_twin_22 4 rfl rfl ?_
      refine V_iconst (v := 0) (pc := 23) dX10_twin_23 (by decide) ?_
      refine V_iconst (v := 1) (pc := 24) dX10_twin_24 (by decide) ?_
      refine V_callSi (pc := 25) dX10_twin_25 (c_X10_between Z _ _ _ _) kX10_60 rfl (Nat.le_of_ble_eq_true rfl) (by decide) (by decide) (Nat.le_of_ble_eq_true rfl) (Nat.le_of_ble_eq_true rfl) ?_
      refine V_bif_ne (pc := 28) (tgt := 35) dX10_twin_28 (by decide) (fun h28 => ?_) (fun h28 => ?_)
      · skip
        refine V_aload_n (pc := 35) dX10_twin_35 1 rfl rfl ?_
        refine V_aload (pc := 36) dX10_twin_36 0 rfl ?_
        refine V_callS (pc := 38) dX10_twin_38 (c_X10_thoughtOf Z _ _ (by exact hama_) (by exact hmma_)) kX10_114 rfl (Nat.le_of_ble_eq_true rfl) (by decide) (by decide) (Nat.le_of_ble_eq_true rfl) (Nat.le_of_ble_eq_true rfl) (fun v38 S38 hp38 => ?_)
        refine V_widen (n' := 1) (k' := 6) (Nat.le_refl _) (Nat.le_refl _) ?_
        obtain ⟨q_, rfl, hq_, rfl⟩ := hp38
        refine V_iload_n (pc := 41) dX10_twin_41 3 rfl rfl ?_
        refine V_callSl (pc := 42) dX10_twin_42 (c_X10_tell Z _ _ _ (by exact in_xN _ _ _ _) (by exact mcl_xN _ _ _ _)) kX10_110 rfl (Nat.le_of_ble_eq_true rfl) (by decide) (by decide) (Nat.le_of_ble_eq_true rfl) (Nat.le_of_ble_eq_true rfl) ?_
        refine V_eqS (xN S q_ (kc (mfo S ma_ 0)) (advN (kc (mfo S ma_ 0)) n_.toNatClampNeg (gT S ma_))) (by rw [xN_M, xmk_xN, mfo_xN]) ?_
        refine V_eql ((tlL (kc (mfo S ma_ 0)) (gT S ma_) n_.toNatClampNeg)) (by rw [xmk_xN, mfo_xN]) ?_
        refine V_iload_n (pc := 45) dX10_twin_45 3 rfl rfl ?_
        refine V_iload_n (pc := 46) dX10_twin_46 4 rfl rfl ?_
        refine V_callVl (q0 := 0) (ci := 10) (C := RX10) (T := TX10) (N := 9) (pc := 47) dX10_twin_47 (c_X10_lawAnswer Z _ _ _ _) kX10_198 rfl rfl rfl rfl (Nat.le_of_ble_eq_true rfl) (by decide) (by decide) (Nat.le_of_ble_eq_true rfl) (Nat.le_of_ble_eq_true rfl) ?_
        exact V_lret (pc := 50) dX10_twin_50 (Nat.le_of_ble_eq_true rfl) (Nat.le_of_ble_eq_true rfl) (hB _ _ ⟨congrArg (fun z => some (Value.long z)) (by refine Eq.symm ?_; rw [if_pos ⟨hima_, h19, h28⟩, xAd_eq hMma_]), by exact xCor_tr (xCor_xN S _ _ hq_) (xCor_lw _ _ _)⟩)
      · skip
        refine V_ldc2 (pc := 31) dX10_twin_31 tw_449 ?_
        exact V_lret (pc := 34) dX10_twin_34 (Nat.le_of_ble_eq_true rfl) (Nat.le_of_ble_eq_true rfl) (hB _ _ ⟨congrArg (fun z => some (Value.long z)) (by first | exact (if_neg (fun h => hno2 h.1)).symm | exact (if_neg (fun h => h19 h.2.1)).symm | exact (if_neg (fun h => h28 h.2.2)).symm), by exact xCor_rfl _⟩)
  · skip
    refine V_astoreN (L2 := [(0, .ref (Z.2.2.2 99)), (1, .int m_), (2, .int n_), (3, .int w_)]) (pc := 5) dX10_twin_5  (by decide) rfl ?_
    refine V_aloadN (pc := 7) dX10_twin_7 0 rfl ?_
    refine V_ifnullN (pc := 9) (tgt := 31) dX10_twin_9 (by decide) ?_
    refine V_ldc2 (pc := 31) dX10_twin_31 tw_449 ?_
    exact V_lret (pc := 34) dX10_twin_34 (Nat.le_of_ble_eq_true rfl) (Nat.le_of_ble_eq_true rfl) (hB _ _ ⟨congrArg (fun z => some (Value.long z)) (by first | exact (if_neg (fun h => hno2 h.1)).symm | exact (if_neg (fun h => h19 h.2.1)).symm | exact (if_neg (fun h => h28 h.2.2)).symm), by exact xCor_rfl _⟩)
set_option maxHeartbeats 4000000 in
set_option maxRecDepth 100000 in
theorem c_X10_drawn (Z : VZ) (S : XS) (a_ : Int32) (z_ : Int32) (n_ : Int32) (hz : zOK S) : Ct XW Z yX10_drawn cX10_drawn 5 (some .int) 2 0 0 [.ref (Z.2.2.2 99), .int a_, .int z_, .int n_] (S) (fun v S' => v = some (.int (if ((0 ≤ a_ ∧ a_ ≤ 3) ∧ (0 ≤ n_ ∧ n_ ≤ 8)) then (if (S.1 (10 + a_.toNatClampNeg) = -1) then -11 else if (S.1 (20 + a_.toNatClampNeg)) < 1 then -3 else (lfX (slX (btL (S.2.2.1 (20 + a_.toNatClampNeg)) (S.1 (20 + a_.toNatClampNeg)).toNatClampNeg) z_ (S.1 (20 + a_.toNatClampNeg)).toNatClampNeg n_.toNatClampNeg) (S.1 (20 + a_.toNatClampNeg)).toNatClampNeg).2.2.2.2) else -2)) ∧ xCor S S') := by
  refine V_entry (own := RX10) (by decide) rfl (Nat.le_of_ble_eq_true rfl) ?_
  intro B hB
  refine V_sub (L' := [(0, .ref (Z.2.2.2 99)), (1, .int a_), (2, .int z_), (3, .int n_)]) [0, 1, 2, 3] rfl ?_
  refine V_aload_n (pc := 0) dX10_drawn_0 0 rfl rfl ?_
  refine V_iload_n (pc := 1) dX10_drawn_1 1 rfl rfl ?_
  refine V_callV (q0 := 0) (ci := 10) (C := RX10) (T := TX10) (N := 9) (pc := 2) dX10_drawn_2 (c_X10_sheetAt Z _ _) kX10_118 rfl rfl rfl rfl (Nat.le_of_ble_eq_true rfl) (by decide) (by decide) (Nat.le_of_ble_eq_true rfl) (Nat.le_of_ble_eq_true rfl) (fun v2 S2 hp2 => ?_)
  refine V_widen (n' := 0) (k' := 0) (Nat.le_refl _) (Nat.le_refl _) ?_
  obtain ⟨rfl, ⟨hv2, hs2, hi2, rfl⟩ | ⟨hno2, rfl⟩⟩ := hp2
  · skip
    refine V_astore (pc := 5) (L2 := [(0, .ref (Z.2.2.2 99)), (1, .int a_), (2, .int z_), (3, .int n_)]) dX10_drawn_5 (by decide) rfl (fun x4_5 ex4_5 => ?_)
    subst ex4_5
    refine V_aload (pc := 7) dX10_drawn_7 0 rfl ?_
    refine V_ifnull (pc := 9) dX10_drawn_9 ?_
    refine V_iload_n (pc := 12) dX10_drawn_12 4 rfl rfl ?_
    refine V_iconst (v := 0) (pc := 13) dX10_drawn_13 (by decide) ?_
    refine V_bipush (v := 8) (pc := 14) dX10_drawn_14 (by decide) ?_
    refine V_callSi (pc := 16) dX10_drawn_16 (c_X10_between Z _ _ _ _) kX10_60 rfl (Nat.le_of_ble_eq_true rfl) (by decide) (by decide) (Nat.le_of_ble_eq_true rfl) (Nat.le_of_ble_eq_true rfl) ?_
    refine V_bif_ne (pc := 19) (tgt := 25) dX10_drawn_19 (by decide) (fun h19 => ?_) (fun h19 => ?_)
    · skip
      refine V_aload (pc := 25) dX10_drawn_25 0 rfl ?_
      refine V_callVi (ci := 8) (C := RX8) (T := TX8) (N := 3) (pc := 27) dX10_drawn_27 (c_X8_isMissing Z _ _ (by exact hs2)) kX10_134 (x_sh Z _ (by exact hs2)) rfl rfl rfl (Nat.le_of_ble_eq_true rfl) (by decide) (by decide) (Nat.le_of_ble_eq_true rfl) (Nat.le_of_ble_eq_true rfl) ?_
      refine V_bif_eq (pc := 30) (tgt := 36) dX10_drawn_30 (by decide) (fun h30 => ?_) (fun h30 => ?_)
      · skip
        obtain ⟨l_, hl_, el_⟩ := hz _ hs2
        have ec_ : (S.1 (20 + a_.toNatClampNeg)).toNatClampNeg = l_ := by rw [el_, nI_clamp (by omega)]
        refine V_aload (pc := 36) dX10_drawn_36 0 rfl ?_
        refine Xg_X10_161 (pc := 38) (v := (nI l_)) (by exact hs2) el_ dX10_drawn_38 ?_
        refine V_iconst (v := 1) (pc := 41) dX10_drawn_41 (by decide) ?_
        refine V_icmp_ge (pc := 42) (tgt := 48) dX10_drawn_42 (by decide) (fun h42 => ?_) (fun h42 => ?_)
        · skip
          have hl0 : 0 < l_ := by
            rcases Nat.eq_zero_or_pos l_ with z | z
            · rw [z] at h42; exact absurd h42 (by decide)
            · exact z
          refine V_aload_n (pc := 48) dX10_drawn_48 1 rfl rfl ?_
          refine Xg_X10_51 (pc := 49) dX10_drawn_49 ?_
          refine V_aload (pc := 52) dX10_drawn_52 0 rfl ?_
          refine V_callVl (ci := 8) (C := RX8) (T := TX8) (N := 3) (pc := 54) dX10_drawn_54 (c_X8_bits Z _ _ (by exact hs2) (by exact zOK_le hz hs2)) kX10_140 (x_sh Z _ (by exact hs2)) rfl rfl rfl (Nat.le_of_ble_eq_true rfl) (by decide) (by decide) (Nat.le_of_ble_eq_true rfl) (Nat.le_of_ble_eq_true rfl) ?_
          refine V_aload (pc := 57) dX10_drawn_57 0 rfl ?_
          refine Xg_X10_161 (pc := 59) (v := (nI l_)) (by exact hs2) el_ dX10_drawn_59 ?_
          refine V_iload_n (pc := 62) dX10_drawn_62 3 rfl rfl ?_
          refine V_iload_n (pc := 63) dX10_drawn_63 4 rfl rfl ?_
          refine V_callSl (pc := 64) dX10_drawn_64 (c_X10_spoilt Z _ _ _ _ _ (by exact ⟨hl0, hl_⟩)) kX10_228 rfl (Nat.le_of_ble_eq_true rfl) (by decide) (by decide) (Nat.le_of_ble_eq_true rfl) (Nat.le_of_ble_eq_true rfl) ?_
          refine V_aload (pc := 67) dX10_drawn_67 0 rfl ?_
          refine Xg_X10_161 (pc := 69) (v := (nI l_)) (by exact hs2) el_ dX10_drawn_69 ?_
          refine V_callVv (q0 := 18) (ci := 3) (C := RX3) (T := TX3) (N := 2) (pc := 72) dX10_drawn_72 (c_X3_find Z _ _ _) kX10_202 rfl rfl rfl rfl (Nat.le_of_ble_eq_true rfl) (by decide) (by decide) (Nat.le_of_ble_eq_true rfl) (Nat.le_of_ble_eq_true rfl) ?_
          refine V_aload_n (pc := 75) dX10_drawn_75 1 rfl rfl ?_
          refine Xg_X10_51 (pc := 76) dX10_drawn_76 ?_
          refine Xg_X10_203 (pc := 79) (v := (lfX (slX (btL (S.2.2.1 (20 + a_.toNatClampNeg)) (S.1 (20 + a_.toNatClampNeg)).toNatClampNeg) z_ (S.1 (20 + a_.toNatClampNeg)).toNatClampNeg n_.toNatClampNeg) (S.1 (20 + a_.toNatClampNeg)).toNatClampNeg).2.2.2.2) (by rw [ec_, nI_clamp (by omega)]; exact va_up_self S.1 40 _) dX10_drawn_79 ?_
          exact V_iret (pc := 82) dX10_drawn_82 (Nat.le_of_ble_eq_true rfl) (Nat.le_of_ble_eq_true rfl) (hB _ _ ⟨congrArg (fun z => some (Value.int z)) (by rw [if_pos ⟨hi2, h19⟩, if_neg h30, if_neg (by rw [el_]; exact Int32.not_lt.mpr h42)]), by exact xCor_lw _ _ _⟩)
        · skip
          refine V_bipush (v := (-3)) (pc := 45) dX10_drawn_45 (by decide) ?_
          exact V_iret (pc := 47) dX10_drawn_47 (Nat.le_of_ble_eq_true rfl) (Nat.le_of_ble_eq_true rfl) (hB _ _ ⟨congrArg (fun z => some (Value.int z)) (by rw [if_pos ⟨hi2, h19⟩, if_neg h30, if_pos (by rw [el_]; exact Int32.not_le.mp h42)]), by exact xCor_rfl _⟩)
      · skip
        refine V_bipush (v := (-11)) (pc := 33) dX10_drawn_33 (by decide) ?_
        exact V_iret (pc := 35) dX10_drawn_35 (Nat.le_of_ble_eq_true rfl) (Nat.le_of_ble_eq_true rfl) (hB _ _ ⟨congrArg (fun z => some (Value.int z)) (by rw [if_pos ⟨hi2, h19⟩, if_pos h30]), by exact xCor_rfl _⟩)
    · skip
      refine V_bipush (v := (-2)) (pc := 22) dX10_drawn_22 (by decide) ?_
      exact V_iret (pc := 24) dX10_drawn_24 (Nat.le_of_ble_eq_true rfl) (Nat.le_of_ble_eq_true rfl) (hB _ _ ⟨congrArg (fun z => some (Value.int z)) (by first | exact (if_neg (fun h => hno2 h.1)).symm | exact (if_neg (fun h => h19 h.2)).symm), by exact xCor_rfl _⟩)
  · skip
    refine V_astoreN (L2 := [(0, .ref (Z.2.2.2 99)), (1, .int a_), (2, .int z_), (3, .int n_)]) (pc := 5) dX10_drawn_5  (by decide) rfl ?_
    refine V_aloadN (pc := 7) dX10_drawn_7 0 rfl ?_
    refine V_ifnullN (pc := 9) (tgt := 22) dX10_drawn_9 (by decide) ?_
    refine V_bipush (v := (-2)) (pc := 22) dX10_drawn_22 (by decide) ?_
    exact V_iret (pc := 24) dX10_drawn_24 (Nat.le_of_ble_eq_true rfl) (Nat.le_of_ble_eq_true rfl) (hB _ _ ⟨congrArg (fun z => some (Value.int z)) (by first | exact (if_neg (fun h => hno2 h.1)).symm | exact (if_neg (fun h => h19 h.2)).symm), by exact xCor_rfl _⟩)
