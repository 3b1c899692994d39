/-- the least fraction of a row of n bits -/
def leaX (N : Int) (n : Nat) (A B : Int) : Prop := (n = 0 ∧ A = -1 ∧ B = 1) ∨ (1 ≤ n ∧ leaQ N ((2 ^ n : Nat) : Int) A B)
theorem leaX_uni {N : Int} {n : Nat} {A B A' B' : Int} (h : leaX N n A B) (k : leaX N n A' B') : A = A' ∧ B = B' := by
  rcases h with ⟨h1, h2, h3⟩ | ⟨h1, h2⟩
  · rcases k with ⟨_, k2, k3⟩ | ⟨k1, _⟩
    · exact ⟨h2.trans k2.symm, h3.trans k3.symm⟩
    · omega
  · rcases k with ⟨k1, _⟩ | ⟨_, k2⟩
    · omega
    · exact lea_uni h2 k2
theorem sh_i {n : Nat} (h : n < 64) : (1 : Int64) <<< ((nI n).toInt64 &&& 63) = iL ((2 ^ n : Nat) : Int) := by
  have e := wb_shl 1 h
  rw [Nat.one_mul] at e
  exact e
theorem p24 {n : Nat} (h : n ≤ 24) : 0 < ((2 ^ n : Nat) : Int) ∧ ((2 ^ n : Nat) : Int) ≤ 16777216 := by
  have a : 2 ^ n ≤ 2 ^ 24 := Nat.pow_le_pow_right (by decide) h
  have b : 0 < 2 ^ n := Nat.two_pow_pos n
  omega
theorem p24s {n : Nat} (h : 1 ≤ n) : 1 < ((2 ^ n : Nat) : Int) := by
  have a : 2 ^ 1 ≤ 2 ^ n := Nat.pow_le_pow_right (by decide) h
  omega
theorem red_s24 {N M p q r s : Int} (hM : 0 < M) (hM2 : M ≤ 16777216) (h : redQ N M p q r s) : s24 p ∧ s24 q ∧ s24 r ∧ s24 s :=
  gs_s24 (j := 0) hM hM2 ⟨h.1, Int.le_trans h.2.1 h.2.2.2, h.2.2.2, Or.inl ⟨rfl, h.2.1⟩⟩
set_option maxHeartbeats 4000000 in
set_option maxRecDepth 100000 in
theorem c_X4_find (Z : VZ) (S : XS) (a b p q r s : Int) (N_ : Int) (n_ : Nat) (hn : n_ ≤ 24) (hN : 0 ≤ N_ ∧ N_ < ((2 ^ n_ : Nat) : Int)) : Ct XW Z yX4_find cX4_find 4 none 5 0 0 [.ref (Z.2.2.2 6), .long (iL N_), .int (nI n_)] (xQ S a b p q r s) (fun v S' => v = none ∧ ∃ A B p' q' r' s', S' = xQ S A B p' q' r' s' ∧ leaX N_ n_ A B ∧ smQ A ∧ smQ B) := by
  refine V_entry (own := RX4) (by decide) rfl (Nat.le_of_ble_eq_true rfl) ?_
  intro B hB
  refine V_sub (L' := [(0, .ref (Z.2.2.2 6)), (1, .long (iL N_)), (3, .int (nI n_))]) [0, 1, 2] rfl ?_
  refine V_aload_n (pc := 0) dX4_find_0 0 rfl rfl ?_
  refine V_ldc2 (pc := 1) dX4_find_1 tw_76 ?_
  refine Xp_X4_9 (pc := 4) dX4_find_4 ?_
  refine V_eqS (xQ S (-1) b p q r s) (by rw [show (-1 : Int64) = iL (-1) from rfl]; exact xQ0 S a b p q r s (-1)) ?_
  refine V_aload_n (pc := 7) dX4_find_7 0 rfl rfl ?_
  refine V_lconst (v := 1) (pc := 8) dX4_find_8 (by decide) ?_
  refine Xp_X4_15 (pc := 9) dX4_find_9 ?_
  refine V_eqS _ (xQ1 S (-1) b p q r s 1) ?_
  refine V_iload_n (pc := 12) dX4_find_12 2 rfl rfl ?_
  refine V_iconst (v := 1) (pc := 13) dX4_find_13 (by decide) ?_
  refine V_icmp_ge (pc := 14) (tgt := 18) dX4_find_14 (by decide) (fun h14 => ?_) (fun h14 => ?_)
  · skip
    have hn1 : 1 ≤ n_ := (nI_leI (a := 1) (by decide) (by omega)).mp h14
    refine V_aload_n (pc := 18) dX4_find_18 0 rfl rfl ?_
    refine V_lconst (v := 0) (pc := 19) dX4_find_19 (by decide) ?_
    refine Xp_X4_15 (pc := 20) dX4_find_20 ?_
    refine V_eqS _ (xQ1 S (-1) 1 p q r s 0) ?_
    refine V_aload_n (pc := 23) dX4_find_23 0 rfl rfl ?_
    refine V_lload_n (pc := 24) dX4_find_24 1 rfl rfl ?_
    refine V_lconst (v := 1) (pc := 25) dX4_find_25 (by decide) ?_
    refine V_iload_n (pc := 26) dX4_find_26 2 rfl rfl ?_
    refine V_lshl (pc := 27) dX4_find_27 rfl ?_
    refine V_eql (iL ((2 ^ n_ : Nat) : Int)) (sh_i (by omega)) ?_
    refine V_callV (q0 := 17) (ci := 4) (C := RX4) (T := TX4) (N := 6) (pc := 28) dX4_find_28 (c_X4_shorten Z _ _ _ _ _ _ _ _ _ (by exact (p24 hn).1) (by exact (p24 hn).2) (by exact hN)) kX4_18 rfl rfl rfl rfl (Nat.le_of_ble_eq_true rfl) (by decide) (by decide) (Nat.le_of_ble_eq_true rfl) (Nat.le_of_ble_eq_true rfl) (fun v28 S28 hp28 => ?_)
    obtain ⟨rfl, p1, q1, r1, s1, rfl, red⟩ := hp28
    obtain ⟨d1, d2, d3, d4⟩ := red_s24 (p24 hn).1 (p24 hn).2 red
    refine V_aload_n (pc := 31) dX4_find_31 0 rfl rfl ?_
    refine V_aload_n (pc := 32) dX4_find_32 0 rfl rfl ?_
    refine Xg_X4_22 (pc := 33) (v := (iL p1)) rfl dX4_find_33 ?_
    refine V_aload_n (pc := 36) dX4_find_36 0 rfl rfl ?_
    refine Xg_X4_25 (pc := 37) (v := (iL q1)) rfl dX4_find_37 ?_
    refine V_callVv (q0 := 17) (ci := 4) (C := RX4) (T := TX4) (N := 6) (pc := 40) dX4_find_40 (c_X4_offer Z _ _ _ _ _ _ _ _ _ (by decide) (by decide) (by omega) (by omega)) kX4_28 rfl rfl rfl rfl (Nat.le_of_ble_eq_true rfl) (by decide) (by decide) (Nat.le_of_ble_eq_true rfl) (Nat.le_of_ble_eq_true rfl) ?_
    obtain ⟨U0, eU0⟩ : ∃ U, U = ofQ (-1, 0) p1 q1 := ⟨_, rfl⟩
    refine V_eqS (xQ S U0.1 U0.2 p1 q1 r1 s1) (by rw [eU0]) ?_
    have sm0 : smQ U0.1 ∧ smQ U0.2 := by rw [eU0]; exact of_sm (by decide) (by decide) (by omega) (by omega)
    refine V_aload_n (pc := 43) dX4_find_43 0 rfl rfl ?_
    refine V_lconst (v := 0) (pc := 44) dX4_find_44 (by decide) ?_
    refine V_eql (iL 0) rfl ?_
    refine V_callVv (q0 := 17) (ci := 4) (C := RX4) (T := TX4) (N := 6) (pc := 45) dX4_find_45 (c_X4_offerAround Z _ _ _ _ _ _ _ _ (by exact sm0.1) (by exact sm0.2) (by exact d1) (by exact d2) (by exact d3) (by exact d4) (by decide)) kX4_31 rfl rfl rfl rfl (Nat.le_of_ble_eq_true rfl) (by decide) (by decide) (Nat.le_of_ble_eq_true rfl) (Nat.le_of_ble_eq_true rfl) ?_
    obtain ⟨U1, eU1⟩ : ∃ U, U = oaQ p1 q1 r1 s1 0 U0 := ⟨_, rfl⟩
    refine V_eqS (xQ S U1.1 U1.2 p1 q1 r1 s1) (by rw [eU1]) ?_
    have sm1 : smQ U1.1 ∧ smQ U1.2 := by rw [eU1]; exact oa_sm d1 d2 d3 d4 (by decide) sm0.1 sm0.2
    refine V_aload_n (pc := 48) dX4_find_48 0 rfl rfl ?_
    refine V_aload_n (pc := 49) dX4_find_49 0 rfl rfl ?_
    refine Xg_X4_35 (pc := 50) (v := (iL r1)) rfl dX4_find_50 ?_
    refine V_aload_n (pc := 53) dX4_find_53 0 rfl rfl ?_
    refine Xg_X4_38 (pc := 54) (v := (iL s1)) rfl dX4_find_54 ?_
    refine V_lsub (pc := 57) dX4_find_57 ?_
    refine V_eql (iL (r1 - s1)) (iL_sub _ _) ?_
    refine V_aload_n (pc := 58) dX4_find_58 0 rfl rfl ?_
    refine Xg_X4_22 (pc := 59) (v := (iL p1)) rfl dX4_find_59 ?_
    refine V_aload_n (pc := 62) dX4_find_62 0 rfl rfl ?_
    refine Xg_X4_25 (pc := 63) (v := (iL q1)) rfl dX4_find_63 ?_
    refine V_lsub (pc := 66) dX4_find_66 ?_
    refine V_eql (iL (p1 - q1)) (iL_sub _ _) ?_
    refine V_callSl (pc := 67) dX4_find_67 (c_X4_crossing Z _ _ _ (by omega) (by omega)) kX4_41 rfl (Nat.le_of_ble_eq_true rfl) (by decide) (by decide) (Nat.le_of_ble_eq_true rfl) (Nat.le_of_ble_eq_true rfl) ?_
    refine V_callVv (q0 := 17) (ci := 4) (C := RX4) (T := TX4) (N := 6) (pc := 70) dX4_find_70 (c_X4_offerAround Z _ _ _ _ _ _ _ _ (by exact sm1.1) (by exact sm1.2) (by exact d1) (by exact d2) (by exact d3) (by exact d4) (by have := cr_bd (r1 - s1) (p1 - q1); omega)) kX4_31 rfl rfl rfl rfl (Nat.le_of_ble_eq_true rfl) (by decide) (by decide) (Nat.le_of_ble_eq_true rfl) (Nat.le_of_ble_eq_true rfl) ?_
    obtain ⟨U2, eU2⟩ : ∃ U, U = oaQ p1 q1 r1 s1 (crQ (r1 - s1) (p1 - q1)) U1 := ⟨_, rfl⟩
    refine V_eqS (xQ S U2.1 U2.2 p1 q1 r1 s1) (by rw [eU2]) ?_
    have sm2 : smQ U2.1 ∧ smQ U2.2 := by rw [eU2]; exact oa_sm d1 d2 d3 d4 (by have := cr_bd (r1 - s1) (p1 - q1); omega) sm1.1 sm1.2
    refine V_aload_n (pc := 73) dX4_find_73 0 rfl rfl ?_
    refine V_aload_n (pc := 74) dX4_find_74 0 rfl rfl ?_
    refine Xg_X4_35 (pc := 75) (v := (iL r1)) rfl dX4_find_75 ?_
    refine V_aload_n (pc := 78) dX4_find_78 0 rfl rfl ?_
    refine Xg_X4_38 (pc := 79) (v := (iL s1)) rfl dX4_find_79 ?_
    refine V_ladd (pc := 82) dX4_find_82 ?_
    refine V_eql (iL (r1 + s1)) (iL_add _ _) ?_
    refine V_aload_n (pc := 83) dX4_find_83 0 rfl rfl ?_
    refine Xg_X4_22 (pc := 84) (v := (iL p1)) rfl dX4_find_84 ?_
    refine V_aload_n (pc := 87) dX4_find_87 0 rfl rfl ?_
    refine Xg_X4_25 (pc := 88) (v := (iL q1)) rfl dX4_find_88 ?_
    refine V_ladd (pc := 91) dX4_find_91 ?_
    refine V_eql (iL (p1 + q1)) (iL_add _ _) ?_
    refine V_callSl (pc := 92) dX4_find_92 (c_X4_crossing Z _ _ _ (by omega) (by omega)) kX4_41 rfl (Nat.le_of_ble_eq_true rfl) (by decide) (by decide) (Nat.le_of_ble_eq_true rfl) (Nat.le_of_ble_eq_true rfl) ?_
    refine V_callVv (q0 := 17) (ci := 4) (C := RX4) (T := TX4) (N := 6) (pc := 95) dX4_find_95 (c_X4_offerAround Z _ _ _ _ _ _ _ _ (by exact sm2.1) (by exact sm2.2) (by exact d1) (by exact d2) (by exact d3) (by exact d4) (by have := cr_bd (r1 + s1) (p1 + q1); omega)) kX4_31 rfl rfl rfl rfl (Nat.le_of_ble_eq_true rfl) (by decide) (by decide) (Nat.le_of_ble_eq_true rfl) (Nat.le_of_ble_eq_true rfl) ?_
    obtain ⟨U3, eU3⟩ : ∃ U, U = oaQ p1 q1 r1 s1 (crQ (r1 + s1) (p1 + q1)) U2 := ⟨_, rfl⟩
    refine V_eqS (xQ S U3.1 U3.2 p1 q1 r1 s1) (by rw [eU3]) ?_
    have sm3 : smQ U3.1 ∧ smQ U3.2 := by rw [eU3]; exact oa_sm d1 d2 d3 d4 (by have := cr_bd (r1 + s1) (p1 + q1); omega) sm2.1 sm2.2
    exact V_vret (pc := 98) dX4_find_98 (Nat.le_of_ble_eq_true rfl) (Nat.le_of_ble_eq_true rfl) (hB _ _ (by exact ⟨rfl, U3.1, U3.2, p1, q1, r1, s1, rfl, Or.inr ⟨hn1, by rw [show U3 = allQ p1 q1 r1 s1 by rw [eU3, eU2, eU1, eU0]; rfl]; exact all_lea (p24s hn1) red⟩, sm3⟩))
  · skip
    have hn1 : n_ = 0 := by
      rcases Nat.eq_zero_or_pos n_ with z | z
      · exact z
      · exact absurd (nI_le (a := 1) z (by omega)) h14
    exact V_vret (pc := 17) dX4_find_17 (Nat.le_of_ble_eq_true rfl) (Nat.le_of_ble_eq_true rfl) (hB _ _ (by exact ⟨rfl, -1, 1, p, q, r, s, rfl, Or.inl ⟨hn1, rfl, rfl⟩, by decide, by decide⟩))
/-! rows as numbers -/
def bt1 (x : Int32) : Nat := (x.toInt % 2).toNat
theorem bt1_lt (x : Int32) : bt1 x < 2 := by unfold bt1; omega
theorem bt1_e (x : Int32) : x &&& 1 = nI (bt1 x) := by
  apply Int32.toInt_inj.mp
  have := bt1_lt x
  rw [and1_i, nI_toInt (by omega)]
  unfold bt1
  omega
def rwN (r : Nat → Nat) (n : Nat) : Nat := it (fun i s => s + r i * 2 ^ i) n 0
theorem rwN_s (r : Nat → Nat) (n : Nat) : rwN r (n + 1) = rwN r n + r n * 2 ^ n := rfl
theorem rwN_lt {r : Nat → Nat} (h : ∀ i, r i < 2) (n : Nat) : rwN r n < 2 ^ n := by
  induction n with
  | zero => exact Nat.zero_lt_one
  | succ n ih =>
    rw [rwN_s, Nat.pow_succ]
    have a := h n
    rcases (show r n = 0 ∨ r n = 1 by omega) with e | e <;> rw [e] <;> omega
theorem or_add {a b k : Nat} (h : a < 2 ^ k) : a ||| b * 2 ^ k = a + b * 2 ^ k := by
  have e := Nat.two_pow_add_eq_or_of_lt h b
  rw [Nat.or_comm, Nat.mul_comm, ← e, Nat.add_comm]
theorem btL_N (f : Nat → Int32) {n : Nat} (hn : n ≤ 62) : btL f n = lN (rwN (fun i => bt1 (f i)) n) := by
  induction n with
  | zero => rfl
  | succ n ih =>
    show btL f n ||| (f n &&& 1).toInt64 <<< ((nI n).toInt64 &&& 63) = _
    have a := bt1_lt (f n)
    have lt := rwN_lt (fun i => bt1_lt (f i)) n
    have p1 : 2 ^ n ≤ 2 ^ 62 := Nat.pow_le_pow_right (by decide) (by omega)
    have p2 : bt1 (f n) * 2 ^ n ≤ 2 ^ n := by rcases (show bt1 (f n) = 0 ∨ bt1 (f n) = 1 by omega) with e | e <;> rw [e] <;> omega
    rw [ih (by omega), bt1_e, nI_l (by omega), wb_shl _ (by omega), wb_or (by omega) (by omega), or_add lt]
    rfl
theorem bt_bd (f : Nat → Int32) {n : Nat} (hn : n ≤ 40) : 0 ≤ (btL f n).toInt ∧ (btL f n).toInt < ((2 ^ n : Nat) : Int) := by
  have lt := rwN_lt (fun i => bt1_lt (f i)) n
  have p1 : 2 ^ n ≤ 2 ^ 40 := Nat.pow_le_pow_right (by decide) hn
  rw [btL_N f (by omega), pk_lT (by omega)]
  omega
def frV (A B : Int) (w : Int32) : Int64 := if w = 0 then iL A else if w = 1 then iL B else if w = 2 then iL (szQ A B) else (64 - nlzL (iL (szQ A B))).toInt64
set_option maxHeartbeats 4000000 in
set_option maxRecDepth 100000 in
theorem c_X10_fraction (Z : VZ) (S : XS) (a_ : Int32) (w_ : Int32) (hz : zOK S) : Ct XW Z yX10_fraction cX10_fraction 4 (some .long) 6 0 0 [.ref (Z.2.2.2 99), .int a_, .int w_] (S) (fun v S' => ((¬ ((0 ≤ a_ ∧ a_ ≤ 3) ∧ (0 ≤ w_ ∧ w_ ≤ 3) ∧ ¬ (S.1 (10 + a_.toNatClampNeg) = -1) ∧ (S.1 (20 + a_.toNatClampNeg)) ≤ 24) ∧ v = some (.long (-9223372036854775808))) ∨ (((0 ≤ a_ ∧ a_ ≤ 3) ∧ (0 ≤ w_ ∧ w_ ≤ 3) ∧ ¬ (S.1 (10 + a_.toNatClampNeg) = -1) ∧ (S.1 (20 + a_.toNatClampNeg)) ≤ 24) ∧ ∃ A B, leaX ((btL (S.2.2.1 (20 + a_.toNatClampNeg)) (S.1 (20 + a_.toNatClampNeg)).toNatClampNeg)).toInt (S.1 (20 + a_.toNatClampNeg)).toNatClampNeg A B ∧ smQ A ∧ smQ B ∧ v = some (.long (frV A B w_)))) ∧ xCor S S') := by
  refine V_entry (own := RX10) (by decide) rfl (Nat.le_of_ble_eq_true rfl) ?_
  intro B hB
  refine V_sub (L' := [(0, .ref (Z.2.2.2 99)), (1, .int a_), (2, .int w_)]) [0, 1, 2] rfl ?_
  refine V_aload_n (pc := 0) dX10_fraction_0 0 rfl rfl ?_
  refine V_iload_n (pc := 1) dX10_fraction_1 1 rfl rfl ?_
  refine V_callV (q0 := 0) (ci := 10) (C := RX10) (T := TX10) (N := 9) (pc := 2) dX10_fraction_2 (c_X10_sheetAt Z _ _) kX10_118 rfl rfl rfl rfl (Nat.le_of_ble_eq_true rfl) (by decide) (by decide) (Nat.le_of_ble_eq_true rfl) (Nat.le_of_ble_eq_true rfl) (fun v2 S2 hp2 => ?_)
  refine V_widen (n' := 0) (k' := 0) (Nat.le_refl _) (Nat.le_refl _) ?_
  obtain ⟨rfl, ⟨hv2, hs2, hi2, rfl⟩ | ⟨hno2, rfl⟩⟩ := hp2
  · skip
    refine V_astore_n (pc := 5) (L2 := [(0, .ref (Z.2.2.2 99)), (1, .int a_), (2, .int w_)]) dX10_fraction_5 rfl (by decide) rfl (fun x3_5 ex3_5 => ?_)
    subst ex3_5
    refine V_aload_n (pc := 6) dX10_fraction_6 0 rfl rfl ?_
    refine V_ifnull (pc := 7) dX10_fraction_7 ?_
    refine V_iload_n (pc := 10) dX10_fraction_10 3 rfl rfl ?_
    refine V_iconst (v := 0) (pc := 11) dX10_fraction_11 (by decide) ?_
    refine V_iconst (v := 3) (pc := 12) dX10_fraction_12 (by decide) ?_
    refine V_callSi (pc := 13) dX10_fraction_13 (c_X10_between Z _ _ _ _) kX10_60 rfl (Nat.le_of_ble_eq_true rfl) (by decide) (by decide) (Nat.le_of_ble_eq_true rfl) (Nat.le_of_ble_eq_true rfl) ?_
    refine V_bif_eq (pc := 16) (tgt := 35) dX10_fraction_16 (by decide) (fun h16 => ?_) (fun h16 => ?_)
    · skip
      refine V_ldc2 (pc := 35) dX10_fraction_35 tw_449 ?_
      exact V_lret (pc := 38) dX10_fraction_38 (Nat.le_of_ble_eq_true rfl) (Nat.le_of_ble_eq_true rfl) (hB _ _ (by first | exact ⟨Or.inl ⟨fun h => hno2 h.1, rfl⟩, xCor_rfl _⟩ | exact ⟨Or.inl ⟨fun h => h16 h.2.1, rfl⟩, xCor_rfl _⟩ | exact ⟨Or.inl ⟨fun h => h.2.2.1 h23, rfl⟩, xCor_rfl _⟩ | exact ⟨Or.inl ⟨fun h => h32 h.2.2.2, rfl⟩, xCor_rfl _⟩))
    · skip
      refine V_aload_n (pc := 19) dX10_fraction_19 0 rfl rfl ?_
      refine V_callVi (ci := 8) (C := RX8) (T := TX8) (N := 3) (pc := 20) dX10_fraction_20 (c_X8_isMissing Z _ _ (by exact hs2)) kX10_134 (x_sh Z _ (by exact hs2)) rfl rfl rfl (Nat.le_of_ble_eq_true rfl) (by decide) (by decide) (Nat.le_of_ble_eq_true rfl) (Nat.le_of_ble_eq_true rfl) ?_
      refine V_bif_ne (pc := 23) (tgt := 35) dX10_fraction_23 (by decide) (fun h23 => ?_) (fun h23 => ?_)
      · skip
        refine V_ldc2 (pc := 35) dX10_fraction_35 tw_449 ?_
        exact V_lret (pc := 38) dX10_fraction_38 (Nat.le_of_ble_eq_true rfl) (Nat.le_of_ble_eq_true rfl) (hB _ _ (by first | exact ⟨Or.inl ⟨fun h => hno2 h.1, rfl⟩, xCor_rfl _⟩ | exact ⟨Or.inl ⟨fun h => h16 h.2.1, rfl⟩, xCor_rfl _⟩ | exact ⟨Or.inl ⟨fun h => h.2.2.1 h23, rfl⟩, xCor_rfl _⟩ | exact ⟨Or.inl ⟨fun h => h32 h.2.2.2, rfl⟩, xCor_rfl _⟩))
      · skip
        refine V_aload_n (pc := 26) dX10_fraction_26 0 rfl rfl ?_
        refine Xg_X10_161 (pc := 27) (v := (S.1 (20 + (a_).toNatClampNeg))) (by exact hs2) rfl dX10_fraction_27 ?_
        refine V_bipush (v := 24) (pc := 30) dX10_fraction_30 (by decide) ?_
        refine V_icmp_le (pc := 32) (tgt := 39) dX10_fraction_32 (by decide) (fun h32 => ?_) (fun h32 => ?_)
        · skip
          refine V_aload_n (pc := 39) dX10_fraction_39 1 rfl rfl ?_
          refine Xg_X10_44 (pc := 40) dX10_fraction_40 ?_
          refine V_aload_n (pc := 43) dX10_fraction_43 0 rfl rfl ?_
          refine V_callVl (ci := 8) (C := RX8) (T := TX8) (N := 3) (pc := 44) dX10_fraction_44 (c_X8_bits Z _ _ (by exact hs2) (by exact zOK_le hz hs2)) kX10_140 (x_sh Z _ (by exact hs2)) rfl rfl rfl (Nat.le_of_ble_eq_true rfl) (by decide) (by decide) (Nat.le_of_ble_eq_true rfl) (Nat.le_of_ble_eq_true rfl) ?_
          obtain ⟨l_, hl_, el_⟩ := hz _ hs2
          have ec_ : (S.1 (20 + a_.toNatClampNeg)).toNatClampNeg = l_ := by rw [el_, nI_clamp (by omega)]
          have l24 : l_ ≤ 24 := by
            rw [el_] at h32
            exact (nI_leI (b := 24) (by omega) (by decide)).mp h32
          have hbb := bt_bd (S.2.2.1 (20 + a_.toNatClampNeg)) hl_
          refine V_eql (iL (btL (S.2.2.1 (20 + a_.toNatClampNeg)) l_).toInt) (by rw [ec_]; exact iL_of _) ?_
          refine V_eqS _ (xQ_self S) ?_
          refine V_aload_n (pc := 47) dX10_fraction_47 0 rfl rfl ?_
          refine Xg_X10_161 (pc := 48) (v := (nI l_)) (by exact hs2) el_ dX10_fraction_48 ?_
          refine V_callV (q0 := 17) (ci := 4) (C := RX4) (T := TX4) (N := 6) (pc := 51) dX10_fraction_51 (c_X4_find Z _ _ _ _ _ _ _ _ _ (by exact l24) (by exact hbb)) kX10_164 rfl rfl rfl rfl (Nat.le_of_ble_eq_true rfl) (by decide) (by decide) (Nat.le_of_ble_eq_true rfl) (Nat.le_of_ble_eq_true rfl) (fun v51 S51 hp51 => ?_)
          obtain ⟨rfl, A_, B_, p1, q1, r1, s1, rfl, hlea, hsA, hsB⟩ := hp51
          refine V_iload_n (pc := 54) dX10_fraction_54 3 rfl rfl ?_
          by_cases h55_0 : w_ = 0
          · refine V_eqi 0 h55_0 ?_
            refine V_tableIn (pc := 55) (tgt := 80) dX10_fraction_55 (by decide) (by decide) rfl (by decide) ?_
            refine V_aload_n (pc := 80) dX10_fraction_80 1 rfl rfl ?_
            refine Xg_X10_44 (pc := 81) dX10_fraction_81 ?_
            refine Xg_X10_167 (pc := 84) (v := (iL A_)) rfl dX10_fraction_84 ?_
            exact V_lret (pc := 87) dX10_fraction_87 (Nat.le_of_ble_eq_true rfl) (Nat.le_of_ble_eq_true rfl) (hB _ _ (by rw [ec_]; exact ⟨Or.inr ⟨⟨hi2, h16, h23, h32⟩, A_, B_, hlea, hsA, hsB, by simp only [frV, *, ↓reduceIte] <;> rfl⟩, xCor_Q S _ _ _ _ _ _⟩))
          by_cases h55_1 : w_ = 1
          · refine V_eqi 1 h55_1 ?_
            refine V_tableIn (pc := 55) (tgt := 88) dX10_fraction_55 (by decide) (by decide) rfl (by decide) ?_
            refine V_aload_n (pc := 88) dX10_fraction_88 1 rfl rfl ?_
            refine Xg_X10_44 (pc := 89) dX10_fraction_89 ?_
            refine Xg_X10_171 (pc := 92) (v := (iL B_)) rfl dX10_fraction_92 ?_
            exact V_lret (pc := 95) dX10_fraction_95 (Nat.le_of_ble_eq_true rfl) (Nat.le_of_ble_eq_true rfl) (hB _ _ (by rw [ec_]; exact ⟨Or.inr ⟨⟨hi2, h16, h23, h32⟩, A_, B_, hlea, hsA, hsB, by simp only [frV, *, ↓reduceIte] <;> rfl⟩, xCor_Q S _ _ _ _ _ _⟩))
          by_cases h55_2 : w_ = 2
          · refine V_eqi 2 h55_2 ?_
            refine V_tableIn (pc := 55) (tgt := 96) dX10_fraction_55 (by decide) (by decide) rfl (by decide) ?_
            refine V_aload_n (pc := 96) dX10_fraction_96 1 rfl rfl ?_
            refine Xg_X10_44 (pc := 97) dX10_fraction_97 ?_
            refine V_callVl (q0 := 17) (ci := 4) (C := RX4) (T := TX4) (N := 6) (pc := 100) dX10_fraction_100 (c_X4_greater Z _ _ _ _ _ _ _ (by exact hsA) (by exact hsB)) kX10_174 rfl rfl rfl rfl (Nat.le_of_ble_eq_true rfl) (by decide) (by decide) (Nat.le_of_ble_eq_true rfl) (Nat.le_of_ble_eq_true rfl) ?_
            exact V_lret (pc := 103) dX10_fraction_103 (Nat.le_of_ble_eq_true rfl) (Nat.le_of_ble_eq_true rfl) (hB _ _ (by rw [ec_]; exact ⟨Or.inr ⟨⟨hi2, h16, h23, h32⟩, A_, B_, hlea, hsA, hsB, by simp only [frV, *, ↓reduceIte] <;> rfl⟩, xCor_Q S _ _ _ _ _ _⟩))
          refine V_tableOut (pc := 55) (tgt := 104) dX10_fraction_55 (by have a0 := lv_neT h55_0 (a := 0) rfl; have a1 := lv_neT h55_1 (a := 1) rfl; have a2 := lv_neT h55_2 (a := 2) rfl; omega) (by decide) ?_
          refine V_aload_n (pc := 104) dX10_fraction_104 1 rfl rfl ?_
          refine Xg_X10_44 (pc := 105) dX10_fraction_105 ?_
          refine V_callVl (q0 := 17) (ci := 4) (C := RX4) (T := TX4) (N := 6) (pc := 108) dX10_fraction_108 (c_X4_greater Z _ _ _ _ _ _ _ (by exact hsA) (by exact hsB)) kX10_174 rfl rfl rfl rfl (Nat.le_of_ble_eq_true rfl) (by decide) (by decide) (Nat.le_of_ble_eq_true rfl) (Nat.le_of_ble_eq_true rfl) ?_
          refine V_callSi (pc := 111) dX10_fraction_111 (c_X10_binaryDigits Z _ _) kX10_177 rfl (Nat.le_of_ble_eq_true rfl) (by decide) (by decide) (Nat.le_of_ble_eq_true rfl) (Nat.le_of_ble_eq_true rfl) ?_
          refine V_i2l (pc := 114) dX10_fraction_114 rfl ?_
          exact V_lret (pc := 115) dX10_fraction_115 (Nat.le_of_ble_eq_true rfl) (Nat.le_of_ble_eq_true rfl) (hB _ _ (by rw [ec_]; exact ⟨Or.inr ⟨⟨hi2, h16, h23, h32⟩, A_, B_, hlea, hsA, hsB, by simp only [frV, *, ↓reduceIte] <;> rfl⟩, xCor_Q S _ _ _ _ _ _⟩))
        · skip
          refine V_ldc2 (pc := 35) dX10_fraction_35 tw_449 ?_
          exact V_lret (pc := 38) dX10_fraction_38 (Nat.le_of_ble_eq_true rfl) (Nat.le_of_ble_eq_true rfl) (hB _ _ (by first | exact ⟨Or.inl ⟨fun h => hno2 h.1, rfl⟩, xCor_rfl _⟩ | exact ⟨Or.inl ⟨fun h => h16 h.2.1, rfl⟩, xCor_rfl _⟩ | exact ⟨Or.inl ⟨fun h => h.2.2.1 h23, rfl⟩, xCor_rfl _⟩ | exact ⟨Or.inl ⟨fun h => h32 h.2.2.2, rfl⟩, xCor_rfl _⟩))
  · skip
    refine V_astore_nN (L2 := [(0, .ref (Z.2.2.2 99)), (1, .int a_), (2, .int w_)]) (pc := 5) dX10_fraction_5  rfl (by decide) rfl ?_
    refine V_aload_nN (pc := 6) dX10_fraction_6 0 rfl rfl ?_
    refine V_ifnullN (pc := 7) (tgt := 35) dX10_fraction_7 (by decide) ?_
    refine V_ldc2 (pc := 35) dX10_fraction_35 tw_449 ?_
    exact V_lret (pc := 38) dX10_fraction_38 (Nat.le_of_ble_eq_true rfl) (Nat.le_of_ble_eq_true rfl) (hB _ _ (by first | exact ⟨Or.inl ⟨fun h => hno2 h.1, rfl⟩, xCor_rfl _⟩ | exact ⟨Or.inl ⟨fun h => h16 h.2.1, rfl⟩, xCor_rfl _⟩ | exact ⟨Or.inl ⟨fun h => h.2.2.1 h23, rfl⟩, xCor_rfl _⟩ | exact ⟨Or.inl ⟨fun h => h32 h.2.2.2, rfl⟩, xCor_rfl _⟩))
