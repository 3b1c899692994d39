theorem sOK_ex {S : MS} (h : ∀ i, i < 4 → ∃ n : Nat, n ≤ 40 ∧ S.2.2 33 i = nI n) : sOK S := fun i hi => by
  obtain ⟨n, hn, e⟩ := h i hi
  rw [e, nI_clamp (by omega)]
  exact hn
def sOK2 (S : MS) : Prop := ∀ i, i < 4 → ∃ n : Nat, n ≤ 40 ∧ S.2.2 33 i = nI n
theorem in_cl {b : Int32} {N : Nat} (h : vp_in b N) (hN : N < 2 ^ 31) : b = nI b.toNatClampNeg ∧ b.toNatClampNeg < N := by
  obtain ⟨j, hj, e⟩ := vp_in_of h hN
  subst e
  rw [nI_clamp (by omega)]
  exact ⟨rfl, hj⟩
theorem in160' {a b : Int32} (ha : vp_in a 4) (hb : vp_in b 40) : vp_in (40 * a + b) 160 := by
  rw [(in_cl hb (by decide)).1]; exact in160 ha (in_cl hb (by decide)).2
theorem cl40' {a b : Int32} (ha : vp_in a 4) (hb : vp_in b 40) : (40 * a + b).toNatClampNeg = 40 * a.toNatClampNeg + b.toNatClampNeg := by
  have e := in_cl hb (by decide)
  have := cl40 ha e.2
  rw [← e.1] at this
  exact this
theorem inSz {S : MS} (h : sOK2 S) {a : Int32} (ha : vp_in a 4) {b : Int32} (hb : 0 ≤ b ∧ b ≤ S.2.2 33 a.toNatClampNeg - 1) : vp_in b 40 := by
  obtain ⟨n, hn, e⟩ := h _ (in_cl ha (by decide)).2
  rw [e] at hb
  exact inOf hn (by decide) hb
theorem in40 {n : Int32} (h : 0 ≤ n ∧ n ≤ 40) : n.toNatClampNeg ≤ 40 := by
  have h2 := Int32.le_iff_toInt_le.mp h.2
  have e3 : (40 : Int32).toInt = 40 := rfl
  have : n.toNatClampNeg = n.toInt.toNat := rfl
  omega
def exq (q : Int32) (j : Nat) (p : Int32) : Int32 := it (fun _ x => (x - (x &&& 1) * q) / 2) j p
def exR (S : MS) (p q : Int32) (j : Nat) : Nat → Int32 := it (fun i g => upd g i (exq q i p &&& 1)) j (S.2.2 11)
def szO (p q : Int64) : Int64 := if (if 0 < p then p else -p) < q then q else (if 0 < p then p else -p)
def smZ (S : MS) (j : Nat) : Nat → Int32 := it (fun i g => upd g i 0) j (S.2.2 13)
def smA (T : MS) (j : Nat) : Nat → Int32 := it (fun i g => upd g i (g i + T.2.2 11 i)) j (T.2.2 13)
def mxS (S : MS) (set n : Int32) (j : Nat) : MS := it (fun m T => if set >>> (nI m &&& 31) &&& 1 = 1 then mA (mTells T m n n.toNatClampNeg) 13 (smA (mTells T m n n.toNatClampNeg) n.toNatClampNeg) else T) j (mA S 13 (smZ S n.toNatClampNeg))
theorem mxS0 (S : MS) (set n : Int32) (j : Nat) : (mxS S set n j).1 0 = S.1 0 := by
  induction j with
  | zero => rfl
  | succ j ih =>
    show (if set >>> (nI j &&& 31) &&& 1 = 1 then mA (mTells (mxS S set n j) j n n.toNatClampNeg) 13 (smA (mTells (mxS S set n j) j n n.toNatClampNeg) n.toNatClampNeg) else mxS S set n j).1 0 = S.1 0
    split
    · exact ih
    · exact ih
def crr (T : MS) (is : Int32) (j : Nat) : Int32 := it (fun i c => if is = 1 then (T.2.2 13 i + c) / 2 else 0) j 0
def mxR (T : MS) (is : Int32) (j : Nat) : Nat → Int32 := it (fun i g => upd g i ((T.2.2 13 i + crr T is i) - (T.2.2 13 i + crr T is i) / 2 * 2)) j (T.2.2 11)
set_option maxHeartbeats 4000000 in
set_option maxRecDepth 100000 in
theorem cM_film (Z : VZ) (S : MS) (a : Int32) (b : Int32) (n : Int32) (hm : mOK S) : CtF MW Z yX11_film cX11_film 4 (some .int) 4 0 0 [.ref (Z.2.2.2 99), .int a, .int b, .int n] (S) (some (.int (if ((0 ≤ a ∧ a ≤ 3) ∧ (0 ≤ b ∧ b ≤ S.1 0 - 1) ∧ (0 ≤ n ∧ n ≤ 40)) then n else -2))) (if ((0 ≤ a ∧ a ≤ 3) ∧ (0 ≤ b ∧ b ≤ S.1 0 - 1) ∧ (0 ≤ n ∧ n ≤ 40)) then mCm (mTells S b.toNatClampNeg n n.toNatClampNeg) a.toNatClampNeg else S) := by
  refine V_entry (own := RX11) (by decide) rfl (Nat.le_of_ble_eq_true rfl) ?_
  intro B hB
  refine V_sub (L' := [(0, .ref (Z.2.2.2 99)), (1, .int a), (2, .int b), (3, .int n)]) [0, 1, 2, 3] rfl ?_
  refine V_iload_n (pc := 0) dX11_film_0 1 rfl rfl ?_
  refine McSi (pc := 1) dX11_film_1 (cM_isSheet Z _ _) kM_150 rfl (Nat.le_of_ble_eq_true rfl) (by decide) (by decide) ?_
  refine V_bif_eq (pc := 4) (tgt := 25) dX11_film_4 (by decide) (fun h4 => ?_) (fun h4 => ?_)
  · skip
    refine V_bipush (v := (-2)) (pc := 25) dX11_film_25 (by decide) ?_
    exact V_iret (pc := 27) dX11_film_27 (Nat.le_of_ble_eq_true rfl) (Nat.le_of_ble_eq_true rfl) (hB _ _ ⟨congrArg (fun z => some (Value.int z)) (by exact (if_neg (fun h => h4 h.1)).symm), by exact (if_neg (fun h => h4 h.1)).symm⟩)
  · skip
    refine V_aload_n (pc := 7) dX11_film_7 0 rfl rfl ?_
    refine V_iload_n (pc := 8) dX11_film_8 2 rfl rfl ?_
    refine McVi (pc := 9) dX11_film_9 (cM_isMachine Z _ _) kM_86 rfl rfl (Nat.le_of_ble_eq_true rfl) (by decide) (by decide) ?_
    refine V_bif_eq (pc := 12) (tgt := 25) dX11_film_12 (by decide) (fun h12 => ?_) (fun h12 => ?_)
    · skip
      refine V_bipush (v := (-2)) (pc := 25) dX11_film_25 (by decide) ?_
      exact V_iret (pc := 27) dX11_film_27 (Nat.le_of_ble_eq_true rfl) (Nat.le_of_ble_eq_true rfl) (hB _ _ ⟨congrArg (fun z => some (Value.int z)) (by exact (if_neg (fun h => h12 h.2.1)).symm), by exact (if_neg (fun h => h12 h.2.1)).symm⟩)
    · skip
      refine V_iload_n (pc := 15) dX11_film_15 3 rfl rfl ?_
      refine V_iconst (v := 0) (pc := 16) dX11_film_16 (by decide) ?_
      refine V_bipush (v := 40) (pc := 17) dX11_film_17 (by decide) ?_
      refine McSi (pc := 19) dX11_film_19 (cM_in Z _ _ _ _) kM_70 rfl (Nat.le_of_ble_eq_true rfl) (by decide) (by decide) ?_
      refine V_bif_ne (pc := 22) (tgt := 28) dX11_film_22 (by decide) (fun h22 => ?_) (fun h22 => ?_)
      · skip
        refine V_aload_n (pc := 28) dX11_film_28 0 rfl rfl ?_
        refine V_iload_n (pc := 29) dX11_film_29 2 rfl rfl ?_
        refine V_iload_n (pc := 30) dX11_film_30 3 rfl rfl ?_
        refine McVv (pc := 31) dX11_film_31 (cM_tells Z _ _ _ (by exact inMach hm h12) (by exact in40 h22)) kM_153 rfl rfl (Nat.le_of_ble_eq_true rfl) (by decide) (by decide) ?_
        refine V_aload_n (pc := 34) dX11_film_34 0 rfl rfl ?_
        refine V_iload_n (pc := 35) dX11_film_35 1 rfl rfl ?_
        refine McVi (pc := 36) dX11_film_36 (cM_comesTo Z _ _ (by exact inSh h4)) kM_157 rfl rfl (Nat.le_of_ble_eq_true rfl) (by decide) (by decide) ?_
        exact V_iret (pc := 39) dX11_film_39 (Nat.le_of_ble_eq_true rfl) (Nat.le_of_ble_eq_true rfl) (hB _ _ ⟨congrArg (fun z => some (Value.int z)) (by rw [if_pos ⟨h4, h12, h22⟩]; rfl), by rw [if_pos ⟨h4, h12, h22⟩]⟩)
      · skip
        refine V_bipush (v := (-2)) (pc := 25) dX11_film_25 (by decide) ?_
        exact V_iret (pc := 27) dX11_film_27 (Nat.le_of_ble_eq_true rfl) (Nat.le_of_ble_eq_true rfl) (hB _ _ ⟨congrArg (fun z => some (Value.int z)) (by exact (if_neg (fun h => h22 h.2.2)).symm), by exact (if_neg (fun h => h22 h.2.2)).symm⟩)
set_option maxHeartbeats 4000000 in
set_option maxRecDepth 100000 in
theorem cM_expand (Z : VZ) (S : MS) (a : Int32) (p : Int32) (q : Int32) (n : Int32) : CtF MW Z yX11_expand cX11_expand 7 (some .int) 2 0 0 [.ref (Z.2.2.2 99), .int a, .int p, .int q, .int n] (S) (some (.int (if ((0 ≤ a ∧ a ≤ 3) ∧ (0 ≤ n ∧ n ≤ 40) ∧ (-9999 ≤ p ∧ p ≤ 9999) ∧ (1 ≤ q ∧ q ≤ 9999)) then (if q - q / 2 * 2 = 0 then -3 else n) else -2))) (if ((0 ≤ a ∧ a ≤ 3) ∧ (0 ≤ n ∧ n ≤ 40) ∧ (-9999 ≤ p ∧ p ≤ 9999) ∧ (1 ≤ q ∧ q ≤ 9999)) ∧ ¬ q - q / 2 * 2 = 0 then mCm (mF (mA S 11 (exR S p q n.toNatClampNeg)) 12 n) a.toNatClampNeg else S) := by
  refine V_entry (own := RX11) (by decide) rfl (Nat.le_of_ble_eq_true rfl) ?_
  intro B hB
  refine V_sub (L' := [(0, .ref (Z.2.2.2 99)), (1, .int a), (2, .int p), (3, .int q), (4, .int n)]) [0, 1, 2, 3, 4] rfl ?_
  refine V_iload_n (pc := 0) dX11_expand_0 1 rfl rfl ?_
  refine McSi (pc := 1) dX11_expand_1 (cM_isSheet Z _ _) kM_150 rfl (Nat.le_of_ble_eq_true rfl) (by decide) (by decide) ?_
  refine V_bif_eq (pc := 4) (tgt := 26) dX11_expand_4 (by decide) (fun h4 => ?_) (fun h4 => ?_)
  · skip
    refine V_bipush (v := (-2)) (pc := 26) dX11_expand_26 (by decide) ?_
    exact V_iret (pc := 28) dX11_expand_28 (Nat.le_of_ble_eq_true rfl) (Nat.le_of_ble_eq_true rfl) (hB _ _ ⟨congrArg (fun z => some (Value.int z)) (by exact (if_neg (fun h => h4 h.1)).symm), by exact (if_neg (fun h => h4 h.1.1)).symm⟩)
  · skip
    refine V_iload (pc := 7) dX11_expand_7 4 rfl ?_
    refine V_iconst (v := 0) (pc := 9) dX11_expand_9 (by decide) ?_
    refine V_bipush (v := 40) (pc := 10) dX11_expand_10 (by decide) ?_
    refine McSi (pc := 12) dX11_expand_12 (cM_in Z _ _ _ _) kM_70 rfl (Nat.le_of_ble_eq_true rfl) (by decide) (by decide) ?_
    refine V_bif_eq (pc := 15) (tgt := 26) dX11_expand_15 (by decide) (fun h15 => ?_) (fun h15 => ?_)
    · skip
      refine V_bipush (v := (-2)) (pc := 26) dX11_expand_26 (by decide) ?_
      exact V_iret (pc := 28) dX11_expand_28 (Nat.le_of_ble_eq_true rfl) (Nat.le_of_ble_eq_true rfl) (hB _ _ ⟨congrArg (fun z => some (Value.int z)) (by exact (if_neg (fun h => h15 h.2.1)).symm), by exact (if_neg (fun h => h15 h.1.2.1)).symm⟩)
    · skip
      refine V_iload_n (pc := 18) dX11_expand_18 2 rfl rfl ?_
      refine V_iload_n (pc := 19) dX11_expand_19 3 rfl rfl ?_
      refine McSi (pc := 20) dX11_expand_20 (cM_isFraction Z _ _ _) kM_172 rfl (Nat.le_of_ble_eq_true rfl) (by decide) (by decide) ?_
      refine V_bif_ne (pc := 23) (tgt := 29) dX11_expand_23 (by decide) (fun h23 => ?_) (fun h23 => ?_)
      · skip
        refine V_iload_n (pc := 29) dX11_expand_29 3 rfl rfl ?_
        refine V_iconst (v := 2) (pc := 30) dX11_expand_30 (by decide) ?_
        refine V_irem (pc := 31) dX11_expand_31 (by first | assumption | decide) ?_
        refine V_if_ne (pc := 32) (tgt := 38) dX11_expand_32 (by decide) (fun h32 => ?_) (fun h32 => ?_)
        · skip
          refine V_iload_n (pc := 38) dX11_expand_38 2 rfl rfl ?_
          refine V_istore (pc := 39) (L2 := [(0, .ref (Z.2.2.2 99)), (1, .int a), (2, .int p), (3, .int q), (4, .int n)]) dX11_expand_39 (by decide) rfl (fun x5_39 ex5_39 => ?_)
          subst ex5_39
          refine V_iconst (v := 0) (pc := 41) dX11_expand_41 (by decide) ?_
          refine V_istore (pc := 42) (L2 := [(5, .int p), (0, .ref (Z.2.2.2 99)), (1, .int a), (2, .int p), (3, .int q), (4, .int n)]) dX11_expand_42 (by decide) rfl (fun x6_42 ex6_42 => ?_)
          subst ex6_42
          refine V_eqS _ (mA_self S 11) ?_
          refine V_sub (L' := [(6, .int (nI 0)), (5, .int p), (0, .ref (Z.2.2.2 99)), (1, .int a), (2, .int p), (3, .int q), (4, .int n)]) [0, 1, 2, 3, 4, 5, 6] rfl ?_
          refine Vloop (σ := Nat × Int32) (fun x => (x.1) ≤ n.toNatClampNeg ∧ (x.2) = exq q (x.1) p) (fun x => n.toNatClampNeg - (x.1)) (fun x => V MW Z cX11_expand RX11 7 (some .int) 2 0 0 B 0 0 44 [(6, .int (nI (x.1))), (5, .int (x.2)), (0, .ref (Z.2.2.2 99)), (1, .int a), (2, .int p), (3, .int q), (4, .int n)] [] (mA S 11 (exR S p q (x.1)))) ?_ (0, p) (by exact ⟨Nat.zero_le _, rfl⟩)
          rintro ⟨j, u⟩ hI44 ih44
          have hI44 : j ≤ n.toNatClampNeg ∧ u = exq q j p := hI44
          show V MW Z cX11_expand RX11 7 (some .int) 2 0 0 B 0 0 44 [(6, .int (nI j)), (5, .int u), (0, .ref (Z.2.2.2 99)), (1, .int a), (2, .int p), (3, .int q), (4, .int n)] [] (mA S 11 (exR S p q j))
          refine V_iload (pc := 44) dX11_expand_44 0 rfl ?_
          refine V_iload (pc := 46) dX11_expand_46 6 rfl ?_
          refine V_icmp_ge (pc := 48) (tgt := 76) dX11_expand_48 (by decide) (fun h48 => ?_) (fun h48 => ?_)
          · skip
            have hj : n.toNatClampNeg ≤ j := jge h48 (Nat.lt_of_le_of_lt hI44.1 (clampLt _))
            have ej : j = n.toNatClampNeg := Nat.le_antisymm hI44.1 hj
            refine V_aload_n (pc := 76) dX11_expand_76 2 rfl rfl ?_
            refine V_iload (pc := 77) dX11_expand_77 6 rfl ?_
            refine Mp_length (pc := 79) dX11_expand_79 ?_
            refine V_aload_n (pc := 82) dX11_expand_82 2 rfl rfl ?_
            refine V_iload_n (pc := 83) dX11_expand_83 3 rfl rfl ?_
            refine McVi (pc := 84) dX11_expand_84 (cM_comesTo Z _ _ (by exact inSh h4)) kM_157 rfl rfl (Nat.le_of_ble_eq_true rfl) (by decide) (by decide) ?_
            exact V_iret (pc := 87) dX11_expand_87 (Nat.le_of_ble_eq_true rfl) (Nat.le_of_ble_eq_true rfl) (hB _ _ ⟨congrArg (fun z => some (Value.int z)) (by rw [if_pos ⟨h4, h15, h23⟩, if_neg h32]; rfl), by rw [if_pos ⟨⟨h4, h15, h23⟩, h32⟩, ← ej]⟩)
          · skip
            have hj : j < n.toNatClampNeg := jlt h48 (Nat.lt_of_le_of_lt hI44.1 (clampLt _))
            refine V_aload_n (pc := 51) dX11_expand_51 2 rfl rfl ?_
            refine Mg_row (pc := 52) dX11_expand_52 ?_
            refine V_iload (pc := 55) dX11_expand_55 0 rfl ?_
            refine V_iload (pc := 57) dX11_expand_57 1 rfl ?_
            refine V_iconst (v := 1) (pc := 59) dX11_expand_59 (by decide) ?_
            refine V_iand (pc := 60) dX11_expand_60 ?_
            refine Ms_row (pc := 61) dX11_expand_61 (by have := in40 h15; exact vp_in_nI (by omega) (by decide)) ?_
            refine V_eqS (mA S 11 (exR S p q (j + 1))) (by
                have := in40 h15
                refine (mA_mA _ 11 _ _).trans ?_
                rw [nI_clamp (by omega), hI44.2]
                rfl) ?_
            refine V_iload (pc := 62) dX11_expand_62 1 rfl ?_
            refine V_iload_n (pc := 64) dX11_expand_64 5 rfl rfl ?_
            refine McSi (pc := 65) dX11_expand_65 (cM_behind Z _ _ _) kM_175 rfl (Nat.le_of_ble_eq_true rfl) (by decide) (by decide) ?_
            refine V_istore (pc := 68) (L2 := [(6, .int (nI j)), (0, .ref (Z.2.2.2 99)), (1, .int a), (2, .int p), (3, .int q), (4, .int n)]) dX11_expand_68 (by decide) rfl (fun x5_68 ex5_68 => ?_)
            refine V_iinc (pc := 70) (v := 1) (L2 := [(5, .int x5_68), (0, .ref (Z.2.2.2 99)), (1, .int a), (2, .int p), (3, .int q), (4, .int n)]) dX11_expand_70 1 rfl (by decide) (by decide) rfl (fun x6_70 ex6_70 => ?_)
            rw [nI_1] at ex6_70
            subst ex6_70
            refine V_goto (pc := 73) (tgt := 44) dX11_expand_73 (by decide) ?_
            refine V_sub (L' := [(6, .int (nI (j + 1))), (5, .int x5_68), (0, .ref (Z.2.2.2 99)), (1, .int a), (2, .int p), (3, .int q), (4, .int n)]) [0, 1, 2, 3, 4, 5, 6] rfl ?_
            refine ih44 (((j + 1)), _) ?_ ?_
            · show ((j + 1)) ≤ n.toNatClampNeg ∧ (x5_68) = exq q ((j + 1)) p
              exact ⟨hj, by rw [← ex5_68, hI44.2]; rfl⟩
            · show n.toNatClampNeg - (j + 1) < n.toNatClampNeg - j
              omega
        · skip
          refine V_bipush (v := (-3)) (pc := 35) dX11_expand_35 (by decide) ?_
          exact V_iret (pc := 37) dX11_expand_37 (Nat.le_of_ble_eq_true rfl) (Nat.le_of_ble_eq_true rfl) (hB _ _ ⟨congrArg (fun z => some (Value.int z)) (by rw [if_pos ⟨h4, h15, h23⟩, if_pos h32]), by rw [if_neg (fun h => h.2 h32)]⟩)
      · skip
        refine V_bipush (v := (-2)) (pc := 26) dX11_expand_26 (by decide) ?_
        exact V_iret (pc := 28) dX11_expand_28 (Nat.le_of_ble_eq_true rfl) (Nat.le_of_ble_eq_true rfl) (hB _ _ ⟨congrArg (fun z => some (Value.int z)) (by exact (if_neg (fun h => h23 h.2.2)).symm), by exact (if_neg (fun h => h23 h.1.2.2)).symm⟩)
set_option maxHeartbeats 4000000 in
set_option maxRecDepth 100000 in
theorem cM_sizeOf (Z : VZ) (S : MS) (p : Int64) (q : Int64) : CtF MW Z yX11_sizeOf cX11_sizeOf 5 (some .long) 1 0 0 [.ref (Z.2.2.2 99), .long p, .long q] (S) (some (.long (szO p q))) (S) := by
  refine V_entry (own := RX11) (by decide) rfl (Nat.le_of_ble_eq_true rfl) ?_
  intro B hB
  refine V_sub (L' := [(0, .ref (Z.2.2.2 99)), (1, .long p), (3, .long q)]) [0, 1, 2] rfl ?_
  refine V_lload_n (pc := 0) dX11_sizeOf_0 2 rfl rfl ?_
  refine V_lload_n (pc := 1) dX11_sizeOf_1 1 rfl rfl ?_
  refine V_mabsl (pc := 2) dX11_sizeOf_2 tw_1120 tw_504 tw_14 tw_505 (by decide) (Nat.le_of_ble_eq_true rfl) (Nat.le_refl _) (Nat.le_refl _) ?_
  refine V_mmaxl (pc := 5) dX11_sizeOf_5 tw_1121 tw_507 tw_14 tw_508 (by decide) (Nat.le_of_ble_eq_true rfl) (Nat.le_refl _) (Nat.le_refl _) ?_
  exact V_lret (pc := 8) dX11_sizeOf_8 (Nat.le_of_ble_eq_true rfl) (Nat.le_of_ble_eq_true rfl) (hB _ _ ⟨congrArg (fun z => some (Value.long z)) (by first | rfl | assumption | (simp_all; done)), by rfl⟩)
set_option maxHeartbeats 4000000 in
set_option maxRecDepth 100000 in
theorem cM_put (Z : VZ) (S : MS) (a : Int32) (b : Int32) (v : Int32) (hs : sOK2 S) : CtF MW Z yX11_put cX11_put 4 (some .int) 2 0 0 [.ref (Z.2.2.2 99), .int a, .int b, .int v] (S) (some (.int (if (0 ≤ a ∧ a ≤ 3) then (if ¬ 0 ≤ S.2.2 32 a.toNatClampNeg then -11 else if (0 ≤ b ∧ b ≤ S.2.2 33 a.toNatClampNeg - 1) then 1 else -12) else -2))) (if (0 ≤ a ∧ a ≤ 3) ∧ 0 ≤ S.2.2 32 a.toNatClampNeg ∧ (0 ≤ b ∧ b ≤ S.2.2 33 a.toNatClampNeg - 1) then mA S 34 (upd (S.2.2 34) (40 * a.toNatClampNeg + b.toNatClampNeg) (if S.2.2 32 a.toNatClampNeg = 0 then v.toInt16.toInt32 else v)) else S) := by
  refine V_entry (own := RX11) (by decide) rfl (Nat.le_of_ble_eq_true rfl) ?_
  intro B hB
  refine V_sub (L' := [(0, .ref (Z.2.2.2 99)), (1, .int a), (2, .int b), (3, .int v)]) [0, 1, 2, 3] rfl ?_
  refine V_iload_n (pc := 0) dX11_put_0 1 rfl rfl ?_
  refine McSi (pc := 1) dX11_put_1 (cM_isSheet Z _ _) kM_150 rfl (Nat.le_of_ble_eq_true rfl) (by decide) (by decide) ?_
  refine V_bif_ne (pc := 4) (tgt := 10) dX11_put_4 (by decide) (fun h4 => ?_) (fun h4 => ?_)
  · skip
    refine V_aload_n (pc := 10) dX11_put_10 0 rfl rfl ?_
    refine Mg_sorts (pc := 11) dX11_put_11 ?_
    refine V_iload_n (pc := 14) dX11_put_14 1 rfl rfl ?_
    refine Ml_sorts (pc := 15) dX11_put_15 (by exact inSh h4) ?_
    refine V_if_ge (pc := 16) (tgt := 22) dX11_put_16 (by decide) (fun h16 => ?_) (fun h16 => ?_)
    · skip
      refine V_iload_n (pc := 22) dX11_put_22 2 rfl rfl ?_
      refine V_iconst (v := 0) (pc := 23) dX11_put_23 (by decide) ?_
      refine V_aload_n (pc := 24) dX11_put_24 0 rfl rfl ?_
      refine Mg_sizes (pc := 25) dX11_put_25 ?_
      refine V_iload_n (pc := 28) dX11_put_28 1 rfl rfl ?_
      refine Ml_sizes (pc := 29) dX11_put_29 (by exact inSh h4) ?_
      refine V_iconst (v := 1) (pc := 30) dX11_put_30 (by decide) ?_
      refine V_isub (pc := 31) dX11_put_31 ?_
      refine McSi (pc := 32) dX11_put_32 (cM_in Z _ _ _ _) kM_70 rfl (Nat.le_of_ble_eq_true rfl) (by decide) (by decide) ?_
      refine V_bif_ne (pc := 35) (tgt := 41) dX11_put_35 (by decide) (fun h35 => ?_) (fun h35 => ?_)
      · skip
        refine V_aload_n (pc := 41) dX11_put_41 0 rfl rfl ?_
        refine Mg_items (pc := 42) dX11_put_42 ?_
        refine V_bipush (v := 40) (pc := 45) dX11_put_45 (by decide) ?_
        refine V_iload_n (pc := 47) dX11_put_47 1 rfl rfl ?_
        refine V_imul (pc := 48) dX11_put_48 ?_
        refine V_iload_n (pc := 49) dX11_put_49 2 rfl rfl ?_
        refine V_iadd (pc := 50) dX11_put_50 ?_
        refine V_aload_n (pc := 51) dX11_put_51 0 rfl rfl ?_
        refine Mg_sorts (pc := 52) dX11_put_52 ?_
        refine V_iload_n (pc := 55) dX11_put_55 1 rfl rfl ?_
        refine Ml_sorts (pc := 56) dX11_put_56 (by exact inSh h4) ?_
        refine V_if_ne (pc := 57) (tgt := 65) dX11_put_57 (by decide) (fun h57 => ?_) (fun h57 => ?_)
        · skip
          refine V_iload_n (pc := 65) dX11_put_65 3 rfl rfl ?_
          refine Ms_items (pc := 66) dX11_put_66 (by exact in160' (inSh h4) (inSz hs (inSh h4) h35)) ?_
          refine V_iconst (v := 1) (pc := 67) dX11_put_67 (by decide) ?_
          exact V_iret (pc := 68) dX11_put_68 (Nat.le_of_ble_eq_true rfl) (Nat.le_of_ble_eq_true rfl) (hB _ _ ⟨congrArg (fun z => some (Value.int z)) (by rw [if_pos h4, if_neg (fun h => h h16), if_pos h35]), by rw [if_pos ⟨h4, h16, h35⟩, ← cl40' (inSh h4) (inSz hs (inSh h4) h35)]; first | rw [if_pos h57] | rw [if_neg h57]⟩)
        · skip
          refine V_iload_n (pc := 60) dX11_put_60 3 rfl rfl ?_
          refine V_i2s (pc := 61) dX11_put_61 rfl ?_
          refine V_goto (pc := 62) (tgt := 66) dX11_put_62 (by decide) ?_
          refine Ms_items (pc := 66) dX11_put_66 (by exact in160' (inSh h4) (inSz hs (inSh h4) h35)) ?_
          refine V_iconst (v := 1) (pc := 67) dX11_put_67 (by decide) ?_
          exact V_iret (pc := 68) dX11_put_68 (Nat.le_of_ble_eq_true rfl) (Nat.le_of_ble_eq_true rfl) (hB _ _ ⟨congrArg (fun z => some (Value.int z)) (by rw [if_pos h4, if_neg (fun h => h h16), if_pos h35]), by rw [if_pos ⟨h4, h16, h35⟩, ← cl40' (inSh h4) (inSz hs (inSh h4) h35)]; first | rw [if_pos h57] | rw [if_neg h57]⟩)
      · skip
        refine V_bipush (v := (-12)) (pc := 38) dX11_put_38 (by decide) ?_
        exact V_iret (pc := 40) dX11_put_40 (Nat.le_of_ble_eq_true rfl) (Nat.le_of_ble_eq_true rfl) (hB _ _ ⟨congrArg (fun z => some (Value.int z)) (by rw [if_pos h4, if_neg (fun h => h h16), if_neg h35]), by exact (if_neg (fun h => h35 h.2.2)).symm⟩)
    · skip
      refine V_bipush (v := (-11)) (pc := 19) dX11_put_19 (by decide) ?_
      exact V_iret (pc := 21) dX11_put_21 (Nat.le_of_ble_eq_true rfl) (Nat.le_of_ble_eq_true rfl) (hB _ _ ⟨congrArg (fun z => some (Value.int z)) (by rw [if_pos h4, if_pos h16]), by exact (if_neg (fun h => h16 h.2.1)).symm⟩)
  · skip
    refine V_bipush (v := (-2)) (pc := 7) dX11_put_7 (by decide) ?_
    exact V_iret (pc := 9) dX11_put_9 (Nat.le_of_ble_eq_true rfl) (Nat.le_of_ble_eq_true rfl) (hB _ _ ⟨congrArg (fun z => some (Value.int z)) (by exact (if_neg h4).symm), by exact (if_neg (fun h => h4 h.1)).symm⟩)
