theorem xOK_Q {S : XS} (h : xOK S) (a b p q r s : Int) : xOK (xQ S a b p q r s) := h
theorem zOK_Q {S : XS} (h : zOK S) (a b p q r s : Int) : zOK (xQ S a b p q r s) := h
/-- cells, taps, state, carry of the machine that replays a fraction -/
def bfC (B : Int) : Int32 := 64 - nlzL (iL B + 1) - 1
def bfT (B : Int) (c : Int32) (j : Nat) : Int32 := it (fun i (a : Int32) => a ||| (((iL B + 1) >>> (Int32.toInt64 (c - nI i) &&& 63)) &&& 1).toInt32 <<< (nI i &&& 31)) j 0
def bfS (A B : Int) (c : Int32) : Int32 := (fdB (iL A) (iL B) c.toNatClampNeg).toInt32
def bfY (A B : Int) (c : Int32) : Int64 := (awX c (bfT B c c.toNatClampNeg) (bfS A B c) c.toNatClampNeg - iL A) >>> (Int32.toInt64 c &&& 63)
abbrev bfOK (A B : Int) : Prop := (1 ≤ bfC B ∧ bfC B ≤ 6) ∧ ¬ lg_cmp (bfY A B (bfC B)) (-9) < 0 ∧ lg_cmp (bfY A B (bfC B)) 9 ≤ 0
abbrev bfN (S : XS) (q : Nat) (A B : Int) : XS := xN S q (kc 0) (gM 0 (bfC B) (bfT B (bfC B) (bfC B).toNatClampNeg) (bfS A B (bfC B)) (bfY A B (bfC B)).toInt32)
/-- what a machine that is built makes of the class -/
def bldX (S : XS) (A B : Int) (v : Option Value) (S' : XS) : Prop := (¬ bfOK A B ∧ v = some (.int (-3)) ∧ S' = S) ∨ (bfOK A B ∧ v = some (.int (if S.1 1 < 4 then S.1 1 + 1 - 1 else -4)) ∧ ∃ q, q ∉ xL S ∧ S' = if S.1 1 < 4 then xJ (bfN S q A B) q else bfN S q A B)
set_option maxHeartbeats 4000000 in
set_option maxRecDepth 100000 in
theorem c_X10_buildFrom (Z : VZ) (S : XS) (A_ B_ : Int) (hx : xOK S) : Ct XW Z yX10_buildFrom cX10_buildFrom 10 (some .int) 6 1 6 [.ref (Z.2.2.2 99), .long (iL A_), .long (iL B_)] (S) (fun v S' => bldX S A_ B_ v S') := by
  refine V_entry (own := RX10) (by decide) rfl (Nat.le_of_ble_eq_true rfl) ?_
  intro B hB
  refine V_sub (L' := [(0, .ref (Z.2.2.2 99)), (1, .long (iL A_)), (3, .long (iL B_))]) [0, 1, 2] rfl ?_
  refine V_lload_n (pc := 0) dX10_buildFrom_0 2 rfl rfl ?_
  refine V_lconst (v := 1) (pc := 1) dX10_buildFrom_1 (by decide) ?_
  refine V_ladd (pc := 2) dX10_buildFrom_2 ?_
  refine V_callSi (pc := 3) dX10_buildFrom_3 (c_X10_binaryDigits Z _ _) kX10_177 rfl (Nat.le_of_ble_eq_true rfl) (by decide) (by decide) (Nat.le_of_ble_eq_true rfl) (Nat.le_of_ble_eq_true rfl) ?_
  refine V_iconst (v := 1) (pc := 6) dX10_buildFrom_6 (by decide) ?_
  refine V_isub (pc := 7) dX10_buildFrom_7 ?_
  refine V_istore (pc := 8) (L2 := [(0, .ref (Z.2.2.2 99)), (1, .long (iL A_)), (3, .long (iL B_))]) dX10_buildFrom_8 (by decide) rfl (fun x5_8 ex5_8 => ?_)
  have ecB : x5_8 = (bfC B_) := ex5_8.symm
  clear ex5_8
  subst ecB
  refine V_iload (pc := 10) dX10_buildFrom_10 0 rfl ?_
  refine V_iconst (v := 1) (pc := 12) dX10_buildFrom_12 (by decide) ?_
  refine V_bipush (v := 6) (pc := 13) dX10_buildFrom_13 (by decide) ?_
  refine V_callSi (pc := 15) dX10_buildFrom_15 (c_X10_between Z _ _ _ _) kX10_60 rfl (Nat.le_of_ble_eq_true rfl) (by decide) (by decide) (Nat.le_of_ble_eq_true rfl) (Nat.le_of_ble_eq_true rfl) ?_
  refine V_bif_ne (pc := 18) (tgt := 24) dX10_buildFrom_18 (by decide) (fun h18 => ?_) (fun h18 => ?_)
  · skip
    refine V_iconst (v := 0) (pc := 24) dX10_buildFrom_24 (by decide) ?_
    refine V_istore (pc := 25) (L2 := [(5, .int (bfC B_)), (0, .ref (Z.2.2.2 99)), (1, .long (iL A_)), (3, .long (iL B_))]) dX10_buildFrom_25 (by decide) rfl (fun x6_25 ex6_25 => ?_)
    subst ex6_25
    refine V_iconst (v := 0) (pc := 27) dX10_buildFrom_27 (by decide) ?_
    refine V_istore (pc := 28) (L2 := [(6, .int 0), (5, .int (bfC B_)), (0, .ref (Z.2.2.2 99)), (1, .long (iL A_)), (3, .long (iL B_))]) dX10_buildFrom_28 (by decide) rfl (fun x7_28 ex7_28 => ?_)
    subst ex7_28
    refine V_sub (L' := [(7, .int (nI 0)), (6, .int 0), (5, .int (bfC B_)), (0, .ref (Z.2.2.2 99)), (1, .long (iL A_)), (3, .long (iL B_))]) [0, 1, 2, 3, 4, 5] rfl ?_
    refine Vloop (σ := Nat × Int32) (fun x => (x.1) ≤ (bfC B_).toNatClampNeg ∧ (x.2) = bfT B_ (bfC B_) (x.1)) (fun x => (bfC B_).toNatClampNeg - (x.1)) (fun x => V XW Z cX10_buildFrom RX10 10 (some .int) 6 1 6 B 0 0 30 [(7, .int (nI (x.1))), (6, .int (x.2)), (5, .int (bfC B_)), (0, .ref (Z.2.2.2 99)), (1, .long (iL A_)), (3, .long (iL B_))] [] (S)) ?_ (0, 0) (by exact ⟨Nat.zero_le _, rfl⟩)
    rintro ⟨j, u⟩ hI30 ih30
    have hI30 : j ≤ (bfC B_).toNatClampNeg ∧ u = bfT B_ (bfC B_) j := hI30
    show V XW Z cX10_buildFrom RX10 10 (some .int) 6 1 6 B 0 0 30 [(7, .int (nI j)), (6, .int u), (5, .int (bfC B_)), (0, .ref (Z.2.2.2 99)), (1, .long (iL A_)), (3, .long (iL B_))] [] (S)
    refine V_iload (pc := 30) dX10_buildFrom_30 0 rfl ?_
    refine V_iload (pc := 32) dX10_buildFrom_32 2 rfl ?_
    refine V_icmp_ge (pc := 34) (tgt := 63) dX10_buildFrom_34 (by decide) (fun h34 => ?_) (fun h34 => ?_)
    · skip
      have hj : (bfC B_).toNatClampNeg ≤ j := jge h34 (Nat.lt_of_le_of_lt hI30.1 (clampLt _))
      have ej : j = (bfC B_).toNatClampNeg := Nat.le_antisymm hI30.1 hj
      refine V_lload_n (pc := 63) dX10_buildFrom_63 4 rfl rfl ?_
      refine V_lload_n (pc := 64) dX10_buildFrom_64 5 rfl rfl ?_
      refine V_iload (pc := 65) dX10_buildFrom_65 2 rfl ?_
      refine V_callSl (pc := 67) dX10_buildFrom_67 (c_X10_firstDigits Z _ _ _ _) kX10_148 rfl (Nat.le_of_ble_eq_true rfl) (by decide) (by decide) (Nat.le_of_ble_eq_true rfl) (Nat.le_of_ble_eq_true rfl) ?_
      refine V_l2i (pc := 70) dX10_buildFrom_70 rfl ?_
      refine V_istore (pc := 71) (L2 := [(6, .int u), (5, .int (bfC B_)), (0, .ref (Z.2.2.2 99)), (1, .long (iL A_)), (3, .long (iL B_))]) dX10_buildFrom_71 (by decide) rfl (fun x7_71 ex7_71 => ?_)
      have esB : x7_71 = bfS A_ B_ (bfC B_) := ex7_71.symm
      clear ex7_71
      subst esB
      refine V_iload (pc := 73) dX10_buildFrom_73 2 rfl ?_
      refine V_iload (pc := 75) dX10_buildFrom_75 1 rfl ?_
      refine V_iload (pc := 77) dX10_buildFrom_77 0 rfl ?_
      refine V_callSl (pc := 79) dX10_buildFrom_79 (c_X10_aboveWithoutCarry Z _ _ _ _) kX10_181 rfl (Nat.le_of_ble_eq_true rfl) (by decide) (by decide) (Nat.le_of_ble_eq_true rfl) (Nat.le_of_ble_eq_true rfl) ?_
      refine V_lload_n (pc := 82) dX10_buildFrom_82 4 rfl rfl ?_
      refine V_lsub (pc := 83) dX10_buildFrom_83 ?_
      refine V_iload (pc := 84) dX10_buildFrom_84 2 rfl ?_
      refine V_lshr (pc := 86) dX10_buildFrom_86 rfl ?_
      refine V_lstore (pc := 87) (L2 := [(7, .int (bfS A_ B_ (bfC B_))), (6, .int u), (5, .int (bfC B_)), (0, .ref (Z.2.2.2 99)), (1, .long (iL A_)), (3, .long (iL B_))]) dX10_buildFrom_87 (by decide) rfl (fun x8_87 ex8_87 => ?_)
      have eyB : x8_87 = bfY A_ B_ (bfC B_) := by rw [← ex8_87, hI30.2, ej]; rfl
      clear ex8_87
      subst eyB
      refine V_lload (pc := 89) dX10_buildFrom_89 0 rfl ?_
      refine V_ldc2 (pc := 91) dX10_buildFrom_91 tw_553 ?_
      refine V_lcmp (pc := 94) dX10_buildFrom_94 ?_
      refine V_if_lt (pc := 95) (tgt := 107) dX10_buildFrom_95 (by decide) (fun h95 => ?_) (fun h95 => ?_)
      · skip
        refine V_bipush (v := (-3)) (pc := 107) dX10_buildFrom_107 (by decide) ?_
        exact V_iret (pc := 109) dX10_buildFrom_109 (Nat.le_of_ble_eq_true rfl) (Nat.le_of_ble_eq_true rfl) (hB _ _ (by exact Or.inl ⟨fun h => h.2.1 h95, rfl, rfl⟩))
      · skip
        refine V_lload (pc := 98) dX10_buildFrom_98 0 rfl ?_
        refine V_ldc2 (pc := 100) dX10_buildFrom_100 tw_554 ?_
        refine V_lcmp (pc := 103) dX10_buildFrom_103 ?_
        refine V_if_le (pc := 104) (tgt := 110) dX10_buildFrom_104 (by decide) (fun h104 => ?_) (fun h104 => ?_)
        · skip
          refine V_aload_n (pc := 110) dX10_buildFrom_110 4 rfl rfl ?_
          refine V_iconst (v := 0) (pc := 111) dX10_buildFrom_111 (by decide) ?_
          refine V_iload (pc := 112) dX10_buildFrom_112 3 rfl ?_
          refine V_iload (pc := 114) dX10_buildFrom_114 2 rfl ?_
          refine V_iload (pc := 116) dX10_buildFrom_116 1 rfl ?_
          refine V_lload (pc := 118) dX10_buildFrom_118 0 rfl ?_
          refine V_l2i (pc := 120) dX10_buildFrom_120 rfl ?_
          refine V_callS (pc := 121) dX10_buildFrom_121 (c_X10_made Z _ _ _ _ _ _) kX10_68 rfl (Nat.le_of_ble_eq_true rfl) (by decide) (by decide) (Nat.le_of_ble_eq_true rfl) (Nat.le_of_ble_eq_true rfl) (fun v121 S121 hp121 => ?_)
          refine V_widen (n' := 1) (k' := 6) (Nat.le_refl _) (Nat.le_refl _) ?_
          obtain ⟨q_, rfl, hq_, rfl⟩ := hp121
          refine V_callVi (q0 := 0) (ci := 10) (C := RX10) (T := TX10) (N := 9) (pc := 124) dX10_buildFrom_124 (c_X10_join Z _ _ (by exact xOK_xN hx _ hq_) (by exact in_xN _ _ _ _) (by exact mcl_xN _ _ _ _)) kX10_72 rfl rfl rfl rfl (Nat.le_of_ble_eq_true rfl) (by decide) (by decide) (Nat.le_of_ble_eq_true rfl) (Nat.le_of_ble_eq_true rfl) ?_
          exact V_iret (pc := 127) dX10_buildFrom_127 (Nat.le_of_ble_eq_true rfl) (Nat.le_of_ble_eq_true rfl) (hB _ _ (by refine Or.inr ⟨⟨h18, h95, h104⟩, rfl, q_, hq_, ?_⟩; rw [hI30.2, ej]; rfl))
        · skip
          refine V_bipush (v := (-3)) (pc := 107) dX10_buildFrom_107 (by decide) ?_
          exact V_iret (pc := 109) dX10_buildFrom_109 (Nat.le_of_ble_eq_true rfl) (Nat.le_of_ble_eq_true rfl) (hB _ _ (by exact Or.inl ⟨fun h => h104 h.2.2, rfl, rfl⟩))
    · skip
      have hj : j < (bfC B_).toNatClampNeg := jlt h34 (Nat.lt_of_le_of_lt hI30.1 (clampLt _))
      refine V_iload (pc := 37) dX10_buildFrom_37 1 rfl ?_
      refine V_lload_n (pc := 39) dX10_buildFrom_39 5 rfl rfl ?_
      refine V_lconst (v := 1) (pc := 40) dX10_buildFrom_40 (by decide) ?_
      refine V_ladd (pc := 41) dX10_buildFrom_41 ?_
      refine V_iload (pc := 42) dX10_buildFrom_42 2 rfl ?_
      refine V_iload (pc := 44) dX10_buildFrom_44 0 rfl ?_
      refine V_isub (pc := 46) dX10_buildFrom_46 ?_
      refine V_lshr (pc := 47) dX10_buildFrom_47 rfl ?_
      refine V_lconst (v := 1) (pc := 48) dX10_buildFrom_48 (by decide) ?_
      refine V_land (pc := 49) dX10_buildFrom_49 ?_
      refine V_l2i (pc := 50) dX10_buildFrom_50 rfl ?_
      refine V_iload (pc := 51) dX10_buildFrom_51 0 rfl ?_
      refine V_ishl (pc := 53) dX10_buildFrom_53 ?_
      refine V_ior (pc := 54) dX10_buildFrom_54 ?_
      refine V_istore (pc := 55) (L2 := [(7, .int (nI j)), (5, .int (bfC B_)), (0, .ref (Z.2.2.2 99)), (1, .long (iL A_)), (3, .long (iL B_))]) dX10_buildFrom_55 (by decide) rfl (fun x6_55 ex6_55 => ?_)
      refine V_iinc (pc := 57) (v := 1) (L2 := [(6, .int x6_55), (5, .int (bfC B_)), (0, .ref (Z.2.2.2 99)), (1, .long (iL A_)), (3, .long (iL B_))]) dX10_buildFrom_57 1 rfl (by decide) (by decide) rfl (fun x7_57 ex7_57 => ?_)
      rw [nI_1] at ex7_57
      subst ex7_57
      refine V_goto (pc := 60) (tgt := 30) dX10_buildFrom_60 (by decide) ?_
      refine V_sub (L' := [(7, .int (nI (j + 1))), (6, .int x6_55), (5, .int (bfC B_)), (0, .ref (Z.2.2.2 99)), (1, .long (iL A_)), (3, .long (iL B_))]) [0, 1, 2, 3, 4, 5] rfl ?_
      refine ih30 (((j + 1)), _) ?_ ?_
      · show ((j + 1)) ≤ (bfC B_).toNatClampNeg ∧ (x6_55) = bfT B_ (bfC B_) ((j + 1))
        exact ⟨hj, by rw [← ex6_55, hI30.2]; rfl⟩
      · show (bfC B_).toNatClampNeg - (j + 1) < (bfC B_).toNatClampNeg - j
        omega
  · skip
    refine V_bipush (v := (-3)) (pc := 21) dX10_buildFrom_21 (by decide) ?_
    exact V_iret (pc := 23) dX10_buildFrom_23 (Nat.le_of_ble_eq_true rfl) (Nat.le_of_ble_eq_true rfl) (hB _ _ (by exact Or.inl ⟨fun h => h18 h.1, rfl, rfl⟩))
set_option maxHeartbeats 4000000 in
set_option maxRecDepth 100000 in
theorem c_X10_build (Z : VZ) (S : XS) (a_ : Int32) (hx : xOK S) (hz : zOK S) : Ct XW Z yX10_build cX10_build 3 (some .int) 7 1 6 [.ref (Z.2.2.2 99), .int a_] (S) (fun v S' => (((¬ ((0 ≤ a_ ∧ a_ ≤ 3)) ∨ (¬ (S.1 (10 + a_.toNatClampNeg) = -1) ∧ ¬ (S.1 (20 + a_.toNatClampNeg)) ≤ 24)) ∧ v = some (.int (-2)) ∧ S' = S) ∨ (((0 ≤ a_ ∧ a_ ≤ 3)) ∧ (S.1 (10 + a_.toNatClampNeg) = -1) ∧ v = some (.int (-11)) ∧ S' = S) ∨ (((0 ≤ a_ ∧ a_ ≤ 3)) ∧ ¬ (S.1 (10 + a_.toNatClampNeg) = -1) ∧ (S.1 (20 + a_.toNatClampNeg)) ≤ 24 ∧ ¬ S.1 1 < 4 ∧ v = some (.int (-4)) ∧ S' = S) ∨ (((0 ≤ a_ ∧ a_ ≤ 3)) ∧ ¬ (S.1 (10 + a_.toNatClampNeg) = -1) ∧ (S.1 (20 + a_.toNatClampNeg)) ≤ 24 ∧ S.1 1 < 4 ∧ ∃ A B p q r s, leaX ((btL (S.2.2.1 (20 + a_.toNatClampNeg)) (S.1 (20 + a_.toNatClampNeg)).toNatClampNeg)).toInt (S.1 (20 + a_.toNatClampNeg)).toNatClampNeg A B ∧ smQ A ∧ smQ B ∧ bldX (xQ S A B p q r s) A B v S'))) := by
  refine V_entry (own := RX10) (by decide) rfl (Nat.le_of_ble_eq_true rfl) ?_
  intro B hB
  refine V_sub (L' := [(0, .ref (Z.2.2.2 99)), (1, .int a_)]) [0, 1] rfl ?_
  refine V_aload_n (pc := 0) dX10_build_0 0 rfl rfl ?_
  refine V_iload_n (pc := 1) dX10_build_1 1 rfl rfl ?_
  refine V_callV (q0 := 0) (ci := 10) (C := RX10) (T := TX10) (N := 9) (pc := 2) dX10_build_2 (c_X10_sheetAt Z _ _) kX10_118 rfl rfl rfl rfl (Nat.le_of_ble_eq_true rfl) (by decide) (by decide) (Nat.le_of_ble_eq_true rfl) (Nat.le_of_ble_eq_true rfl) (fun v2 S2 hp2 => ?_)
  refine V_widen (n' := 0) (k' := 0) (Nat.le_refl _) (Nat.le_refl _) ?_
  obtain ⟨rfl, ⟨hv2, hs2, hi2, rfl⟩ | ⟨hno2, rfl⟩⟩ := hp2
  · skip
    refine V_astore_n (pc := 5) (L2 := [(0, .ref (Z.2.2.2 99)), (1, .int a_)]) dX10_build_5 rfl (by decide) rfl (fun x2_5 ex2_5 => ?_)
    subst ex2_5
    refine V_aload_n (pc := 6) dX10_build_6 0 rfl rfl ?_
    refine V_ifnonnull (pc := 7) (tgt := 13) dX10_build_7 (by decide) ?_
    refine V_aload_n (pc := 13) dX10_build_13 0 rfl rfl ?_
    refine V_callVi (ci := 8) (C := RX8) (T := TX8) (N := 3) (pc := 14) dX10_build_14 (c_X8_isMissing Z _ _ (by exact hs2)) kX10_134 (x_sh Z _ (by exact hs2)) rfl rfl rfl (Nat.le_of_ble_eq_true rfl) (by decide) (by decide) (Nat.le_of_ble_eq_true rfl) (Nat.le_of_ble_eq_true rfl) ?_
    refine V_bif_eq (pc := 17) (tgt := 23) dX10_build_17 (by decide) (fun h17 => ?_) (fun h17 => ?_)
    · skip
      refine V_aload_n (pc := 23) dX10_build_23 0 rfl rfl ?_
      refine Xg_X10_161 (pc := 24) (v := (S.1 (20 + (a_).toNatClampNeg))) (by exact hs2) rfl dX10_build_24 ?_
      refine V_bipush (v := 24) (pc := 27) dX10_build_27 (by decide) ?_
      refine V_icmp_le (pc := 29) (tgt := 35) dX10_build_29 (by decide) (fun h29 => ?_) (fun h29 => ?_)
      · skip
        refine V_aload_n (pc := 35) dX10_build_35 1 rfl rfl ?_
        refine Xg_X10_17 (pc := 36) (v := (S.1 1)) rfl dX10_build_36 ?_
        refine V_iconst (v := 4) (pc := 39) dX10_build_39 (by decide) ?_
        refine V_icmp_lt (pc := 40) (tgt := 46) dX10_build_40 (by decide) (fun h40 => ?_) (fun h40 => ?_)
        · skip
          refine V_aload_n (pc := 46) dX10_build_46 1 rfl rfl ?_
          refine Xg_X10_44 (pc := 47) dX10_build_47 ?_
          refine V_aload_n (pc := 50) dX10_build_50 0 rfl rfl ?_
          refine V_callVl (ci := 8) (C := RX8) (T := TX8) (N := 3) (pc := 51) dX10_build_51 (c_X8_bits Z _ _ (by exact hs2) (by exact zOK_le hz hs2)) kX10_140 (x_sh Z _ (by exact hs2)) rfl rfl rfl (Nat.le_of_ble_eq_true rfl) (by decide) (by decide) (Nat.le_of_ble_eq_true rfl) (Nat.le_of_ble_eq_true rfl) ?_
          obtain ⟨l_, hl_, el_⟩ := hz _ hs2
          have ec_ : (S.1 (20 + a_.toNatClampNeg)).toNatClampNeg = l_ := by rw [el_, nI_clamp (by omega)]
          have l24 : l_ ≤ 24 := by
            rw [el_] at h29
            exact (nI_leI (b := 24) (by omega) (by decide)).mp h29
          have hbb := bt_bd (S.2.2.1 (20 + a_.toNatClampNeg)) hl_
          refine V_eql (iL (btL (S.2.2.1 (20 + a_.toNatClampNeg)) l_).toInt) (by rw [ec_]; exact iL_of _) ?_
          refine V_eqS _ (xQ_self S) ?_
          refine V_aload_n (pc := 54) dX10_build_54 0 rfl rfl ?_
          refine Xg_X10_161 (pc := 55) (v := (nI l_)) (by exact hs2) el_ dX10_build_55 ?_
          refine V_callV (q0 := 17) (ci := 4) (C := RX4) (T := TX4) (N := 6) (pc := 58) dX10_build_58 (c_X4_find Z _ _ _ _ _ _ _ _ _ (by exact l24) (by exact hbb)) kX10_164 rfl rfl rfl rfl (Nat.le_of_ble_eq_true rfl) (by decide) (by decide) (Nat.le_of_ble_eq_true rfl) (Nat.le_of_ble_eq_true rfl) (fun v58 S58 hp58 => ?_)
          obtain ⟨rfl, A_, B_, p1, q1, r1, s1, rfl, hlea, hsA, hsB⟩ := hp58
          refine V_aload_n (pc := 61) dX10_build_61 1 rfl rfl ?_
          refine V_aload_n (pc := 62) dX10_build_62 1 rfl rfl ?_
          refine Xg_X10_44 (pc := 63) dX10_build_63 ?_
          refine Xg_X10_167 (pc := 66) (v := (iL A_)) rfl dX10_build_66 ?_
          refine V_aload_n (pc := 69) dX10_build_69 1 rfl rfl ?_
          refine Xg_X10_44 (pc := 70) dX10_build_70 ?_
          refine Xg_X10_171 (pc := 73) (v := (iL B_)) rfl dX10_build_73 ?_
          refine V_callV (q0 := 0) (ci := 10) (C := RX10) (T := TX10) (N := 9) (pc := 76) dX10_build_76 (c_X10_buildFrom Z _ _ _ (by exact xOK_Q hx _ _ _ _ _ _)) kX10_188 rfl rfl rfl rfl (Nat.le_of_ble_eq_true rfl) (by decide) (by decide) (Nat.le_of_ble_eq_true rfl) (Nat.le_of_ble_eq_true rfl) (fun v76 S76 hp76 => ?_)
          refine V_widen (n' := 1) (k' := 6) (Nat.le_refl _) (Nat.le_refl _) ?_
          obtain ⟨x_, rfl⟩ : ∃ x, v76 = some (.int x) := by rcases hp76 with ⟨_, h, _⟩ | ⟨_, h, _⟩ <;> exact ⟨_, h⟩
          exact V_iret (pc := 79) dX10_build_79 (Nat.le_of_ble_eq_true rfl) (Nat.le_of_ble_eq_true rfl) (hB _ _ (by rw [ec_]; exact Or.inr (Or.inr (Or.inr ⟨hi2, h17, h29, h40, A_, B_, p1, q1, r1, s1, hlea, hsA, hsB, hp76⟩))))
        · skip
          refine V_bipush (v := (-4)) (pc := 43) dX10_build_43 (by decide) ?_
          exact V_iret (pc := 45) dX10_build_45 (Nat.le_of_ble_eq_true rfl) (Nat.le_of_ble_eq_true rfl) (hB _ _ (by exact Or.inr (Or.inr (Or.inl ⟨hi2, h17, h29, h40, rfl, rfl⟩))))
      · skip
        refine V_bipush (v := (-2)) (pc := 32) dX10_build_32 (by decide) ?_
        exact V_iret (pc := 34) dX10_build_34 (Nat.le_of_ble_eq_true rfl) (Nat.le_of_ble_eq_true rfl) (hB _ _ (by exact Or.inl ⟨Or.inr ⟨h17, h29⟩, rfl, rfl⟩))
    · skip
      refine V_bipush (v := (-11)) (pc := 20) dX10_build_20 (by decide) ?_
      exact V_iret (pc := 22) dX10_build_22 (Nat.le_of_ble_eq_true rfl) (Nat.le_of_ble_eq_true rfl) (hB _ _ (by exact Or.inr (Or.inl ⟨hi2, h17, rfl, rfl⟩)))
  · skip
    refine V_astore_nN (L2 := [(0, .ref (Z.2.2.2 99)), (1, .int a_)]) (pc := 5) dX10_build_5  rfl (by decide) rfl ?_
    refine V_aload_nN (pc := 6) dX10_build_6 0 rfl rfl ?_
    refine V_ifnonnullN (pc := 7) dX10_build_7 ?_
    refine V_bipush (v := (-2)) (pc := 10) dX10_build_10 (by decide) ?_
    exact V_iret (pc := 12) dX10_build_12 (Nat.le_of_ble_eq_true rfl) (Nat.le_of_ble_eq_true rfl) (hB _ _ (by exact Or.inl ⟨Or.inl hno2, rfl, rfl⟩))
set_option maxHeartbeats 4000000 in
set_option maxRecDepth 100000 in
theorem c_X10_compare (Z : VZ) (S : XS) (a_ : Int32) (hz : zOK S) : Ct XW Z yX10_compare cX10_compare 3 (some .int) 6 0 0 [.ref (Z.2.2.2 99), .int a_] (S) (fun v S' => ((((¬ ((0 ≤ a_ ∧ a_ ≤ 3))) ∨ (¬ (S.1 (10 + a_.toNatClampNeg) = -1) ∧ ¬ (S.1 (20 + a_.toNatClampNeg)) ≤ 24)) ∧ v = some (.int (-1000))) ∨ (((0 ≤ a_ ∧ a_ ≤ 3)) ∧ (S.1 (10 + a_.toNatClampNeg) = -1) ∧ v = some (.int (-1011))) ∨ (((0 ≤ a_ ∧ a_ ≤ 3)) ∧ ¬ (S.1 (10 + a_.toNatClampNeg) = -1) ∧ (S.1 (20 + a_.toNatClampNeg)) ≤ 24 ∧ ∃ A B, leaX ((btL (S.2.2.1 (20 + a_.toNatClampNeg)) (S.1 (20 + a_.toNatClampNeg)).toNatClampNeg)).toInt (S.1 (20 + a_.toNatClampNeg)).toNatClampNeg A B ∧ smQ A ∧ smQ B ∧ v = some (.int (64 - nlzL (iL (szQ A B)) - (lfX ((btL (S.2.2.1 (20 + a_.toNatClampNeg)) (S.1 (20 + a_.toNatClampNeg)).toNatClampNeg)) (S.1 (20 + a_.toNatClampNeg)).toNatClampNeg).2.2.2.2)))) ∧ xCor S S') := by
  refine V_entry (own := RX10) (by decide) rfl (Nat.le_of_ble_eq_true rfl) ?_
  intro B hB
  refine V_sub (L' := [(0, .ref (Z.2.2.2 99)), (1, .int a_)]) [0, 1] rfl ?_
  refine V_aload_n (pc := 0) dX10_compare_0 0 rfl rfl ?_
  refine V_iload_n (pc := 1) dX10_compare_1 1 rfl rfl ?_
  refine V_callV (q0 := 0) (ci := 10) (C := RX10) (T := TX10) (N := 9) (pc := 2) dX10_compare_2 (c_X10_sheetAt Z _ _) kX10_118 rfl rfl rfl rfl (Nat.le_of_ble_eq_true rfl) (by decide) (by decide) (Nat.le_of_ble_eq_true rfl) (Nat.le_of_ble_eq_true rfl) (fun v2 S2 hp2 => ?_)
  refine V_widen (n' := 0) (k' := 0) (Nat.le_refl _) (Nat.le_refl _) ?_
  obtain ⟨rfl, ⟨hv2, hs2, hi2, rfl⟩ | ⟨hno2, rfl⟩⟩ := hp2
  · skip
    refine V_astore_n (pc := 5) (L2 := [(0, .ref (Z.2.2.2 99)), (1, .int a_)]) dX10_compare_5 rfl (by decide) rfl (fun x2_5 ex2_5 => ?_)
    subst ex2_5
    refine V_aload_n (pc := 6) dX10_compare_6 0 rfl rfl ?_
    refine V_ifnonnull (pc := 7) (tgt := 14) dX10_compare_7 (by decide) ?_
    refine V_aload_n (pc := 14) dX10_compare_14 0 rfl rfl ?_
    refine V_callVi (ci := 8) (C := RX8) (T := TX8) (N := 3) (pc := 15) dX10_compare_15 (c_X8_isMissing Z _ _ (by exact hs2)) kX10_134 (x_sh Z _ (by exact hs2)) rfl rfl rfl (Nat.le_of_ble_eq_true rfl) (by decide) (by decide) (Nat.le_of_ble_eq_true rfl) (Nat.le_of_ble_eq_true rfl) ?_
    refine V_bif_eq (pc := 18) (tgt := 25) dX10_compare_18 (by decide) (fun h18 => ?_) (fun h18 => ?_)
    · skip
      refine V_aload_n (pc := 25) dX10_compare_25 0 rfl rfl ?_
      refine Xg_X10_161 (pc := 26) (v := (S.1 (20 + (a_).toNatClampNeg))) (by exact hs2) rfl dX10_compare_26 ?_
      refine V_bipush (v := 24) (pc := 29) dX10_compare_29 (by decide) ?_
      refine V_icmp_le (pc := 31) (tgt := 38) dX10_compare_31 (by decide) (fun h31 => ?_) (fun h31 => ?_)
      · skip
        refine V_aload_n (pc := 38) dX10_compare_38 1 rfl rfl ?_
        refine Xg_X10_44 (pc := 39) dX10_compare_39 ?_
        refine V_aload_n (pc := 42) dX10_compare_42 0 rfl rfl ?_
        refine V_callVl (ci := 8) (C := RX8) (T := TX8) (N := 3) (pc := 43) dX10_compare_43 (c_X8_bits Z _ _ (by exact hs2) (by exact zOK_le hz hs2)) kX10_140 (x_sh Z _ (by exact hs2)) rfl rfl rfl (Nat.le_of_ble_eq_true rfl) (by decide) (by decide) (Nat.le_of_ble_eq_true rfl) (Nat.le_of_ble_eq_true rfl) ?_
        obtain ⟨l_, hl_, el_⟩ := hz _ hs2
        have ec_ : (S.1 (20 + a_.toNatClampNeg)).toNatClampNeg = l_ := by rw [el_, nI_clamp (by omega)]
        have l24 : l_ ≤ 24 := by
          rw [el_] at h31
          exact (nI_leI (b := 24) (by omega) (by decide)).mp h31
        have hbb := bt_bd (S.2.2.1 (20 + a_.toNatClampNeg)) hl_
        refine V_eql (iL (btL (S.2.2.1 (20 + a_.toNatClampNeg)) l_).toInt) (by rw [ec_]; exact iL_of _) ?_
        refine V_eqS _ (xQ_self S) ?_
        refine V_aload_n (pc := 46) dX10_compare_46 0 rfl rfl ?_
        refine Xg_X10_161 (pc := 47) (v := (nI l_)) (by exact hs2) el_ dX10_compare_47 ?_
        refine V_callV (q0 := 17) (ci := 4) (C := RX4) (T := TX4) (N := 6) (pc := 50) dX10_compare_50 (c_X4_find Z _ _ _ _ _ _ _ _ _ (by exact l24) (by exact hbb)) kX10_164 rfl rfl rfl rfl (Nat.le_of_ble_eq_true rfl) (by decide) (by decide) (Nat.le_of_ble_eq_true rfl) (Nat.le_of_ble_eq_true rfl) (fun v50 S50 hp50 => ?_)
        obtain ⟨rfl, A_, B_, p1, q1, r1, s1, rfl, hlea, hsA, hsB⟩ := hp50
        refine V_aload_n (pc := 53) dX10_compare_53 1 rfl rfl ?_
        refine Xg_X10_51 (pc := 54) dX10_compare_54 ?_
        refine V_aload_n (pc := 57) dX10_compare_57 0 rfl rfl ?_
        refine V_callVl (ci := 8) (C := RX8) (T := TX8) (N := 3) (pc := 58) dX10_compare_58 (c_X8_bits Z _ _ (by exact hs2) (by exact zOK_le (zOK_Q hz _ _ _ _ _ _) hs2)) kX10_140 (x_sh Z _ (by exact hs2)) rfl rfl rfl (Nat.le_of_ble_eq_true rfl) (by decide) (by decide) (Nat.le_of_ble_eq_true rfl) (Nat.le_of_ble_eq_true rfl) ?_
        refine V_eql (btL (S.2.2.1 (20 + a_.toNatClampNeg)) l_) (by rw [← ec_]; rfl) ?_
        refine V_aload_n (pc := 61) dX10_compare_61 0 rfl rfl ?_
        refine Xg_X10_161 (pc := 62) (v := (nI l_)) (by exact hs2) el_ dX10_compare_62 ?_
        refine V_callVv (q0 := 18) (ci := 3) (C := RX3) (T := TX3) (N := 2) (pc := 65) dX10_compare_65 (c_X3_find Z _ _ _) kX10_202 rfl rfl rfl rfl (Nat.le_of_ble_eq_true rfl) (by decide) (by decide) (Nat.le_of_ble_eq_true rfl) (Nat.le_of_ble_eq_true rfl) ?_
        refine V_eqS (xQ (xLw S ((lfX (btL (S.2.2.1 (20 + a_.toNatClampNeg)) l_) l_).2.2.2.2) (us64 (lfX (btL (S.2.2.1 (20 + a_.toNatClampNeg)) l_) l_).1 1)) A_ B_ p1 q1 r1 s1) (by
            rw [nI_clamp (by omega)]
            refine Prod.ext rfl (Prod.ext (funext fun j => ?_) rfl)
            simp only [xLw, xG, xF, xQ, va_up]
            repeat' split
            all_goals first | rfl | omega) ?_
        refine V_aload_n (pc := 68) dX10_compare_68 1 rfl rfl ?_
        refine Xg_X10_44 (pc := 69) dX10_compare_69 ?_
        refine V_callVl (q0 := 17) (ci := 4) (C := RX4) (T := TX4) (N := 6) (pc := 72) dX10_compare_72 (c_X4_greater Z _ _ _ _ _ _ _ (by exact hsA) (by exact hsB)) kX10_174 rfl rfl rfl rfl (Nat.le_of_ble_eq_true rfl) (by decide) (by decide) (Nat.le_of_ble_eq_true rfl) (Nat.le_of_ble_eq_true rfl) ?_
        refine V_callSi (pc := 75) dX10_compare_75 (c_X10_binaryDigits Z _ _) kX10_177 rfl (Nat.le_of_ble_eq_true rfl) (by decide) (by decide) (Nat.le_of_ble_eq_true rfl) (Nat.le_of_ble_eq_true rfl) ?_
        refine V_aload_n (pc := 78) dX10_compare_78 1 rfl rfl ?_
        refine Xg_X10_51 (pc := 79) dX10_compare_79 ?_
        refine Xg_X10_203 (pc := 82) (v := ((lfX (btL (S.2.2.1 (20 + a_.toNatClampNeg)) l_) l_).2.2.2.2)) rfl dX10_compare_82 ?_
        refine V_isub (pc := 85) dX10_compare_85 ?_
        exact V_iret (pc := 86) dX10_compare_86 (Nat.le_of_ble_eq_true rfl) (Nat.le_of_ble_eq_true rfl) (hB _ _ (by rw [ec_]; exact ⟨Or.inr (Or.inr ⟨hi2, h18, h31, A_, B_, hlea, hsA, hsB, rfl⟩), xCor_tr (xCor_lw S _ _) (xCor_Q _ _ _ _ _ _ _)⟩))
      · skip
        refine V_sipush (v := (-1000)) (pc := 34) dX10_compare_34 (by decide) ?_
        exact V_iret (pc := 37) dX10_compare_37 (Nat.le_of_ble_eq_true rfl) (Nat.le_of_ble_eq_true rfl) (hB _ _ (by exact ⟨Or.inl ⟨Or.inr ⟨h18, h31⟩, rfl⟩, xCor_rfl _⟩))
    · skip
      refine V_sipush (v := (-1011)) (pc := 21) dX10_compare_21 (by decide) ?_
      exact V_iret (pc := 24) dX10_compare_24 (Nat.le_of_ble_eq_true rfl) (Nat.le_of_ble_eq_true rfl) (hB _ _ (by exact ⟨Or.inr (Or.inl ⟨hi2, h18, rfl⟩), xCor_rfl _⟩))
  · skip
    refine V_astore_nN (L2 := [(0, .ref (Z.2.2.2 99)), (1, .int a_)]) (pc := 5) dX10_compare_5  rfl (by decide) rfl ?_
    refine V_aload_nN (pc := 6) dX10_compare_6 0 rfl rfl ?_
    refine V_ifnonnullN (pc := 7) dX10_compare_7 ?_
    refine V_sipush (v := (-1000)) (pc := 10) dX10_compare_10 (by decide) ?_
    exact V_iret (pc := 13) dX10_compare_13 (Nat.le_of_ble_eq_true rfl) (Nat.le_of_ble_eq_true rfl) (hB _ _ (by exact ⟨Or.inl ⟨Or.inl hno2, rfl⟩, xCor_rfl _⟩))
/-- what stands above the line of the fraction that a machine tells -/
def tdA (g : Nat → Int32) : Int64 := awX (g 1) (g 2) (g 3) (g 1).toNatClampNeg - Int32.toInt64 (g 4) <<< (Int32.toInt64 (g 1) &&& 63)
def tdB (g : Nat → Int32) : Int32 := lnkX (g 1) (g 2) (g 1).toNatClampNeg
def tdOK (g : Nat → Int32) : Prop := (tdA g).toInt.natAbs < 2 ^ 62 ∧ ∃ b : Nat, tdB g = nI b ∧ 0 < b ∧ b < 1000000
set_option maxHeartbeats 4000000 in
set_option maxRecDepth 100000 in
theorem c_X10_told (Z : VZ) (S : XS) (m_ : Int32) (w_ : Int32) (hx : xOK S) (hok : (0 ≤ m_ ∧ m_ < S.1 1) → tdOK (mfo S (xAd S m_))) : CtF XW Z yX10_told cX10_told 6 (some .long) 2 0 0 [.ref (Z.2.2.2 99), .int m_, .int w_] (S) (some (.long (if ((0 ≤ m_ ∧ m_ < S.1 1) ∧ (0 ≤ w_ ∧ w_ ≤ 1) ∧ mfo S (xAd S m_) 0 = 0) then ltX (tdA (mfo S (xAd S m_))) (tdB (mfo S (xAd S m_))).toNatClampNeg w_ else -9223372036854775808))) (S) := by
  refine V_entry (own := RX10) (by decide) rfl (Nat.le_of_ble_eq_true rfl) ?_
  intro B hB
  refine V_sub (L' := [(0, .ref (Z.2.2.2 99)), (1, .int m_), (2, .int w_)]) [0, 1, 2] rfl ?_
  refine V_aload_n (pc := 0) dX10_told_0 0 rfl rfl ?_
  refine V_iload_n (pc := 1) dX10_told_1 1 rfl rfl ?_
  refine V_callV (q0 := 0) (ci := 10) (C := RX10) (T := TX10) (N := 9) (pc := 2) dX10_told_2 (c_X10_machineAt Z _ _ (by exact hx)) kX10_76 rfl rfl rfl rfl (Nat.le_of_ble_eq_true rfl) (by decide) (by decide) (Nat.le_of_ble_eq_true rfl) (Nat.le_of_ble_eq_true rfl) (fun v2 S2 hp2 => ?_)
  refine V_widen (n' := 0) (k' := 0) (Nat.le_refl _) (Nat.le_refl _) ?_
  obtain ⟨rfl, ⟨ma_, hvma_, hima_, hMma_, hama_, hmma_, rfl⟩ | ⟨hno2, rfl⟩⟩ := hp2
  · skip
    refine V_astore_n (pc := 5) (L2 := [(0, .ref (Z.2.2.2 99)), (1, .int m_), (2, .int w_)]) dX10_told_5 rfl (by decide) rfl (fun x3_5 ex3_5 => ?_)
    subst ex3_5
    refine V_aload_n (pc := 6) dX10_told_6 0 rfl rfl ?_
    refine V_ifnull (pc := 7) dX10_told_7 ?_
    refine V_iload_n (pc := 10) dX10_told_10 3 rfl rfl ?_
    refine V_iconst (v := 0) (pc := 11) dX10_told_11 (by decide) ?_
    refine V_iconst (v := 1) (pc := 12) dX10_told_12 (by decide) ?_
    refine V_callSi (pc := 13) dX10_told_13 (c_X10_between Z _ _ _ _) kX10_60 rfl (Nat.le_of_ble_eq_true rfl) (by decide) (by decide) (Nat.le_of_ble_eq_true rfl) (Nat.le_of_ble_eq_true rfl) ?_
    refine V_bif_eq (pc := 16) (tgt := 26) dX10_told_16 (by decide) (fun h16 => ?_) (fun h16 => ?_)
    · skip
      refine V_ldc2 (pc := 26) dX10_told_26 tw_449 ?_
      exact V_lret (pc := 29) dX10_told_29 (Nat.le_of_ble_eq_true rfl) (Nat.le_of_ble_eq_true rfl) (hB _ _ ⟨congrArg (fun z => some (Value.long z)) (by exact (if_neg (fun h => h16 h.2.1)).symm), by rfl⟩)
    · skip
      refine V_aload_n (pc := 19) dX10_told_19 0 rfl rfl ?_
      refine Xmg_kind (pc := 20) (v := (mfo S ma_ 0)) (by exact hama_) (by exact hmma_) rfl dX10_told_20 tw_198 (Or.inl rfl) ?_
      refine V_if_eq (pc := 23) (tgt := 30) dX10_told_23 (by decide) (fun h23 => ?_) (fun h23 => ?_)
      · skip
        obtain ⟨k1, b_, k2, k3, k4⟩ := hok hima_
        rw [xAd_eq hMma_] at k1 k2
        refine V_aload_n (pc := 30) dX10_told_30 0 rfl rfl ?_
        refine Xmg_cells (pc := 31) (v := (mfo S ma_ 1)) (by exact hama_) (by exact hmma_) rfl dX10_told_31 tw_202 (Or.inl rfl) ?_
        refine V_aload_n (pc := 34) dX10_told_34 0 rfl rfl ?_
        refine Xmg_taps (pc := 35) (v := (mfo S ma_ 2)) (by exact hama_) (by exact hmma_) rfl dX10_told_35 tw_206 (Or.inl rfl) ?_
        refine V_aload_n (pc := 38) dX10_told_38 0 rfl rfl ?_
        refine Xmg_state (pc := 39) (v := (mfo S ma_ 3)) (by exact hama_) (by exact hmma_) rfl dX10_told_39 tw_210 (Or.inl rfl) ?_
        refine V_callSl (pc := 42) dX10_told_42 (c_X10_aboveWithoutCarry Z _ _ _ _) kX10_181 rfl (Nat.le_of_ble_eq_true rfl) (by decide) (by decide) (Nat.le_of_ble_eq_true rfl) (Nat.le_of_ble_eq_true rfl) ?_
        refine V_aload_n (pc := 45) dX10_told_45 0 rfl rfl ?_
        refine Xmg_carry (pc := 46) (v := (mfo S ma_ 4)) (by exact hama_) (by exact hmma_) rfl dX10_told_46 tw_218 (Or.inl rfl) ?_
        refine V_i2l (pc := 49) dX10_told_49 rfl ?_
        refine V_aload_n (pc := 50) dX10_told_50 0 rfl rfl ?_
        refine Xmg_cells (pc := 51) (v := (mfo S ma_ 1)) (by exact hama_) (by exact hmma_) rfl dX10_told_51 tw_202 (Or.inl rfl) ?_
        refine V_lshl (pc := 54) dX10_told_54 rfl ?_
        refine V_lsub (pc := 55) dX10_told_55 ?_
        refine V_lstore (pc := 56) (L2 := [(3, .ref (ma_)), (0, .ref (Z.2.2.2 99)), (1, .int m_), (2, .int w_)]) dX10_told_56 (by decide) rfl (fun x4_56 ex4_56 => ?_)
        subst ex4_56
        refine V_lload (pc := 58) dX10_told_58 0 rfl ?_
        refine V_aload_n (pc := 60) dX10_told_60 1 rfl rfl ?_
        refine Xv_links (pc := 61) (by exact hama_) (by exact hmma_) dX10_told_61 (Nat.le_of_ble_eq_true rfl) (by decide) (Nat.le_of_ble_eq_true rfl) (Nat.le_of_ble_eq_true rfl) ?_
        refine V_i2l (pc := 64) dX10_told_64 rfl ?_
        refine V_eql (lN b_) (by rw [show lnkX (mfo S ma_ 1) (mfo S ma_ 2) (mfo S ma_ 1).toNatClampNeg = nI b_ from k2, nI_l (by omega)]) ?_
        refine V_iload_n (pc := 65) dX10_told_65 4 rfl rfl ?_
        refine V_callSl (pc := 66) dX10_told_66 (c_X10_inLowestTerms Z _ _ _ _ (by exact k1) (by exact ⟨k3, k4⟩)) kX10_185 rfl (Nat.le_of_ble_eq_true rfl) (by decide) (by decide) (Nat.le_of_ble_eq_true rfl) (Nat.le_of_ble_eq_true rfl) ?_
        exact V_lret (pc := 69) dX10_told_69 (Nat.le_of_ble_eq_true rfl) (Nat.le_of_ble_eq_true rfl) (hB _ _ ⟨congrArg (fun z => some (Value.long z)) (by rw [if_pos (by rw [xAd_eq hMma_]; exact ⟨hima_, h16, h23⟩), xAd_eq hMma_, k2, nI_clamp (by omega)]; rfl), by rfl⟩)
      · skip
        refine V_ldc2 (pc := 26) dX10_told_26 tw_449 ?_
        exact V_lret (pc := 29) dX10_told_29 (Nat.le_of_ble_eq_true rfl) (Nat.le_of_ble_eq_true rfl) (hB _ _ ⟨congrArg (fun z => some (Value.long z)) (by rw [if_neg]; intro h; rw [xAd_eq hMma_] at h; exact h23 h.2.2), by rfl⟩)
  · skip
    refine V_astore_nN (L2 := [(0, .ref (Z.2.2.2 99)), (1, .int m_), (2, .int w_)]) (pc := 5) dX10_told_5  rfl (by decide) rfl ?_
    refine V_aload_nN (pc := 6) dX10_told_6 0 rfl rfl ?_
    refine V_ifnullN (pc := 7) (tgt := 26) dX10_told_7 (by decide) ?_
    refine V_ldc2 (pc := 26) dX10_told_26 tw_449 ?_
    exact V_lret (pc := 29) dX10_told_29 (Nat.le_of_ble_eq_true rfl) (Nat.le_of_ble_eq_true rfl) (hB _ _ ⟨congrArg (fun z => some (Value.long z)) (by exact (if_neg (fun h => hno2 h.1)).symm), by rfl⟩)
