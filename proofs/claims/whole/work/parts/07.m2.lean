/-- steps 0 .. n-1, one behind the other -/
def it {σ : Type} (f : Nat → σ → σ) : Nat → σ → σ
  | 0, s => s
  | n + 1, s => f n (it f n s)
theorem jlt {b : Int32} {j : Nat} (h : ¬ b ≤ nI j) (hj : j < 2 ^ 31) : j < b.toNatClampNeg := by
  have h1 := nI_toInt hj
  simp only [Int32.le_iff_toInt_le, h1] at h
  have : b.toNatClampNeg = b.toInt.toNat := rfl
  omega
theorem jge {b : Int32} {j : Nat} (h : b ≤ nI j) (hj : j < 2 ^ 31) : b.toNatClampNeg ≤ j := by
  have h1 := nI_toInt hj
  simp only [Int32.le_iff_toInt_le, h1] at h
  have : b.toNatClampNeg = b.toInt.toNat := rfl
  omega
theorem clampLt (b : Int32) : b.toNatClampNeg < 2 ^ 31 := by
  have : b.toNatClampNeg = b.toInt.toNat := rfl
  have := Int32.toInt_lt b
  omega
theorem inOf {m : Int32} {n N : Nat} (hn : n ≤ N) (hN : N < 2 ^ 30) (h : 0 ≤ m ∧ m ≤ nI n - 1) : vp_in m N := by
  rw [vp_in_iff]
  have h1 := nI_toInt (n := n) (by omega)
  have h2 : (nI n - 1).toInt = (n : Int) - 1 := pk_sub_toInt (a := n) (b := 1) (by omega) (by omega)
  have a := Int32.le_iff_toInt_le.mp h.1
  have b := Int32.le_iff_toInt_le.mp h.2
  rw [h2] at b
  have : (0 : Int32).toInt = 0 := rfl
  omega
/-- what is in thought: KIND, CELLS, TAPS, STATE, CARRY -/
def mTh (S : MS) (k c t s y : Int32) : MS := (fun j => if j = 6 then k else if j = 7 then c else if j = 8 then t else if j = 9 then s else if j = 10 then y else S.1 j, S.2)
def bts (v : Int32) : Int32 := it (fun i a => a + (v >>> (nI i &&& 31) &&& 1)) 6 0
def mSum (k t s y : Int32) : Int32 := if k = 1 then bts (s &&& t) else if k = 2 then bts (s &&& t) + 1 else if k = 3 then y - bts (s &&& t) else bts (s &&& t) + y
def rgA (c t s y : Int32) (i : Nat) : Int32 := ((if ¬ c ≤ nI i + 1 ∧ s >>> ((nI i + 1) &&& 31) &&& 1 = 1 then 1 else 0) + (y >>> (nI i &&& 31) &&& 1)) + (if t >>> (nI i &&& 31) &&& 1 = 1 then s &&& 1 else 0)
def rgN (c t s y : Int32) : Int32 := it (fun i a => a ||| (rgA c t s y i - rgA c t s y i / 2 * 2) <<< (nI i &&& 31)) c.toNatClampNeg 0
def rgM (c t s y : Int32) : Int32 := it (fun i a => a ||| (rgA c t s y i / 2) <<< (nI i &&& 31)) c.toNatClampNeg 0
def stS (k c t s y : Int32) : Int32 := if k = 5 then rgN c t s y else s >>> (1 &&& 31) ||| (mSum k t s y &&& 1) <<< ((c - 1) &&& 31)
def stY (k c t s y : Int32) : Int32 := if k = 5 then rgM c t s y else if k = 4 then (if mSum k t s y >>> (1 &&& 31) < 1 then mSum k t s y >>> (1 &&& 31) else 1) else if k = 0 ∨ k = 3 then mSum k t s y >>> (1 &&& 31) else y
/-- behind n steps -/
def rn (k c t : Int32) (n : Nat) (q : Int32 × Int32) : Int32 × Int32 := it (fun _ q => (stS k c t q.1 q.2, stY k c t q.1 q.2)) n q
theorem mTh9 (S : MS) (k c t s y x : Int32) : (va_up (mTh S k c t s y).1 9 x, (mTh S k c t s y).2) = mTh S k c t x y := by
  refine Prod.ext (funext fun j => ?_) rfl
  simp only [mTh, va_up]
  repeat' split
  all_goals first | rfl | omega
theorem mTh10 (S : MS) (k c t s y x : Int32) : (va_up (mTh S k c t s y).1 10 x, (mTh S k c t s y).2) = mTh S k c t s x := by
  refine Prod.ext (funext fun j => ?_) rfl
  simp only [mTh, va_up]
  repeat' split
  all_goals first | rfl | omega
theorem mTh6 (S : MS) (k c t s y x : Int32) : (va_up (mTh S k c t s y).1 6 x, (mTh S k c t s y).2) = mTh S x c t s y := by
  refine Prod.ext (funext fun j => ?_) rfl
  simp only [mTh, va_up]
  repeat' split
  all_goals first | rfl | omega
theorem mThF (S : MS) (k c t s y : Int32) : (va_up (va_up (va_up (va_up (va_up S.1 6 k) 7 c) 8 t) 9 s) 10 y, S.2) = mTh S k c t s y := by
  refine Prod.ext (funext fun j => ?_) rfl
  simp only [mTh, va_up]
  repeat' split
  all_goals first | rfl | omega
set_option maxHeartbeats 4000000 in
set_option maxRecDepth 100000 in
theorem cM_thinks (Z : VZ) (S : MS) (a : Int32) (ha : vp_in a 4) : CtF MW Z yX11_thinks cX11_thinks 2 none 0 0 0 [.ref (Z.2.2.2 99), .int a] (S) none (mTh S (S.2.2 1 a.toNatClampNeg) (S.2.2 2 a.toNatClampNeg) (S.2.2 3 a.toNatClampNeg) (S.2.2 4 a.toNatClampNeg) (S.2.2 5 a.toNatClampNeg)) := by
  refine V_entry (own := RX11) (by decide) rfl (Nat.le_of_ble_eq_true rfl) ?_
  intro B hB
  refine V_sub (L' := [(0, .ref (Z.2.2.2 99)), (1, .int a)]) [0, 1] rfl ?_
  refine V_aload_n (pc := 0) dX11_thinks_0 0 rfl rfl ?_
  refine V_aload_n (pc := 1) dX11_thinks_1 0 rfl rfl ?_
  refine Mg_kinds (pc := 2) dX11_thinks_2 ?_
  refine V_iload_n (pc := 5) dX11_thinks_5 1 rfl rfl ?_
  refine Ml_kinds (pc := 6) dX11_thinks_6 (by first | assumption | decide) ?_
  refine Mp_kind (pc := 7) dX11_thinks_7 ?_
  refine V_aload_n (pc := 10) dX11_thinks_10 0 rfl rfl ?_
  refine V_aload_n (pc := 11) dX11_thinks_11 0 rfl rfl ?_
  refine Mg_cells (pc := 12) dX11_thinks_12 ?_
  refine V_iload_n (pc := 15) dX11_thinks_15 1 rfl rfl ?_
  refine Ml_cells (pc := 16) dX11_thinks_16 (by first | assumption | decide) ?_
  refine Mp_size (pc := 17) dX11_thinks_17 ?_
  refine V_aload_n (pc := 20) dX11_thinks_20 0 rfl rfl ?_
  refine V_aload_n (pc := 21) dX11_thinks_21 0 rfl rfl ?_
  refine Mg_taps (pc := 22) dX11_thinks_22 ?_
  refine V_iload_n (pc := 25) dX11_thinks_25 1 rfl rfl ?_
  refine Ml_taps (pc := 26) dX11_thinks_26 (by first | assumption | decide) ?_
  refine Mp_tapped (pc := 27) dX11_thinks_27 ?_
  refine V_aload_n (pc := 30) dX11_thinks_30 0 rfl rfl ?_
  refine V_aload_n (pc := 31) dX11_thinks_31 0 rfl rfl ?_
  refine Mg_states (pc := 32) dX11_thinks_32 ?_
  refine V_iload_n (pc := 35) dX11_thinks_35 1 rfl rfl ?_
  refine Ml_states (pc := 36) dX11_thinks_36 (by first | assumption | decide) ?_
  refine Mp_state (pc := 37) dX11_thinks_37 ?_
  refine V_aload_n (pc := 40) dX11_thinks_40 0 rfl rfl ?_
  refine V_aload_n (pc := 41) dX11_thinks_41 0 rfl rfl ?_
  refine Mg_carries (pc := 42) dX11_thinks_42 ?_
  refine V_iload_n (pc := 45) dX11_thinks_45 1 rfl rfl ?_
  refine Ml_carries (pc := 46) dX11_thinks_46 (by first | assumption | decide) ?_
  refine Mp_carry (pc := 47) dX11_thinks_47 ?_
  exact V_vret (pc := 50) dX11_thinks_50 (Nat.le_of_ble_eq_true rfl) (Nat.le_of_ble_eq_true rfl) (hB _ _ ⟨rfl, by exact mThF S _ _ _ _ _⟩)
set_option maxHeartbeats 4000000 in
set_option maxRecDepth 100000 in
theorem cM_bitsOf (Z : VZ) (S : MS) (a : Int32) : CtF MW Z yX11_bitsOf cX11_bitsOf 3 (some .int) 0 0 0 [.int a] (S) (some (.int (bts a))) (S) := by
  refine V_entry (own := RX11) (by decide) rfl (Nat.le_of_ble_eq_true rfl) ?_
  intro B hB
  refine V_sub (L' := [(0, .int a)]) [0] rfl ?_
  refine V_iconst (v := 0) (pc := 0) dX11_bitsOf_0 (by decide) ?_
  refine V_istore_n (pc := 1) (L2 := [(0, .int a)]) dX11_bitsOf_1 rfl (by decide) rfl (fun x1_1 ex1_1 => ?_)
  subst ex1_1
  refine V_iconst (v := 0) (pc := 2) dX11_bitsOf_2 (by decide) ?_
  refine V_istore_n (pc := 3) (L2 := [(1, .int 0), (0, .int a)]) dX11_bitsOf_3 rfl (by decide) rfl (fun x2_3 ex2_3 => ?_)
  subst ex2_3
  refine V_sub (L' := [(2, .int (nI 0)), (1, .int 0), (0, .int a)]) [0, 1, 2] rfl ?_
  refine Vloop (σ := Nat × Int32) (fun x => (x.1) ≤ 6 ∧ (x.2) = it (fun i a0 => a0 + (a >>> (nI i &&& 31) &&& 1)) (x.1) 0) (fun x => 6 - (x.1)) (fun x => V MW Z cX11_bitsOf RX11 3 (some .int) 0 0 0 B 0 0 4 [(2, .int (nI (x.1))), (1, .int (x.2)), (0, .int a)] [] (S)) ?_ (0, 0) (by exact ⟨by decide, rfl⟩)
  rintro ⟨j, u⟩ hI4 ih4
  have hI4 : j ≤ 6 ∧ u = it (fun i a0 => a0 + (a >>> (nI i &&& 31) &&& 1)) j 0 := hI4
  show V MW Z cX11_bitsOf RX11 3 (some .int) 0 0 0 B 0 0 4 [(2, .int (nI j)), (1, .int u), (0, .int a)] [] (S)
  refine V_iload_n (pc := 4) dX11_bitsOf_4 0 rfl rfl ?_
  refine V_bipush (v := 6) (pc := 5) dX11_bitsOf_5 (by decide) ?_
  refine V_icmp_ge (pc := 7) (tgt := 24) dX11_bitsOf_7 (by decide) (fun h7 => ?_) (fun h7 => ?_)
  · skip
    have hj : 6 ≤ j := jge h7 (by omega)
    have e6 : j = 6 := by omega
    subst e6
    refine V_iload_n (pc := 24) dX11_bitsOf_24 1 rfl rfl ?_
    exact V_iret (pc := 25) dX11_bitsOf_25 (Nat.le_of_ble_eq_true rfl) (Nat.le_of_ble_eq_true rfl) (hB _ _ ⟨congrArg (fun z => some (Value.int z)) (by exact hI4.2), by rfl⟩)
  · skip
    have hj : j < 6 := jlt h7 (by omega)
    refine V_iload_n (pc := 10) dX11_bitsOf_10 1 rfl rfl ?_
    refine V_iload_n (pc := 11) dX11_bitsOf_11 2 rfl rfl ?_
    refine V_iload_n (pc := 12) dX11_bitsOf_12 0 rfl rfl ?_
    refine V_ishr (pc := 13) dX11_bitsOf_13 ?_
    refine V_iconst (v := 1) (pc := 14) dX11_bitsOf_14 (by decide) ?_
    refine V_iand (pc := 15) dX11_bitsOf_15 ?_
    refine V_iadd (pc := 16) dX11_bitsOf_16 ?_
    refine V_istore_n (pc := 17) (L2 := [(2, .int (nI j)), (0, .int a)]) dX11_bitsOf_17 rfl (by decide) rfl (fun x1_17 ex1_17 => ?_)
    subst ex1_17
    refine V_iinc (pc := 18) (v := 1) (L2 := [(1, .int (u + ((a >>> ((nI j) &&& 31)) &&& 1))), (0, .int a)]) dX11_bitsOf_18 1 rfl (by decide) (by decide) rfl (fun x2_18 ex2_18 => ?_)
    rw [nI_1] at ex2_18
    subst ex2_18
    refine V_goto (pc := 21) (tgt := 4) dX11_bitsOf_21 (by decide) ?_
    refine V_sub (L' := [(2, .int (nI (j + 1))), (1, .int (u + ((a >>> ((nI j) &&& 31)) &&& 1))), (0, .int a)]) [0, 1, 2] rfl ?_
    refine ih4 (((j + 1)), _) ?_ ?_
    · show ((j + 1)) ≤ 6 ∧ ((u + ((a >>> ((nI j) &&& 31)) &&& 1))) = it (fun i a0 => a0 + (a >>> (nI i &&& 31) &&& 1)) ((j + 1)) 0
      exact ⟨hj, by rw [hI4.2]; rfl⟩
    · show 6 - (j + 1) < 6 - j
      omega
set_option maxHeartbeats 4000000 in
set_option maxRecDepth 100000 in
theorem cM_sum (Z : VZ) (S : MS) (k c t s y : Int32) : CtF MW Z yX11_sum cX11_sum 2 (some .int) 1 0 0 [.ref (Z.2.2.2 99)] (mTh S k c t s y) (some (.int (mSum k t s y))) (mTh S k c t s y) := by
  refine V_entry (own := RX11) (by decide) rfl (Nat.le_of_ble_eq_true rfl) ?_
  intro B hB
  refine V_sub (L' := [(0, .ref (Z.2.2.2 99))]) [0] rfl ?_
  refine V_aload_n (pc := 0) dX11_sum_0 0 rfl rfl ?_
  refine Mg_state (pc := 1) (v := s) rfl dX11_sum_1 ?_
  refine V_aload_n (pc := 4) dX11_sum_4 0 rfl rfl ?_
  refine Mg_tapped (pc := 5) (v := t) rfl dX11_sum_5 ?_
  refine V_iand (pc := 8) dX11_sum_8 ?_
  refine McSi (pc := 9) dX11_sum_9 (cM_bitsOf Z _ _) kM_124 rfl (Nat.le_of_ble_eq_true rfl) (by decide) (by decide) ?_
  refine V_istore_n (pc := 12) (L2 := [(0, .ref (Z.2.2.2 99))]) dX11_sum_12 rfl (by decide) rfl (fun x1_12 ex1_12 => ?_)
  refine V_aload_n (pc := 13) dX11_sum_13 1 rfl rfl ?_
  refine Mg_kind (pc := 14) (v := k) rfl dX11_sum_14 ?_
  by_cases h17_1 : k = 1
  · refine V_eqi 1 h17_1 ?_
    refine V_tableIn (pc := 17) (tgt := 44) dX11_sum_17 (by decide) (by decide) rfl (by decide) ?_
    refine V_iload_n (pc := 44) dX11_sum_44 0 rfl rfl ?_
    exact V_iret (pc := 45) dX11_sum_45 (Nat.le_of_ble_eq_true rfl) (Nat.le_of_ble_eq_true rfl) (hB _ _ ⟨congrArg (fun z => some (Value.int z)) (by simp [mSum, *]), by rfl⟩)
  by_cases h17_2 : k = 2
  · refine V_eqi 2 h17_2 ?_
    refine V_tableIn (pc := 17) (tgt := 46) dX11_sum_17 (by decide) (by decide) rfl (by decide) ?_
    refine V_iload_n (pc := 46) dX11_sum_46 0 rfl rfl ?_
    refine V_iconst (v := 1) (pc := 47) dX11_sum_47 (by decide) ?_
    refine V_iadd (pc := 48) dX11_sum_48 ?_
    exact V_iret (pc := 49) dX11_sum_49 (Nat.le_of_ble_eq_true rfl) (Nat.le_of_ble_eq_true rfl) (hB _ _ ⟨congrArg (fun z => some (Value.int z)) (by simp [mSum, *]), by rfl⟩)
  by_cases h17_3 : k = 3
  · refine V_eqi 3 h17_3 ?_
    refine V_tableIn (pc := 17) (tgt := 50) dX11_sum_17 (by decide) (by decide) rfl (by decide) ?_
    refine V_aload_n (pc := 50) dX11_sum_50 1 rfl rfl ?_
    refine Mg_carry (pc := 51) (v := y) rfl dX11_sum_51 ?_
    refine V_iload_n (pc := 54) dX11_sum_54 0 rfl rfl ?_
    refine V_isub (pc := 55) dX11_sum_55 ?_
    exact V_iret (pc := 56) dX11_sum_56 (Nat.le_of_ble_eq_true rfl) (Nat.le_of_ble_eq_true rfl) (hB _ _ ⟨congrArg (fun z => some (Value.int z)) (by simp [mSum, *]), by rfl⟩)
  refine V_tableOut (pc := 17) (tgt := 57) dX11_sum_17 (by have a0 := lv_neT h17_1 (a := 1) rfl; have a1 := lv_neT h17_2 (a := 2) rfl; have a2 := lv_neT h17_3 (a := 3) rfl; omega) (by decide) ?_
  refine V_iload_n (pc := 57) dX11_sum_57 0 rfl rfl ?_
  refine V_aload_n (pc := 58) dX11_sum_58 1 rfl rfl ?_
  refine Mg_carry (pc := 59) (v := y) rfl dX11_sum_59 ?_
  refine V_iadd (pc := 62) dX11_sum_62 ?_
  exact V_iret (pc := 63) dX11_sum_63 (Nat.le_of_ble_eq_true rfl) (Nat.le_of_ble_eq_true rfl) (hB _ _ ⟨congrArg (fun z => some (Value.int z)) (by simp [mSum, *]), by rfl⟩)
set_option maxHeartbeats 4000000 in
set_option maxRecDepth 100000 in
theorem cM_goesRound (Z : VZ) (S : MS) (k c t s y : Int32) : CtF MW Z yX11_goesRound cX11_goesRound 6 (some .int) 1 0 0 [.ref (Z.2.2.2 99)] (mTh S k c t s y) (some (.int (s &&& 1))) (mTh S k c t (rgN c t s y) (rgM c t s y)) := by
  refine V_entry (own := RX11) (by decide) rfl (Nat.le_of_ble_eq_true rfl) ?_
  intro B hB
  refine V_sub (L' := [(0, .ref (Z.2.2.2 99))]) [0] rfl ?_
  refine V_aload_n (pc := 0) dX11_goesRound_0 0 rfl rfl ?_
  refine Mg_state (pc := 1) (v := s) rfl dX11_goesRound_1 ?_
  refine V_iconst (v := 1) (pc := 4) dX11_goesRound_4 (by decide) ?_
  refine V_iand (pc := 5) dX11_goesRound_5 ?_
  refine V_istore_n (pc := 6) (L2 := [(0, .ref (Z.2.2.2 99))]) dX11_goesRound_6 rfl (by decide) rfl (fun x1_6 ex1_6 => ?_)
  subst ex1_6
  refine V_iconst (v := 0) (pc := 7) dX11_goesRound_7 (by decide) ?_
  refine V_istore_n (pc := 8) (L2 := [(1, .int (s &&& 1)), (0, .ref (Z.2.2.2 99))]) dX11_goesRound_8 rfl (by decide) rfl (fun x2_8 ex2_8 => ?_)
  subst ex2_8
  refine V_iconst (v := 0) (pc := 9) dX11_goesRound_9 (by decide) ?_
  refine V_istore_n (pc := 10) (L2 := [(2, .int 0), (1, .int (s &&& 1)), (0, .ref (Z.2.2.2 99))]) dX11_goesRound_10 rfl (by decide) rfl (fun x3_10 ex3_10 => ?_)
  subst ex3_10
  refine V_iconst (v := 0) (pc := 11) dX11_goesRound_11 (by decide) ?_
  refine V_istore (pc := 12) (L2 := [(3, .int 0), (2, .int 0), (1, .int (s &&& 1)), (0, .ref (Z.2.2.2 99))]) dX11_goesRound_12 (by decide) rfl (fun x4_12 ex4_12 => ?_)
  subst ex4_12
  refine V_sub (L' := [(4, .int (nI 0)), (3, .int 0), (2, .int 0), (1, .int (s &&& 1)), (0, .ref (Z.2.2.2 99))]) [0, 1, 2, 3, 4] rfl ?_
  refine Vloop (σ := Nat × Int32 × Int32) (fun x => (x.1) ≤ c.toNatClampNeg ∧ (x.2.2) = it (fun i a => a ||| (rgA c t s y i - rgA c t s y i / 2 * 2) <<< (nI i &&& 31)) (x.1) 0 ∧ (x.2.1) = it (fun i a => a ||| (rgA c t s y i / 2) <<< (nI i &&& 31)) (x.1) 0) (fun x => c.toNatClampNeg - (x.1)) (fun x => V MW Z cX11_goesRound RX11 6 (some .int) 1 0 0 B 0 0 14 [(4, .int (nI (x.1))), (3, .int (x.2.1)), (2, .int (x.2.2)), (1, .int (s &&& 1)), (0, .ref (Z.2.2.2 99))] [] (mTh S k c t s y)) ?_ (0, 0, 0) (by exact ⟨Nat.zero_le _, rfl, rfl⟩)
  rintro ⟨j, v, u⟩ hI14 ih14
  have hI14 : j ≤ c.toNatClampNeg ∧ u = it (fun i a => a ||| (rgA c t s y i - rgA c t s y i / 2 * 2) <<< (nI i &&& 31)) j 0 ∧ v = it (fun i a => a ||| (rgA c t s y i / 2) <<< (nI i &&& 31)) j 0 := hI14
  show V MW Z cX11_goesRound RX11 6 (some .int) 1 0 0 B 0 0 14 [(4, .int (nI j)), (3, .int v), (2, .int u), (1, .int (s &&& 1)), (0, .ref (Z.2.2.2 99))] [] (mTh S k c t s y)
  refine V_iload (pc := 14) dX11_goesRound_14 0 rfl ?_
  refine V_aload_n (pc := 16) dX11_goesRound_16 4 rfl rfl ?_
  refine Mg_size (pc := 17) (v := c) rfl dX11_goesRound_17 ?_
  refine V_icmp_ge (pc := 20) (tgt := 109) dX11_goesRound_20 (by decide) (fun h20 => ?_) (fun h20 => ?_)
  · skip
    have hj := jge h20 (Nat.lt_of_le_of_lt hI14.1 (clampLt c))
    have ej : j = c.toNatClampNeg := Nat.le_antisymm hI14.1 hj
    refine V_aload_n (pc := 109) dX11_goesRound_109 4 rfl rfl ?_
    refine V_iload_n (pc := 110) dX11_goesRound_110 2 rfl rfl ?_
    refine Mp_state (pc := 111) dX11_goesRound_111 ?_
    refine V_aload_n (pc := 114) dX11_goesRound_114 4 rfl rfl ?_
    refine V_iload_n (pc := 115) dX11_goesRound_115 1 rfl rfl ?_
    refine Mp_carry (pc := 116) dX11_goesRound_116 ?_
    refine V_iload_n (pc := 119) dX11_goesRound_119 3 rfl rfl ?_
    exact V_iret (pc := 120) dX11_goesRound_120 (Nat.le_of_ble_eq_true rfl) (Nat.le_of_ble_eq_true rfl) (hB _ _ ⟨congrArg (fun z => some (Value.int z)) (by first | rfl | assumption | (simp_all; done)), by rw [mTh9, mTh10, hI14.2.1, hI14.2.2, ej]; rfl⟩)
  · skip
    have hj := jlt h20 (Nat.lt_of_le_of_lt hI14.1 (clampLt c))
    refine V_iload (pc := 23) dX11_goesRound_23 0 rfl ?_
    refine V_iconst (v := 1) (pc := 25) dX11_goesRound_25 (by decide) ?_
    refine V_iadd (pc := 26) dX11_goesRound_26 ?_
    refine V_aload_n (pc := 27) dX11_goesRound_27 4 rfl rfl ?_
    refine Mg_size (pc := 28) (v := c) rfl dX11_goesRound_28 ?_
    refine V_icmp_ge (pc := 31) (tgt := 52) dX11_goesRound_31 (by decide) (fun h31 => ?_) (fun h31 => ?_)
    · skip
      refine V_iconst (v := 0) (pc := 52) dX11_goesRound_52 (by decide) ?_
      refine V_aload_n (pc := 53) dX11_goesRound_53 4 rfl rfl ?_
      refine Mg_carry (pc := 54) (v := y) rfl dX11_goesRound_54 ?_
      refine V_iload (pc := 57) dX11_goesRound_57 0 rfl ?_
      refine V_ishr (pc := 59) dX11_goesRound_59 ?_
      refine V_iconst (v := 1) (pc := 60) dX11_goesRound_60 (by decide) ?_
      refine V_iand (pc := 61) dX11_goesRound_61 ?_
      refine V_iadd (pc := 62) dX11_goesRound_62 ?_
      refine V_aload_n (pc := 63) dX11_goesRound_63 4 rfl rfl ?_
      refine Mg_tapped (pc := 64) (v := t) rfl dX11_goesRound_64 ?_
      refine V_iload (pc := 67) dX11_goesRound_67 0 rfl ?_
      refine McSi (pc := 69) dX11_goesRound_69 (cM_has Z _ _ _) kM_96 rfl (Nat.le_of_ble_eq_true rfl) (by decide) (by decide) ?_
      refine V_bif_eq (pc := 72) (tgt := 79) dX11_goesRound_72 (by decide) (fun h72 => ?_) (fun h72 => ?_)
      · skip
        refine V_iconst (v := 0) (pc := 79) dX11_goesRound_79 (by decide) ?_
        refine V_iadd (pc := 80) dX11_goesRound_80 ?_
        refine V_istore (pc := 81) (L2 := [(4, .int (nI j)), (3, .int v), (2, .int u), (1, .int (s &&& 1)), (0, .ref (Z.2.2.2 99))]) dX11_goesRound_81 (by decide) rfl (fun x5_81 ex5_81 => ?_)
        subst ex5_81
        refine V_iload_n (pc := 83) dX11_goesRound_83 3 rfl rfl ?_
        refine V_iload (pc := 84) dX11_goesRound_84 0 rfl ?_
        refine V_iconst (v := 2) (pc := 86) dX11_goesRound_86 (by decide) ?_
        refine V_irem (pc := 87) dX11_goesRound_87 (by first | assumption | decide) ?_
        refine V_iload (pc := 88) dX11_goesRound_88 1 rfl ?_
        refine V_ishl (pc := 90) dX11_goesRound_90 ?_
        refine V_ior (pc := 91) dX11_goesRound_91 ?_
        refine V_istore_n (pc := 92) (L2 := [(5, .int ((0 + ((y >>> ((nI j) &&& 31)) &&& 1)) + 0)), (4, .int (nI j)), (3, .int v), (1, .int (s &&& 1)), (0, .ref (Z.2.2.2 99))]) dX11_goesRound_92 rfl (by decide) rfl (fun x2_92 ex2_92 => ?_)
        subst ex2_92
        refine V_iload_n (pc := 93) dX11_goesRound_93 3 rfl rfl ?_
        refine V_iload (pc := 94) dX11_goesRound_94 1 rfl ?_
        refine V_iconst (v := 2) (pc := 96) dX11_goesRound_96 (by decide) ?_
        refine V_idiv (pc := 97) dX11_goesRound_97 (by first | assumption | decide) ?_
        refine V_iload (pc := 98) dX11_goesRound_98 2 rfl ?_
        refine V_ishl (pc := 100) dX11_goesRound_100 ?_
        refine V_ior (pc := 101) dX11_goesRound_101 ?_
        refine V_istore_n (pc := 102) (L2 := [(2, .int (u ||| ((((0 + ((y >>> ((nI j) &&& 31)) &&& 1)) + 0) - ((0 + ((y >>> ((nI j) &&& 31)) &&& 1)) + 0) / 2 * 2) <<< ((nI j) &&& 31)))), (5, .int ((0 + ((y >>> ((nI j) &&& 31)) &&& 1)) + 0)), (4, .int (nI j)), (1, .int (s &&& 1)), (0, .ref (Z.2.2.2 99))]) dX11_goesRound_102 rfl (by decide) rfl (fun x3_102 ex3_102 => ?_)
        subst ex3_102
        refine V_iinc (pc := 103) (v := 1) (L2 := [(3, .int (v ||| ((((0 + ((y >>> ((nI j) &&& 31)) &&& 1)) + 0) / 2) <<< ((nI j) &&& 31)))), (2, .int (u ||| ((((0 + ((y >>> ((nI j) &&& 31)) &&& 1)) + 0) - ((0 + ((y >>> ((nI j) &&& 31)) &&& 1)) + 0) / 2 * 2) <<< ((nI j) &&& 31)))), (5, .int ((0 + ((y >>> ((nI j) &&& 31)) &&& 1)) + 0)), (1, .int (s &&& 1)), (0, .ref (Z.2.2.2 99))]) dX11_goesRound_103 3 rfl (by decide) (by decide) rfl (fun x4_103 ex4_103 => ?_)
        rw [nI_1] at ex4_103
        subst ex4_103
        refine V_goto (pc := 106) (tgt := 14) dX11_goesRound_106 (by decide) ?_
        refine V_sub (L' := [(4, .int (nI (j + 1))), (3, .int (v ||| ((((0 + ((y >>> ((nI j) &&& 31)) &&& 1)) + 0) / 2) <<< ((nI j) &&& 31)))), (2, .int (u ||| ((((0 + ((y >>> ((nI j) &&& 31)) &&& 1)) + 0) - ((0 + ((y >>> ((nI j) &&& 31)) &&& 1)) + 0) / 2 * 2) <<< ((nI j) &&& 31)))), (1, .int (s &&& 1)), (0, .ref (Z.2.2.2 99))]) [0, 1, 2, 4, 5] rfl ?_
        refine ih14 (((j + 1)), _, _) ?_ ?_
        · show ((j + 1)) ≤ c.toNatClampNeg ∧ ((u ||| ((((0 + ((y >>> ((nI j) &&& 31)) &&& 1)) + 0) - ((0 + ((y >>> ((nI j) &&& 31)) &&& 1)) + 0) / 2 * 2) <<< ((nI j) &&& 31)))) = it (fun i a => a ||| (rgA c t s y i - rgA c t s y i / 2 * 2) <<< (nI i &&& 31)) ((j + 1)) 0 ∧ ((v ||| ((((0 + ((y >>> ((nI j) &&& 31)) &&& 1)) + 0) / 2) <<< ((nI j) &&& 31)))) = it (fun i a => a ||| (rgA c t s y i / 2) <<< (nI i &&& 31)) ((j + 1)) 0
          clear hB ih14
          obtain ⟨a1, a2, a3⟩ := hI14
          refine ⟨hj, ?_, ?_⟩
          · simp [it, rgA, a2, h72, *]
          · simp [it, rgA, a3, h72, *]
        · show c.toNatClampNeg - (j + 1) < c.toNatClampNeg - j
          omega
      · skip
        refine V_iload_n (pc := 75) dX11_goesRound_75 3 rfl rfl ?_
        refine V_goto (pc := 76) (tgt := 80) dX11_goesRound_76 (by decide) ?_
        refine V_iadd (pc := 80) dX11_goesRound_80 ?_
        refine V_istore (pc := 81) (L2 := [(4, .int (nI j)), (3, .int v), (2, .int u), (1, .int (s &&& 1)), (0, .ref (Z.2.2.2 99))]) dX11_goesRound_81 (by decide) rfl (fun x5_81 ex5_81 => ?_)
        subst ex5_81
        refine V_iload_n (pc := 83) dX11_goesRound_83 3 rfl rfl ?_
        refine V_iload (pc := 84) dX11_goesRound_84 0 rfl ?_
        refine V_iconst (v := 2) (pc := 86) dX11_goesRound_86 (by decide) ?_
        refine V_irem (pc := 87) dX11_goesRound_87 (by first | assumption | decide) ?_
        refine V_iload (pc := 88) dX11_goesRound_88 1 rfl ?_
        refine V_ishl (pc := 90) dX11_goesRound_90 ?_
        refine V_ior (pc := 91) dX11_goesRound_91 ?_
        refine V_istore_n (pc := 92) (L2 := [(5, .int ((0 + ((y >>> ((nI j) &&& 31)) &&& 1)) + (s &&& 1))), (4, .int (nI j)), (3, .int v), (1, .int (s &&& 1)), (0, .ref (Z.2.2.2 99))]) dX11_goesRound_92 rfl (by decide) rfl (fun x2_92 ex2_92 => ?_)
        subst ex2_92
        refine V_iload_n (pc := 93) dX11_goesRound_93 3 rfl rfl ?_
        refine V_iload (pc := 94) dX11_goesRound_94 1 rfl ?_
        refine V_iconst (v := 2) (pc := 96) dX11_goesRound_96 (by decide) ?_
        refine V_idiv (pc := 97) dX11_goesRound_97 (by first | assumption | decide) ?_
        refine V_iload (pc := 98) dX11_goesRound_98 2 rfl ?_
        refine V_ishl (pc := 100) dX11_goesRound_100 ?_
        refine V_ior (pc := 101) dX11_goesRound_101 ?_
        refine V_istore_n (pc := 102) (L2 := [(2, .int (u ||| ((((0 + ((y >>> ((nI j) &&& 31)) &&& 1)) + (s &&& 1)) - ((0 + ((y >>> ((nI j) &&& 31)) &&& 1)) + (s &&& 1)) / 2 * 2) <<< ((nI j) &&& 31)))), (5, .int ((0 + ((y >>> ((nI j) &&& 31)) &&& 1)) + (s &&& 1))), (4, .int (nI j)), (1, .int (s &&& 1)), (0, .ref (Z.2.2.2 99))]) dX11_goesRound_102 rfl (by decide) rfl (fun x3_102 ex3_102 => ?_)
        subst ex3_102
        refine V_iinc (pc := 103) (v := 1) (L2 := [(3, .int (v ||| ((((0 + ((y >>> ((nI j) &&& 31)) &&& 1)) + (s &&& 1)) / 2) <<< ((nI j) &&& 31)))), (2, .int (u ||| ((((0 + ((y >>> ((nI j) &&& 31)) &&& 1)) + (s &&& 1)) - ((0 + ((y >>> ((nI j) &&& 31)) &&& 1)) + (s &&& 1)) / 2 * 2) <<< ((nI j) &&& 31)))), (5, .int ((0 + ((y >>> ((nI j) &&& 31)) &&& 1)) + (s &&& 1))), (1, .int (s &&& 1)), (0, .ref (Z.2.2.2 99))]) dX11_goesRound_103 3 rfl (by decide) (by decide) rfl (fun x4_103 ex4_103 => ?_)
        rw [nI_1] at ex4_103
        subst ex4_103
        refine V_goto (pc := 106) (tgt := 14) dX11_goesRound_106 (by decide) ?_
        refine V_sub (L' := [(4, .int (nI (j + 1))), (3, .int (v ||| ((((0 + ((y >>> ((nI j) &&& 31)) &&& 1)) + (s &&& 1)) / 2) <<< ((nI j) &&& 31)))), (2, .int (u ||| ((((0 + ((y >>> ((nI j) &&& 31)) &&& 1)) + (s &&& 1)) - ((0 + ((y >>> ((nI j) &&& 31)) &&& 1)) + (s &&& 1)) / 2 * 2) <<< ((nI j) &&& 31)))), (1, .int (s &&& 1)), (0, .ref (Z.2.2.2 99))]) [0, 1, 2, 4, 5] rfl ?_
        refine ih14 (((j + 1)), _, _) ?_ ?_
        · show ((j + 1)) ≤ c.toNatClampNeg ∧ ((u ||| ((((0 + ((y >>> ((nI j) &&& 31)) &&& 1)) + (s &&& 1)) - ((0 + ((y >>> ((nI j) &&& 31)) &&& 1)) + (s &&& 1)) / 2 * 2) <<< ((nI j) &&& 31)))) = it (fun i a => a ||| (rgA c t s y i - rgA c t s y i / 2 * 2) <<< (nI i &&& 31)) ((j + 1)) 0 ∧ ((v ||| ((((0 + ((y >>> ((nI j) &&& 31)) &&& 1)) + (s &&& 1)) / 2) <<< ((nI j) &&& 31)))) = it (fun i a => a ||| (rgA c t s y i / 2) <<< (nI i &&& 31)) ((j + 1)) 0
          clear hB ih14
          obtain ⟨a1, a2, a3⟩ := hI14
          refine ⟨hj, ?_, ?_⟩
          · simp [it, rgA, a2, h72, *]
          · simp [it, rgA, a3, h72, *]
        · show c.toNatClampNeg - (j + 1) < c.toNatClampNeg - j
          omega
    · skip
      refine V_aload_n (pc := 34) dX11_goesRound_34 4 rfl rfl ?_
      refine Mg_state (pc := 35) (v := s) rfl dX11_goesRound_35 ?_
      refine V_iload (pc := 38) dX11_goesRound_38 0 rfl ?_
      refine V_iconst (v := 1) (pc := 40) dX11_goesRound_40 (by decide) ?_
      refine V_iadd (pc := 41) dX11_goesRound_41 ?_
      refine McSi (pc := 42) dX11_goesRound_42 (cM_has Z _ _ _) kM_96 rfl (Nat.le_of_ble_eq_true rfl) (by decide) (by decide) ?_
      refine V_bif_eq (pc := 45) (tgt := 52) dX11_goesRound_45 (by decide) (fun h45 => ?_) (fun h45 => ?_)
      · skip
        refine V_iconst (v := 0) (pc := 52) dX11_goesRound_52 (by decide) ?_
        refine V_aload_n (pc := 53) dX11_goesRound_53 4 rfl rfl ?_
        refine Mg_carry (pc := 54) (v := y) rfl dX11_goesRound_54 ?_
        refine V_iload (pc := 57) dX11_goesRound_57 0 rfl ?_
        refine V_ishr (pc := 59) dX11_goesRound_59 ?_
        refine V_iconst (v := 1) (pc := 60) dX11_goesRound_60 (by decide) ?_
        refine V_iand (pc := 61) dX11_goesRound_61 ?_
        refine V_iadd (pc := 62) dX11_goesRound_62 ?_
        refine V_aload_n (pc := 63) dX11_goesRound_63 4 rfl rfl ?_
        refine Mg_tapped (pc := 64) (v := t) rfl dX11_goesRound_64 ?_
        refine V_iload (pc := 67) dX11_goesRound_67 0 rfl ?_
        refine McSi (pc := 69) dX11_goesRound_69 (cM_has Z _ _ _) kM_96 rfl (Nat.le_of_ble_eq_true rfl) (by decide) (by decide) ?_
        refine V_bif_eq (pc := 72) (tgt := 79) dX11_goesRound_72 (by decide) (fun h72 => ?_) (fun h72 => ?_)
        · skip
          refine V_iconst (v := 0) (pc := 79) dX11_goesRound_79 (by decide) ?_
          refine V_iadd (pc := 80) dX11_goesRound_80 ?_
          refine V_istore (pc := 81) (L2 := [(4, .int (nI j)), (3, .int v), (2, .int u), (1, .int (s &&& 1)), (0, .ref (Z.2.2.2 99))]) dX11_goesRound_81 (by decide) rfl (fun x5_81 ex5_81 => ?_)
          subst ex5_81
          refine V_iload_n (pc := 83) dX11_goesRound_83 3 rfl rfl ?_
          refine V_iload (pc := 84) dX11_goesRound_84 0 rfl ?_
          refine V_iconst (v := 2) (pc := 86) dX11_goesRound_86 (by decide) ?_
          refine V_irem (pc := 87) dX11_goesRound_87 (by first | assumption | decide) ?_
          refine V_iload (pc := 88) dX11_goesRound_88 1 rfl ?_
          refine V_ishl (pc := 90) dX11_goesRound_90 ?_
          refine V_ior (pc := 91) dX11_goesRound_91 ?_
          refine V_istore_n (pc := 92) (L2 := [(5, .int ((0 + ((y >>> ((nI j) &&& 31)) &&& 1)) + 0)), (4, .int (nI j)), (3, .int v), (1, .int (s &&& 1)), (0, .ref (Z.2.2.2 99))]) dX11_goesRound_92 rfl (by decide) rfl (fun x2_92 ex2_92 => ?_)
          subst ex2_92
          refine V_iload_n (pc := 93) dX11_goesRound_93 3 rfl rfl ?_
          refine V_iload (pc := 94) dX11_goesRound_94 1 rfl ?_
          refine V_iconst (v := 2) (pc := 96) dX11_goesRound_96 (by decide) ?_
          refine V_idiv (pc := 97) dX11_goesRound_97 (by first | assumption | decide) ?_
          refine V_iload (pc := 98) dX11_goesRound_98 2 rfl ?_
          refine V_ishl (pc := 100) dX11_goesRound_100 ?_
          refine V_ior (pc := 101) dX11_goesRound_101 ?_
          refine V_istore_n (pc := 102) (L2 := [(2, .int (u ||| ((((0 + ((y >>> ((nI j) &&& 31)) &&& 1)) + 0) - ((0 + ((y >>> ((nI j) &&& 31)) &&& 1)) + 0) / 2 * 2) <<< ((nI j) &&& 31)))), (5, .int ((0 + ((y >>> ((nI j) &&& 31)) &&& 1)) + 0)), (4, .int (nI j)), (1, .int (s &&& 1)), (0, .ref (Z.2.2.2 99))]) dX11_goesRound_102 rfl (by decide) rfl (fun x3_102 ex3_102 => ?_)
          subst ex3_102
          refine V_iinc (pc := 103) (v := 1) (L2 := [(3, .int (v ||| ((((0 + ((y >>> ((nI j) &&& 31)) &&& 1)) + 0) / 2) <<< ((nI j) &&& 31)))), (2, .int (u ||| ((((0 + ((y >>> ((nI j) &&& 31)) &&& 1)) + 0) - ((0 + ((y >>> ((nI j) &&& 31)) &&& 1)) + 0) / 2 * 2) <<< ((nI j) &&& 31)))), (5, .int ((0 + ((y >>> ((nI j) &&& 31)) &&& 1)) + 0)), (1, .int (s &&& 1)), (0, .ref (Z.2.2.2 99))]) dX11_goesRound_103 3 rfl (by decide) (by decide) rfl (fun x4_103 ex4_103 => ?_)
          rw [nI_1] at ex4_103
          subst ex4_103
          refine V_goto (pc := 106) (tgt := 14) dX11_goesRound_106 (by decide) ?_
          refine V_sub (L' := [(4, .int (nI (j + 1))), (3, .int (v ||| ((((0 + ((y >>> ((nI j) &&& 31)) &&& 1)) + 0) / 2) <<< ((nI j) &&& 31)))), (2, .int (u ||| ((((0 + ((y >>> ((nI j) &&& 31)) &&& 1)) + 0) - ((0 + ((y >>> ((nI j) &&& 31)) &&& 1)) + 0) / 2 * 2) <<< ((nI j) &&& 31)))), (1, .int (s &&& 1)), (0, .ref (Z.2.2.2 99))]) [0, 1, 2, 4, 5] rfl ?_
          refine ih14 (((j + 1)), _, _) ?_ ?_
          · show ((j + 1)) ≤ c.toNatClampNeg ∧ ((u ||| ((((0 + ((y >>> ((nI j) &&& 31)) &&& 1)) + 0) - ((0 + ((y >>> ((nI j) &&& 31)) &&& 1)) + 0) / 2 * 2) <<< ((nI j) &&& 31)))) = it (fun i a => a ||| (rgA c t s y i - rgA c t s y i / 2 * 2) <<< (nI i &&& 31)) ((j + 1)) 0 ∧ ((v ||| ((((0 + ((y >>> ((nI j) &&& 31)) &&& 1)) + 0) / 2) <<< ((nI j) &&& 31)))) = it (fun i a => a ||| (rgA c t s y i / 2) <<< (nI i &&& 31)) ((j + 1)) 0
            clear hB ih14
            obtain ⟨a1, a2, a3⟩ := hI14
            refine ⟨hj, ?_, ?_⟩
            · simp [it, rgA, a2, h72, *]
            · simp [it, rgA, a3, h72, *]
          · show c.toNatClampNeg - (j + 1) < c.toNatClampNeg - j
            omega
        · skip
          refine V_iload_n (pc := 75) dX11_goesRound_75 3 rfl rfl ?_
          refine V_goto (pc := 76) (tgt := 80) dX11_goesRound_76 (by decide) ?_
          refine V_iadd (pc := 80) dX11_goesRound_80 ?_
          refine V_istore (pc := 81) (L2 := [(4, .int (nI j)), (3, .int v), (2, .int u), (1, .int (s &&& 1)), (0, .ref (Z.2.2.2 99))]) dX11_goesRound_81 (by decide) rfl (fun x5_81 ex5_81 => ?_)
          subst ex5_81
          refine V_iload_n (pc := 83) dX11_goesRound_83 3 rfl rfl ?_
          refine V_iload (pc := 84) dX11_goesRound_84 0 rfl ?_
          refine V_iconst (v := 2) (pc := 86) dX11_goesRound_86 (by decide) ?_
          refine V_irem (pc := 87) dX11_goesRound_87 (by first | assumption | decide) ?_
          refine V_iload (pc := 88) dX11_goesRound_88 1 rfl ?_
          refine V_ishl (pc := 90) dX11_goesRound_90 ?_
          refine V_ior (pc := 91) dX11_goesRound_91 ?_
          refine V_istore_n (pc := 92) (L2 := [(5, .int ((0 + ((y >>> ((nI j) &&& 31)) &&& 1)) + (s &&& 1))), (4, .int (nI j)), (3, .int v), (1, .int (s &&& 1)), (0, .ref (Z.2.2.2 99))]) dX11_goesRound_92 rfl (by decide) rfl (fun x2_92 ex2_92 => ?_)
          subst ex2_92
          refine V_iload_n (pc := 93) dX11_goesRound_93 3 rfl rfl ?_
          refine V_iload (pc := 94) dX11_goesRound_94 1 rfl ?_
          refine V_iconst (v := 2) (pc := 96) dX11_goesRound_96 (by decide) ?_
          refine V_idiv (pc := 97) dX11_goesRound_97 (by first | assumption | decide) ?_
          refine V_iload (pc := 98) dX11_goesRound_98 2 rfl ?_
          refine V_ishl (pc := 100) dX11_goesRound_100 ?_
          refine V_ior (pc := 101) dX11_goesRound_101 ?_
          refine V_istore_n (pc := 102) (L2 := [(2, .int (u ||| ((((0 + ((y >>> ((nI j) &&& 31)) &&& 1)) + (s &&& 1)) - ((0 + ((y >>> ((nI j) &&& 31)) &&& 1)) + (s &&& 1)) / 2 * 2) <<< ((nI j) &&& 31)))), (5, .int ((0 + ((y >>> ((nI j) &&& 31)) &&& 1)) + (s &&& 1))), (4, .int (nI j)), (1, .int (s &&& 1)), (0, .ref (Z.2.2.2 99))]) dX11_goesRound_102 rfl (by decide) rfl (fun x3_102 ex3_102 => ?_)
          subst ex3_102
          refine V_iinc (pc := 103) (v := 1) (L2 := [(3, .int (v ||| ((((0 + ((y >>> ((nI j) &&& 31)) &&& 1)) + (s &&& 1)) / 2) <<< ((nI j) &&& 31)))), (2, .int (u ||| ((((0 + ((y >>> ((nI j) &&& 31)) &&& 1)) + (s &&& 1)) - ((0 + ((y >>> ((nI j) &&& 31)) &&& 1)) + (s &&& 1)) / 2 * 2) <<< ((nI j) &&& 31)))), (5, .int ((0 + ((y >>> ((nI j) &&& 31)) &&& 1)) + (s &&& 1))), (1, .int (s &&& 1)), (0, .ref (Z.2.2.2 99))]) dX11_goesRound_103 3 rfl (by decide) (by decide) rfl (fun x4_103 ex4_103 => ?_)
          rw [nI_1] at ex4_103
          subst ex4_103
          refine V_goto (pc := 106) (tgt := 14) dX11_goesRound_106 (by decide) ?_
          refine V_sub (L' := [(4, .int (nI (j + 1))), (3, .int (v ||| ((((0 + ((y >>> ((nI j) &&& 31)) &&& 1)) + (s &&& 1)) / 2) <<< ((nI j) &&& 31)))), (2, .int (u ||| ((((0 + ((y >>> ((nI j) &&& 31)) &&& 1)) + (s &&& 1)) - ((0 + ((y >>> ((nI j) &&& 31)) &&& 1)) + (s &&& 1)) / 2 * 2) <<< ((nI j) &&& 31)))), (1, .int (s &&& 1)), (0, .ref (Z.2.2.2 99))]) [0, 1, 2, 4, 5] rfl ?_
          refine ih14 (((j + 1)), _, _) ?_ ?_
          · show ((j + 1)) ≤ c.toNatClampNeg ∧ ((u ||| ((((0 + ((y >>> ((nI j) &&& 31)) &&& 1)) + (s &&& 1)) - ((0 + ((y >>> ((nI j) &&& 31)) &&& 1)) + (s &&& 1)) / 2 * 2) <<< ((nI j) &&& 31)))) = it (fun i a => a ||| (rgA c t s y i - rgA c t s y i / 2 * 2) <<< (nI i &&& 31)) ((j + 1)) 0 ∧ ((v ||| ((((0 + ((y >>> ((nI j) &&& 31)) &&& 1)) + (s &&& 1)) / 2) <<< ((nI j) &&& 31)))) = it (fun i a => a ||| (rgA c t s y i / 2) <<< (nI i &&& 31)) ((j + 1)) 0
            clear hB ih14
            obtain ⟨a1, a2, a3⟩ := hI14
            refine ⟨hj, ?_, ?_⟩
            · simp [it, rgA, a2, h72, *]
            · simp [it, rgA, a3, h72, *]
          · show c.toNatClampNeg - (j + 1) < c.toNatClampNeg - j
            omega
      · skip
        refine V_iconst (v := 1) (pc := 48) dX11_goesRound_48 (by decide) ?_
        refine V_goto (pc := 49) (tgt := 53) dX11_goesRound_49 (by decide) ?_
        refine V_aload_n (pc := 53) dX11_goesRound_53 4 rfl rfl ?_
        refine Mg_carry (pc := 54) (v := y) rfl dX11_goesRound_54 ?_
        refine V_iload (pc := 57) dX11_goesRound_57 0 rfl ?_
        refine V_ishr (pc := 59) dX11_goesRound_59 ?_
        refine V_iconst (v := 1) (pc := 60) dX11_goesRound_60 (by decide) ?_
        refine V_iand (pc := 61) dX11_goesRound_61 ?_
        refine V_iadd (pc := 62) dX11_goesRound_62 ?_
        refine V_aload_n (pc := 63) dX11_goesRound_63 4 rfl rfl ?_
        refine Mg_tapped (pc := 64) (v := t) rfl dX11_goesRound_64 ?_
        refine V_iload (pc := 67) dX11_goesRound_67 0 rfl ?_
        refine McSi (pc := 69) dX11_goesRound_69 (cM_has Z _ _ _) kM_96 rfl (Nat.le_of_ble_eq_true rfl) (by decide) (by decide) ?_
        refine V_bif_eq (pc := 72) (tgt := 79) dX11_goesRound_72 (by decide) (fun h72 => ?_) (fun h72 => ?_)
        · skip
          refine V_iconst (v := 0) (pc := 79) dX11_goesRound_79 (by decide) ?_
          refine V_iadd (pc := 80) dX11_goesRound_80 ?_
          refine V_istore (pc := 81) (L2 := [(4, .int (nI j)), (3, .int v), (2, .int u), (1, .int (s &&& 1)), (0, .ref (Z.2.2.2 99))]) dX11_goesRound_81 (by decide) rfl (fun x5_81 ex5_81 => ?_)
          subst ex5_81
          refine V_iload_n (pc := 83) dX11_goesRound_83 3 rfl rfl ?_
          refine V_iload (pc := 84) dX11_goesRound_84 0 rfl ?_
          refine V_iconst (v := 2) (pc := 86) dX11_goesRound_86 (by decide) ?_
          refine V_irem (pc := 87) dX11_goesRound_87 (by first | assumption | decide) ?_
          refine V_iload (pc := 88) dX11_goesRound_88 1 rfl ?_
          refine V_ishl (pc := 90) dX11_goesRound_90 ?_
          refine V_ior (pc := 91) dX11_goesRound_91 ?_
          refine V_istore_n (pc := 92) (L2 := [(5, .int ((1 + ((y >>> ((nI j) &&& 31)) &&& 1)) + 0)), (4, .int (nI j)), (3, .int v), (1, .int (s &&& 1)), (0, .ref (Z.2.2.2 99))]) dX11_goesRound_92 rfl (by decide) rfl (fun x2_92 ex2_92 => ?_)
          subst ex2_92
          refine V_iload_n (pc := 93) dX11_goesRound_93 3 rfl rfl ?_
          refine V_iload (pc := 94) dX11_goesRound_94 1 rfl ?_
          refine V_iconst (v := 2) (pc := 96) dX11_goesRound_96 (by decide) ?_
          refine V_idiv (pc := 97) dX11_goesRound_97 (by first | assumption | decide) ?_
          refine V_iload (pc := 98) dX11_goesRound_98 2 rfl ?_
          refine V_ishl (pc := 100) dX11_goesRound_100 ?_
          refine V_ior (pc := 101) dX11_goesRound_101 ?_
          refine V_istore_n (pc := 102) (L2 := [(2, .int (u ||| ((((1 + ((y >>> ((nI j) &&& 31)) &&& 1)) + 0) - ((1 + ((y >>> ((nI j) &&& 31)) &&& 1)) + 0) / 2 * 2) <<< ((nI j) &&& 31)))), (5, .int ((1 + ((y >>> ((nI j) &&& 31)) &&& 1)) + 0)), (4, .int (nI j)), (1, .int (s &&& 1)), (0, .ref (Z.2.2.2 99))]) dX11_goesRound_102 rfl (by decide) rfl (fun x3_102 ex3_102 => ?_)
          subst ex3_102
          refine V_iinc (pc := 103) (v := 1) (L2 := [(3, .int (v ||| ((((1 + ((y >>> ((nI j) &&& 31)) &&& 1)) + 0) / 2) <<< ((nI j) &&& 31)))), (2, .int (u ||| ((((1 + ((y >>> ((nI j) &&& 31)) &&& 1)) + 0) - ((1 + ((y >>> ((nI j) &&& 31)) &&& 1)) + 0) / 2 * 2) <<< ((nI j) &&& 31)))), (5, .int ((1 + ((y >>> ((nI j) &&& 31)) &&& 1)) + 0)), (1, .int (s &&& 1)), (0, .ref (Z.2.2.2 99))]) dX11_goesRound_103 3 rfl (by decide) (by decide) rfl (fun x4_103 ex4_103 => ?_)
          rw [nI_1] at ex4_103
          subst ex4_103
          refine V_goto (pc := 106) (tgt := 14) dX11_goesRound_106 (by decide) ?_
          refine V_sub (L' := [(4, .int (nI (j + 1))), (3, .int (v ||| ((((1 + ((y >>> ((nI j) &&& 31)) &&& 1)) + 0) / 2) <<< ((nI j) &&& 31)))), (2, .int (u ||| ((((1 + ((y >>> ((nI j) &&& 31)) &&& 1)) + 0) - ((1 + ((y >>> ((nI j) &&& 31)) &&& 1)) + 0) / 2 * 2) <<< ((nI j) &&& 31)))), (1, .int (s &&& 1)), (0, .ref (Z.2.2.2 99))]) [0, 1, 2, 4, 5] rfl ?_
          refine ih14 (((j + 1)), _, _) ?_ ?_
          · show ((j + 1)) ≤ c.toNatClampNeg ∧ ((u ||| ((((1 + ((y >>> ((nI j) &&& 31)) &&& 1)) + 0) - ((1 + ((y >>> ((nI j) &&& 31)) &&& 1)) + 0) / 2 * 2) <<< ((nI j) &&& 31)))) = it (fun i a => a ||| (rgA c t s y i - rgA c t s y i / 2 * 2) <<< (nI i &&& 31)) ((j + 1)) 0 ∧ ((v ||| ((((1 + ((y >>> ((nI j) &&& 31)) &&& 1)) + 0) / 2) <<< ((nI j) &&& 31)))) = it (fun i a => a ||| (rgA c t s y i / 2) <<< (nI i &&& 31)) ((j + 1)) 0
            clear hB ih14
            obtain ⟨a1, a2, a3⟩ := hI14
            refine ⟨hj, ?_, ?_⟩
            · simp [it, rgA, a2, h72, *]
            · simp [it, rgA, a3, h72, *]
          · show c.toNatClampNeg - (j + 1) < c.toNatClampNeg - j
            omega
        · skip
          refine V_iload_n (pc := 75) dX11_goesRound_75 3 rfl rfl ?_
          refine V_goto (pc := 76) (tgt := 80) dX11_goesRound_76 (by decide) ?_
          refine V_iadd (pc := 80) dX11_goesRound_80 ?_
          refine V_istore (pc := 81) (L2 := [(4, .int (nI j)), (3, .int v), (2, .int u), (1, .int (s &&& 1)), (0, .ref (Z.2.2.2 99))]) dX11_goesRound_81 (by decide) rfl (fun x5_81 ex5_81 => ?_)
          subst ex5_81
          refine V_iload_n (pc := 83) dX11_goesRound_83 3 rfl rfl ?_
          refine V_iload (pc := 84) dX11_goesRound_84 0 rfl ?_
          refine V_iconst (v := 2) (pc := 86) dX11_goesRound_86 (by decide) ?_
          refine V_irem (pc := 87) dX11_goesRound_87 (by first | assumption | decide) ?_
          refine V_iload (pc := 88) dX11_goesRound_88 1 rfl ?_
          refine V_ishl (pc := 90) dX11_goesRound_90 ?_
          refine V_ior (pc := 91) dX11_goesRound_91 ?_
          refine V_istore_n (pc := 92) (L2 := [(5, .int ((1 + ((y >>> ((nI j) &&& 31)) &&& 1)) + (s &&& 1))), (4, .int (nI j)), (3, .int v), (1, .int (s &&& 1)), (0, .ref (Z.2.2.2 99))]) dX11_goesRound_92 rfl (by decide) rfl (fun x2_92 ex2_92 => ?_)
          subst ex2_92
          refine V_iload_n (pc := 93) dX11_goesRound_93 3 rfl rfl ?_
          refine V_iload (pc := 94) dX11_goesRound_94 1 rfl ?_
          refine V_iconst (v := 2) (pc := 96) dX11_goesRound_96 (by decide) ?_
          refine V_idiv (pc := 97) dX11_goesRound_97 (by first | assumption | decide) ?_
          refine V_iload (pc := 98) dX11_goesRound_98 2 rfl ?_
          refine V_ishl (pc := 100) dX11_goesRound_100 ?_
          refine V_ior (pc := 101) dX11_goesRound_101 ?_
          refine V_istore_n (pc := 102) (L2 := [(2, .int (u ||| ((((1 + ((y >>> ((nI j) &&& 31)) &&& 1)) + (s &&& 1)) - ((1 + ((y >>> ((nI j) &&& 31)) &&& 1)) + (s &&& 1)) / 2 * 2) <<< ((nI j) &&& 31)))), (5, .int ((1 + ((y >>> ((nI j) &&& 31)) &&& 1)) + (s &&& 1))), (4, .int (nI j)), (1, .int (s &&& 1)), (0, .ref (Z.2.2.2 99))]) dX11_goesRound_102 rfl (by decide) rfl (fun x3_102 ex3_102 => ?_)
          subst ex3_102
          refine V_iinc (pc := 103) (v := 1) (L2 := [(3, .int (v ||| ((((1 + ((y >>> ((nI j) &&& 31)) &&& 1)) + (s &&& 1)) / 2) <<< ((nI j) &&& 31)))), (2, .int (u ||| ((((1 + ((y >>> ((nI j) &&& 31)) &&& 1)) + (s &&& 1)) - ((1 + ((y >>> ((nI j) &&& 31)) &&& 1)) + (s &&& 1)) / 2 * 2) <<< ((nI j) &&& 31)))), (5, .int ((1 + ((y >>> ((nI j) &&& 31)) &&& 1)) + (s &&& 1))), (1, .int (s &&& 1)), (0, .ref (Z.2.2.2 99))]) dX11_goesRound_103 3 rfl (by decide) (by decide) rfl (fun x4_103 ex4_103 => ?_)
          rw [nI_1] at ex4_103
          subst ex4_103
          refine V_goto (pc := 106) (tgt := 14) dX11_goesRound_106 (by decide) ?_
          refine V_sub (L' := [(4, .int (nI (j + 1))), (3, .int (v ||| ((((1 + ((y >>> ((nI j) &&& 31)) &&& 1)) + (s &&& 1)) / 2) <<< ((nI j) &&& 31)))), (2, .int (u ||| ((((1 + ((y >>> ((nI j) &&& 31)) &&& 1)) + (s &&& 1)) - ((1 + ((y >>> ((nI j) &&& 31)) &&& 1)) + (s &&& 1)) / 2 * 2) <<< ((nI j) &&& 31)))), (1, .int (s &&& 1)), (0, .ref (Z.2.2.2 99))]) [0, 1, 2, 4, 5] rfl ?_
          refine ih14 (((j + 1)), _, _) ?_ ?_
          · show ((j + 1)) ≤ c.toNatClampNeg ∧ ((u ||| ((((1 + ((y >>> ((nI j) &&& 31)) &&& 1)) + (s &&& 1)) - ((1 + ((y >>> ((nI j) &&& 31)) &&& 1)) + (s &&& 1)) / 2 * 2) <<< ((nI j) &&& 31)))) = it (fun i a => a ||| (rgA c t s y i - rgA c t s y i / 2 * 2) <<< (nI i &&& 31)) ((j + 1)) 0 ∧ ((v ||| ((((1 + ((y >>> ((nI j) &&& 31)) &&& 1)) + (s &&& 1)) / 2) <<< ((nI j) &&& 31)))) = it (fun i a => a ||| (rgA c t s y i / 2) <<< (nI i &&& 31)) ((j + 1)) 0
            clear hB ih14
            obtain ⟨a1, a2, a3⟩ := hI14
            refine ⟨hj, ?_, ?_⟩
            · simp [it, rgA, a2, h72, *]
            · simp [it, rgA, a3, h72, *]
          · show c.toNatClampNeg - (j + 1) < c.toNatClampNeg - j
            omega
set_option maxHeartbeats 4000000 in
set_option maxRecDepth 100000 in
theorem cM_steps (Z : VZ) (S : MS) (k c t s y : Int32) : CtF MW Z yX11_steps cX11_steps 4 (some .int) 2 0 0 [.ref (Z.2.2.2 99)] (mTh S k c t s y) (some (.int (s &&& 1))) (mTh S k c t (stS k c t s y) (stY k c t s y)) := by
  refine V_entry (own := RX11) (by decide) rfl (Nat.le_of_ble_eq_true rfl) ?_
  intro B hB
  refine V_sub (L' := [(0, .ref (Z.2.2.2 99))]) [0] rfl ?_
  refine V_aload_n (pc := 0) dX11_steps_0 0 rfl rfl ?_
  refine Mg_kind (pc := 1) (v := k) rfl dX11_steps_1 ?_
  refine V_iconst (v := 5) (pc := 4) dX11_steps_4 (by decide) ?_
  refine V_icmp_ne (pc := 5) (tgt := 13) dX11_steps_5 (by decide) (fun h5 => ?_) (fun h5 => ?_)
  · skip
    refine V_aload_n (pc := 13) dX11_steps_13 0 rfl rfl ?_
    refine Mg_state (pc := 14) (v := s) rfl dX11_steps_14 ?_
    refine V_iconst (v := 1) (pc := 17) dX11_steps_17 (by decide) ?_
    refine V_iand (pc := 18) dX11_steps_18 ?_
    refine V_istore_n (pc := 19) (L2 := [(0, .ref (Z.2.2.2 99))]) dX11_steps_19 rfl (by decide) rfl (fun x1_19 ex1_19 => ?_)
    subst ex1_19
    refine V_aload_n (pc := 20) dX11_steps_20 1 rfl rfl ?_
    refine McVi (pc := 21) dX11_steps_21 (cM_sum Z _ _ _ _ _ _) kM_131 rfl rfl (Nat.le_of_ble_eq_true rfl) (by decide) (by decide) ?_
    refine V_istore_n (pc := 24) (L2 := [(1, .int (s &&& 1)), (0, .ref (Z.2.2.2 99))]) dX11_steps_24 rfl (by decide) rfl (fun x2_24 ex2_24 => ?_)
    subst ex2_24
    refine V_iload_n (pc := 25) dX11_steps_25 0 rfl rfl ?_
    refine V_iconst (v := 1) (pc := 26) dX11_steps_26 (by decide) ?_
    refine V_ishr (pc := 27) dX11_steps_27 ?_
    refine V_istore_n (pc := 28) (L2 := [(2, .int (mSum k t s y)), (1, .int (s &&& 1)), (0, .ref (Z.2.2.2 99))]) dX11_steps_28 rfl (by decide) rfl (fun x3_28 ex3_28 => ?_)
    subst ex3_28
    refine V_aload_n (pc := 29) dX11_steps_29 3 rfl rfl ?_
    refine V_aload_n (pc := 30) dX11_steps_30 3 rfl rfl ?_
    refine Mg_state (pc := 31) (v := s) rfl dX11_steps_31 ?_
    refine V_iconst (v := 1) (pc := 34) dX11_steps_34 (by decide) ?_
    refine V_ishr (pc := 35) dX11_steps_35 ?_
    refine V_iload_n (pc := 36) dX11_steps_36 1 rfl rfl ?_
    refine V_iconst (v := 1) (pc := 37) dX11_steps_37 (by decide) ?_
    refine V_iand (pc := 38) dX11_steps_38 ?_
    refine V_aload_n (pc := 39) dX11_steps_39 3 rfl rfl ?_
    refine Mg_size (pc := 40) (v := c) rfl dX11_steps_40 ?_
    refine V_iconst (v := 1) (pc := 43) dX11_steps_43 (by decide) ?_
    refine V_isub (pc := 44) dX11_steps_44 ?_
    refine V_ishl (pc := 45) dX11_steps_45 ?_
    refine V_ior (pc := 46) dX11_steps_46 ?_
    refine Mp_state (pc := 47) dX11_steps_47 ?_
    refine V_aload_n (pc := 50) dX11_steps_50 3 rfl rfl ?_
    refine Mg_kind (pc := 51) (v := k) rfl dX11_steps_51 ?_
    refine V_iconst (v := 4) (pc := 54) dX11_steps_54 (by decide) ?_
    refine V_icmp_ne (pc := 55) (tgt := 70) dX11_steps_55 (by decide) (fun h55 => ?_) (fun h55 => ?_)
    · skip
      refine V_aload_n (pc := 70) dX11_steps_70 3 rfl rfl ?_
      refine Mg_kind (pc := 71) (v := k) rfl dX11_steps_71 ?_
      refine V_if_eq (pc := 74) (tgt := 85) dX11_steps_74 (by decide) (fun h74 => ?_) (fun h74 => ?_)
      · skip
        refine V_aload_n (pc := 85) dX11_steps_85 3 rfl rfl ?_
        refine V_iload_n (pc := 86) dX11_steps_86 0 rfl rfl ?_
        refine Mp_carry (pc := 87) dX11_steps_87 ?_
        refine V_iload_n (pc := 90) dX11_steps_90 2 rfl rfl ?_
        exact V_iret (pc := 91) dX11_steps_91 (Nat.le_of_ble_eq_true rfl) (Nat.le_of_ble_eq_true rfl) (hB _ _ ⟨congrArg (fun z => some (Value.int z)) (by rfl), by rw [mTh9]; (try rw [mTh10]); simp [stS, stY, *]⟩)
      · skip
        refine V_aload_n (pc := 77) dX11_steps_77 3 rfl rfl ?_
        refine Mg_kind (pc := 78) (v := k) rfl dX11_steps_78 ?_
        refine V_iconst (v := 3) (pc := 81) dX11_steps_81 (by decide) ?_
        refine V_icmp_ne (pc := 82) (tgt := 90) dX11_steps_82 (by decide) (fun h82 => ?_) (fun h82 => ?_)
        · skip
          refine V_iload_n (pc := 90) dX11_steps_90 2 rfl rfl ?_
          exact V_iret (pc := 91) dX11_steps_91 (Nat.le_of_ble_eq_true rfl) (Nat.le_of_ble_eq_true rfl) (hB _ _ ⟨congrArg (fun z => some (Value.int z)) (by rfl), by rw [mTh9]; (try rw [mTh10]); simp [stS, stY, *]⟩)
        · skip
          refine V_aload_n (pc := 85) dX11_steps_85 3 rfl rfl ?_
          refine V_iload_n (pc := 86) dX11_steps_86 0 rfl rfl ?_
          refine Mp_carry (pc := 87) dX11_steps_87 ?_
          refine V_iload_n (pc := 90) dX11_steps_90 2 rfl rfl ?_
          exact V_iret (pc := 91) dX11_steps_91 (Nat.le_of_ble_eq_true rfl) (Nat.le_of_ble_eq_true rfl) (hB _ _ ⟨congrArg (fun z => some (Value.int z)) (by rfl), by rw [mTh9]; (try rw [mTh10]); simp [stS, stY, *]⟩)
    · skip
      refine V_aload_n (pc := 58) dX11_steps_58 3 rfl rfl ?_
      refine V_iconst (v := 1) (pc := 59) dX11_steps_59 (by decide) ?_
      refine V_iload_n (pc := 60) dX11_steps_60 0 rfl rfl ?_
      refine V_mmin (pc := 61) dX11_steps_61 tw_1051 tw_397 tw_14 tw_398 (by decide) (Nat.le_of_ble_eq_true rfl) (Nat.le_refl _) (Nat.le_refl _) ?_
      refine Mp_carry (pc := 64) dX11_steps_64 ?_
      refine V_goto (pc := 67) (tgt := 90) dX11_steps_67 (by decide) ?_
      refine V_iload_n (pc := 90) dX11_steps_90 2 rfl rfl ?_
      exact V_iret (pc := 91) dX11_steps_91 (Nat.le_of_ble_eq_true rfl) (Nat.le_of_ble_eq_true rfl) (hB _ _ ⟨congrArg (fun z => some (Value.int z)) (by rfl), by rw [mTh9]; (try rw [mTh10]); simp [stS, stY, *]⟩)
  · skip
    refine V_aload_n (pc := 8) dX11_steps_8 0 rfl rfl ?_
    refine McVi (pc := 9) dX11_steps_9 (cM_goesRound Z _ _ _ _ _ _) kM_127 rfl rfl (Nat.le_of_ble_eq_true rfl) (by decide) (by decide) ?_
    exact V_iret (pc := 12) dX11_steps_12 (Nat.le_of_ble_eq_true rfl) (Nat.le_of_ble_eq_true rfl) (hB _ _ ⟨congrArg (fun z => some (Value.int z)) (by rfl), by simp [stS, stY, *]⟩)
