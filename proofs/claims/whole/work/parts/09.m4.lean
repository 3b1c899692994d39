theorem va_upS {α : Type} (f : Nat → α) (k : Nat) : va_up f k (f k) = f := by
  funext j
  by_cases h : j = k
  · subst h; simp [va_up]
  · simp [va_up, h]
theorem mA_self (S : MS) (k : Nat) : S = mA S k (S.2.2 k) := by
  show S = (S.1, S.2.1, va_up S.2.2 k (S.2.2 k))
  rw [va_upS]
theorem mA_mA (S : MS) (k : Nat) (f g : Nat → Int32) : mA (mA S k f) k g = mA S k g := by
  show (S.1, S.2.1, va_up (va_up S.2.2 k f) k g) = (S.1, S.2.1, va_up S.2.2 k g)
  rw [bx_uu]
theorem mOK_le {S : MS} (h : mOK S) : (S.1 0).toNatClampNeg ≤ 4 := by
  obtain ⟨n, hn, e⟩ := h
  rw [e, nI_clamp (by omega)]
  exact hn
/-- machine i of the reference behind n steps -/
abbrev mRn (S : MS) (i n : Nat) : Int32 × Int32 := rn (S.2.2 1 i) (S.2.2 2 i) (S.2.2 3 i) n (S.2.2 4 i, S.2.2 5 i)
def mThN (S : MS) (i n : Nat) : MS := mTh S (S.2.2 1 i) (S.2.2 2 i) (S.2.2 3 i) (mRn S i n).1 (mRn S i n).2
def tlI (S : MS) (i n : Nat) : Int32 := it (fun q b => b ||| ((mRn S i q).1 &&& 1) <<< (nI q &&& 31)) n 0
def mRow (S : MS) (n : Int32) (g : Nat → Int32) : MS := mA (mF S 12 n) 11 g
def rowF (S : MS) (i j : Nat) : Nat → Int32 := it (fun q r => upd r q ((mRn S i q).1 &&& 1)) j (S.2.2 11)
def mTells (S : MS) (i : Nat) (n : Int32) (j : Nat) : MS := mTh (mRow S n (rowF S i j)) (S.2.2 1 i) (S.2.2 2 i) (S.2.2 3 i) (mRn S i j).1 (mRn S i j).2
theorem mTells0 (S : MS) (k c t s y n : Int32) : (va_up (mTh S k c t s y).1 12 n, (mTh S k c t s y).2) = mTh (mRow S n (S.2.2 11)) k c t s y := by
  refine Prod.ext (funext fun j => ?_) (Prod.ext rfl ?_)
  · simp only [mTh, mRow, va_up]
    repeat' split
    all_goals first | rfl | omega
  · show S.2.2 = va_up S.2.2 11 (S.2.2 11)
    rw [va_upS]
theorem mTellsP (S : MS) (k c t s y n : Int32) (g : Nat → Int32) (i : Nat) (x : Int32) : ((mTh (mRow S n g) k c t s y).1, (mTh (mRow S n g) k c t s y).2.1, va_up (mTh (mRow S n g) k c t s y).2.2 11 (upd ((mTh (mRow S n g) k c t s y).2.2 11) i x)) = mTh (mRow S n (upd g i x)) k c t s y := by
  refine Prod.ext rfl (Prod.ext rfl ?_)
  show va_up (va_up S.2.2 11 g) 11 (upd g i x) = va_up S.2.2 11 (upd g i x)
  rw [bx_uu]
theorem ix40 {a : Int32} (ha : vp_in a 4) {j : Nat} (hj : j < 40) : 40 * a + nI j = nI (40 * a.toNatClampNeg + j) ∧ 40 * a.toNatClampNeg + j < 160 := by
  obtain ⟨q, hq, e⟩ := vp_in_of ha (by decide)
  subst e
  rw [nI_clamp (by omega), show (40 : Int32) = nI 40 from rfl, pk_mul, nI_add]
  exact ⟨rfl, by omega⟩
theorem in160 {a : Int32} (ha : vp_in a 4) {j : Nat} (hj : j < 40) : vp_in (40 * a + nI j) 160 := by
  rw [(ix40 ha hj).1]
  exact vp_in_nI (ix40 ha hj).2 (by decide)
theorem cl40 {a : Int32} (ha : vp_in a 4) {j : Nat} (hj : j < 40) : (40 * a + nI j).toNatClampNeg = 40 * a.toNatClampNeg + j := by
  rw [(ix40 ha hj).1, nI_clamp (by have := (ix40 ha hj).2; omega)]
def cmI (S : MS) (a : Nat) (j : Nat) : Nat → Int32 := it (fun i g => upd g (40 * a + i) (if S.1 12 ≤ nI i then 0 else S.2.2 11 i)) j (S.2.2 34)
def mCm (S : MS) (a : Nat) : MS := mA (mA (mA S 32 (upd (S.2.2 32) a 0)) 33 (upd (S.2.2 33) a (S.1 12))) 34 (cmI S a 40)
def rdI (S : MS) (a : Nat) (j : Nat) : Nat → Int32 := it (fun i g => upd g i (S.2.2 34 (40 * a + i) &&& 1)) j (S.2.2 11)
def mRd (S : MS) (a : Nat) : MS := mA (mF S 12 (S.2.2 33 a)) 11 (rdI S a (S.2.2 33 a).toNatClampNeg)
def sOK (S : MS) : Prop := ∀ i, i < 4 → (S.2.2 33 i).toNatClampNeg ≤ 40
theorem sOK_in {S : MS} (h : sOK S) {a : Int32} (ha : vp_in a 4) : (S.2.2 33 a.toNatClampNeg).toNatClampNeg ≤ 40 := h _ (Nat.not_le.mp fun q => ha (Or.inr q))
def nbI (f : Nat → Int32) (n : Nat) : Int64 := it (fun i (b : Int64) => b ||| (f i).toInt64 <<< ((nI i).toInt64 &&& 63)) n 0
def rst (c t f : Int32) : Int32 := it (fun j a => if t >>> (nI j &&& 31) &&& 1 = 1 then a + (f &&& (1 <<< (nI j &&& 31) - 1)) <<< ((c - nI j) &&& 31) else a) c.toNatClampNeg (-(f &&& (1 <<< (c &&& 31) - 1)))
def dgl (n : Nat) : Nat := if h : n = 0 then 0 else dgl (n / 2) + 1
termination_by n
decreasing_by omega
theorem dgl_pos {n : Nat} (h : 0 < n) : dgl n = dgl (n / 2) + 1 := by rw [dgl]; simp [Nat.ne_of_gt h]
theorem dgl_0 : dgl 0 = 0 := by rw [dgl]; simp
set_option maxHeartbeats 4000000 in
set_option maxRecDepth 100000 in
theorem cM_step (Z : VZ) (S : MS) (a : Int32) (n : Int32) (hm : mOK S) : CtF MW Z yX11_step cX11_step 5 (some .int) 3 0 0 [.ref (Z.2.2.2 99), .int a, .int n] (S) (some (.int (if (0 ≤ a ∧ a ≤ S.1 0 - 1) ∧ (1 ≤ n ∧ n ≤ 30) then tlI S a.toNatClampNeg n.toNatClampNeg else -2))) (if (0 ≤ a ∧ a ≤ S.1 0 - 1) ∧ (1 ≤ n ∧ n ≤ 30) then mA (mA (mThN S a.toNatClampNeg n.toNatClampNeg) 4 (upd (S.2.2 4) a.toNatClampNeg (mRn S a.toNatClampNeg n.toNatClampNeg).1)) 5 (upd (S.2.2 5) a.toNatClampNeg (mRn S a.toNatClampNeg n.toNatClampNeg).2) else S) := by
  refine V_entry (own := RX11) (by decide) rfl (Nat.le_of_ble_eq_true rfl) ?_
  intro B hB
  refine V_sub (L' := [(0, .ref (Z.2.2.2 99)), (1, .int a), (2, .int n)]) [0, 1, 2] rfl ?_
  refine V_aload_n (pc := 0) dX11_step_0 0 rfl rfl ?_
  refine V_iload_n (pc := 1) dX11_step_1 1 rfl rfl ?_
  refine McVi (pc := 2) dX11_step_2 (cM_isMachine Z _ _) kM_86 rfl rfl (Nat.le_of_ble_eq_true rfl) (by decide) (by decide) ?_
  refine V_bif_eq (pc := 5) (tgt := 18) dX11_step_5 (by decide) (fun h5 => ?_) (fun h5 => ?_)
  · skip
    refine V_bipush (v := (-2)) (pc := 18) dX11_step_18 (by decide) ?_
    exact V_iret (pc := 20) dX11_step_20 (Nat.le_of_ble_eq_true rfl) (Nat.le_of_ble_eq_true rfl) (hB _ _ ⟨congrArg (fun z => some (Value.int z)) (by exact (if_neg (fun h => h5 h.1)).symm), by exact (if_neg (fun h => h5 h.1)).symm⟩)
  · skip
    refine V_iload_n (pc := 8) dX11_step_8 2 rfl rfl ?_
    refine V_iconst (v := 1) (pc := 9) dX11_step_9 (by decide) ?_
    refine V_bipush (v := 30) (pc := 10) dX11_step_10 (by decide) ?_
    refine McSi (pc := 12) dX11_step_12 (cM_in Z _ _ _ _) kM_70 rfl (Nat.le_of_ble_eq_true rfl) (by decide) (by decide) ?_
    refine V_bif_ne (pc := 15) (tgt := 21) dX11_step_15 (by decide) (fun h15 => ?_) (fun h15 => ?_)
    · skip
      refine V_aload_n (pc := 21) dX11_step_21 0 rfl rfl ?_
      refine V_iload_n (pc := 22) dX11_step_22 1 rfl rfl ?_
      refine McVv (pc := 23) dX11_step_23 (cM_thinks Z _ _ (by exact inMach hm h5)) kM_140 rfl rfl (Nat.le_of_ble_eq_true rfl) (by decide) (by decide) ?_
      refine V_iconst (v := 0) (pc := 26) dX11_step_26 (by decide) ?_
      refine V_istore_n (pc := 27) (L2 := [(0, .ref (Z.2.2.2 99)), (1, .int a), (2, .int n)]) dX11_step_27 rfl (by decide) rfl (fun x3_27 ex3_27 => ?_)
      subst ex3_27
      refine V_iconst (v := 0) (pc := 28) dX11_step_28 (by decide) ?_
      refine V_istore (pc := 29) (L2 := [(3, .int 0), (0, .ref (Z.2.2.2 99)), (1, .int a), (2, .int n)]) dX11_step_29 (by decide) rfl (fun x4_29 ex4_29 => ?_)
      subst ex4_29
      refine V_sub (L' := [(4, .int (nI 0)), (3, .int 0), (0, .ref (Z.2.2.2 99)), (1, .int a), (2, .int n)]) [0, 1, 2, 3, 4] rfl ?_
      refine Vloop (σ := Nat × Int32) (fun x => (x.1) ≤ n.toNatClampNeg ∧ (x.2) = tlI S a.toNatClampNeg (x.1)) (fun x => n.toNatClampNeg - (x.1)) (fun x => V MW Z cX11_step RX11 5 (some .int) 3 0 0 B 0 0 31 [(4, .int (nI (x.1))), (3, .int (x.2)), (0, .ref (Z.2.2.2 99)), (1, .int a), (2, .int n)] [] (mThN S a.toNatClampNeg (x.1))) ?_ (0, 0) (by exact ⟨Nat.zero_le _, rfl⟩)
      rintro ⟨j, u⟩ hI31 ih31
      have hI31 : j ≤ n.toNatClampNeg ∧ u = tlI S a.toNatClampNeg j := hI31
      show V MW Z cX11_step RX11 5 (some .int) 3 0 0 B 0 0 31 [(4, .int (nI j)), (3, .int u), (0, .ref (Z.2.2.2 99)), (1, .int a), (2, .int n)] [] (mThN S a.toNatClampNeg j)
      refine V_iload (pc := 31) dX11_step_31 0 rfl ?_
      refine V_iload_n (pc := 33) dX11_step_33 4 rfl rfl ?_
      refine V_icmp_ge (pc := 34) (tgt := 53) dX11_step_34 (by decide) (fun h34 => ?_) (fun h34 => ?_)
      · skip
        have hj : n.toNatClampNeg ≤ j := jge h34 (Nat.lt_of_le_of_lt hI31.1 (clampLt _))
        have ej : j = n.toNatClampNeg := Nat.le_antisymm hI31.1 hj
        refine V_aload_n (pc := 53) dX11_step_53 2 rfl rfl ?_
        refine Mg_states (pc := 54) dX11_step_54 ?_
        refine V_iload_n (pc := 57) dX11_step_57 3 rfl rfl ?_
        refine V_aload_n (pc := 58) dX11_step_58 2 rfl rfl ?_
        refine Mg_state (pc := 59) (v := (mRn S a.toNatClampNeg j).1) rfl dX11_step_59 ?_
        refine Ms_states (pc := 62) dX11_step_62 (by exact inMach hm h5) ?_
        refine V_aload_n (pc := 63) dX11_step_63 2 rfl rfl ?_
        refine Mg_carries (pc := 64) dX11_step_64 ?_
        refine V_iload_n (pc := 67) dX11_step_67 3 rfl rfl ?_
        refine V_aload_n (pc := 68) dX11_step_68 2 rfl rfl ?_
        refine Mg_carry (pc := 69) (v := (mRn S a.toNatClampNeg j).2) rfl dX11_step_69 ?_
        refine Ms_carries (pc := 72) dX11_step_72 (by exact inMach hm h5) ?_
        refine V_iload_n (pc := 73) dX11_step_73 1 rfl rfl ?_
        exact V_iret (pc := 74) dX11_step_74 (Nat.le_of_ble_eq_true rfl) (Nat.le_of_ble_eq_true rfl) (hB _ _ ⟨congrArg (fun z => some (Value.int z)) (by rw [if_pos ⟨h5, h15⟩, hI31.2, ej]), by rw [if_pos ⟨h5, h15⟩, ej]; rfl⟩)
      · skip
        have hj : j < n.toNatClampNeg := jlt h34 (Nat.lt_of_le_of_lt hI31.1 (clampLt _))
        refine V_iload_n (pc := 37) dX11_step_37 1 rfl rfl ?_
        refine V_aload_n (pc := 38) dX11_step_38 2 rfl rfl ?_
        refine McVi (pc := 39) dX11_step_39 (cM_steps Z _ _ _ _ _ _) kM_144 rfl rfl (Nat.le_of_ble_eq_true rfl) (by decide) (by decide) ?_
        refine V_iload (pc := 42) dX11_step_42 0 rfl ?_
        refine V_ishl (pc := 44) dX11_step_44 ?_
        refine V_ior (pc := 45) dX11_step_45 ?_
        refine V_istore_n (pc := 46) (L2 := [(4, .int (nI j)), (0, .ref (Z.2.2.2 99)), (1, .int a), (2, .int n)]) dX11_step_46 rfl (by decide) rfl (fun x3_46 ex3_46 => ?_)
        refine V_iinc (pc := 47) (v := 1) (L2 := [(3, .int x3_46), (0, .ref (Z.2.2.2 99)), (1, .int a), (2, .int n)]) dX11_step_47 1 rfl (by decide) (by decide) rfl (fun x4_47 ex4_47 => ?_)
        rw [nI_1] at ex4_47
        subst ex4_47
        refine V_goto (pc := 50) (tgt := 31) dX11_step_50 (by decide) ?_
        refine V_sub (L' := [(4, .int (nI (j + 1))), (3, .int x3_46), (0, .ref (Z.2.2.2 99)), (1, .int a), (2, .int n)]) [0, 1, 2, 3, 4] rfl ?_
        refine ih31 (((j + 1)), _) ?_ ?_
        · show ((j + 1)) ≤ n.toNatClampNeg ∧ (x3_46) = tlI S a.toNatClampNeg ((j + 1))
          exact ⟨hj, by rw [← ex3_46, hI31.2]; rfl⟩
        · show n.toNatClampNeg - (j + 1) < n.toNatClampNeg - j
          omega
    · skip
      refine V_bipush (v := (-2)) (pc := 18) dX11_step_18 (by decide) ?_
      exact V_iret (pc := 20) dX11_step_20 (Nat.le_of_ble_eq_true rfl) (Nat.le_of_ble_eq_true rfl) (hB _ _ ⟨congrArg (fun z => some (Value.int z)) (by exact (if_neg (fun h => h15 h.2)).symm), by exact (if_neg (fun h => h15 h.2)).symm⟩)
set_option maxHeartbeats 4000000 in
set_option maxRecDepth 100000 in
theorem cM_then (Z : VZ) (S : MS) (a : Int32) (n : Int32) (b : Int32) (hm : mOK S) : CtF MW Z yX11_then cX11_then 6 (some .int) 3 0 0 [.ref (Z.2.2.2 99), .int a, .int n, .int b] (S) (some (.int (if (0 ≤ a ∧ a ≤ S.1 0 - 1) ∧ (0 ≤ n ∧ n ≤ 40) ∧ (0 ≤ b ∧ b ≤ 2) then (if b = 0 then (mRn S a.toNatClampNeg n.toNatClampNeg).1 &&& 1 else if b = 1 then (mRn S a.toNatClampNeg n.toNatClampNeg).1 else (mRn S a.toNatClampNeg n.toNatClampNeg).2) else -1000))) (if (0 ≤ a ∧ a ≤ S.1 0 - 1) ∧ (0 ≤ n ∧ n ≤ 40) ∧ (0 ≤ b ∧ b ≤ 2) then mThN S a.toNatClampNeg n.toNatClampNeg else S) := by
  refine V_entry (own := RX11) (by decide) rfl (Nat.le_of_ble_eq_true rfl) ?_
  intro B hB
  refine V_sub (L' := [(0, .ref (Z.2.2.2 99)), (1, .int a), (2, .int n), (3, .int b)]) [0, 1, 2, 3] rfl ?_
  refine V_aload_n (pc := 0) dX11_then_0 0 rfl rfl ?_
  refine V_iload_n (pc := 1) dX11_then_1 1 rfl rfl ?_
  refine McVi (pc := 2) dX11_then_2 (cM_isMachine Z _ _) kM_86 rfl rfl (Nat.le_of_ble_eq_true rfl) (by decide) (by decide) ?_
  refine V_bif_eq (pc := 5) (tgt := 27) dX11_then_5 (by decide) (fun h5 => ?_) (fun h5 => ?_)
  · skip
    refine V_sipush (v := (-1000)) (pc := 27) dX11_then_27 (by decide) ?_
    exact V_iret (pc := 30) dX11_then_30 (Nat.le_of_ble_eq_true rfl) (Nat.le_of_ble_eq_true rfl) (hB _ _ ⟨congrArg (fun z => some (Value.int z)) (by exact (if_neg (fun h => h5 h.1)).symm), by exact (if_neg (fun h => h5 h.1)).symm⟩)
  · skip
    refine V_iload_n (pc := 8) dX11_then_8 2 rfl rfl ?_
    refine V_iconst (v := 0) (pc := 9) dX11_then_9 (by decide) ?_
    refine V_bipush (v := 40) (pc := 10) dX11_then_10 (by decide) ?_
    refine McSi (pc := 12) dX11_then_12 (cM_in Z _ _ _ _) kM_70 rfl (Nat.le_of_ble_eq_true rfl) (by decide) (by decide) ?_
    refine V_bif_eq (pc := 15) (tgt := 27) dX11_then_15 (by decide) (fun h15 => ?_) (fun h15 => ?_)
    · skip
      refine V_sipush (v := (-1000)) (pc := 27) dX11_then_27 (by decide) ?_
      exact V_iret (pc := 30) dX11_then_30 (Nat.le_of_ble_eq_true rfl) (Nat.le_of_ble_eq_true rfl) (hB _ _ ⟨congrArg (fun z => some (Value.int z)) (by exact (if_neg (fun h => h15 h.2.1)).symm), by exact (if_neg (fun h => h15 h.2.1)).symm⟩)
    · skip
      refine V_iload_n (pc := 18) dX11_then_18 3 rfl rfl ?_
      refine V_iconst (v := 0) (pc := 19) dX11_then_19 (by decide) ?_
      refine V_iconst (v := 2) (pc := 20) dX11_then_20 (by decide) ?_
      refine McSi (pc := 21) dX11_then_21 (cM_in Z _ _ _ _) kM_70 rfl (Nat.le_of_ble_eq_true rfl) (by decide) (by decide) ?_
      refine V_bif_ne (pc := 24) (tgt := 31) dX11_then_24 (by decide) (fun h24 => ?_) (fun h24 => ?_)
      · skip
        refine V_aload_n (pc := 31) dX11_then_31 0 rfl rfl ?_
        refine V_iload_n (pc := 32) dX11_then_32 1 rfl rfl ?_
        refine McVv (pc := 33) dX11_then_33 (cM_thinks Z _ _ (by exact inMach hm h5)) kM_140 rfl rfl (Nat.le_of_ble_eq_true rfl) (by decide) (by decide) ?_
        refine V_iconst (v := 0) (pc := 36) dX11_then_36 (by decide) ?_
        refine V_istore (pc := 37) (L2 := [(0, .ref (Z.2.2.2 99)), (1, .int a), (2, .int n), (3, .int b)]) dX11_then_37 (by decide) rfl (fun x4_37 ex4_37 => ?_)
        subst ex4_37
        refine V_sub (L' := [(4, .int (nI 0)), (0, .ref (Z.2.2.2 99)), (1, .int a), (2, .int n), (3, .int b)]) [0, 1, 2, 3, 4] rfl ?_
        refine Vloop (σ := Nat) (fun x => x ≤ n.toNatClampNeg) (fun x => n.toNatClampNeg - x) (fun x => V MW Z cX11_then RX11 6 (some .int) 3 0 0 B 0 0 39 [(4, .int (nI x)), (0, .ref (Z.2.2.2 99)), (1, .int a), (2, .int n), (3, .int b)] [] (mThN S a.toNatClampNeg x)) ?_ 0 (by exact Nat.zero_le _)
        rintro j hI39 ih39
        have hI39 : j ≤ n.toNatClampNeg := hI39
        show V MW Z cX11_then RX11 6 (some .int) 3 0 0 B 0 0 39 [(4, .int (nI j)), (0, .ref (Z.2.2.2 99)), (1, .int a), (2, .int n), (3, .int b)] [] (mThN S a.toNatClampNeg j)
        refine V_iload (pc := 39) dX11_then_39 0 rfl ?_
        refine V_iload_n (pc := 41) dX11_then_41 3 rfl rfl ?_
        refine V_icmp_ge (pc := 42) (tgt := 57) dX11_then_42 (by decide) (fun h42 => ?_) (fun h42 => ?_)
        · skip
          have hj : n.toNatClampNeg ≤ j := jge h42 (Nat.lt_of_le_of_lt hI39 (clampLt _))
          have ej : j = n.toNatClampNeg := Nat.le_antisymm hI39 hj
          refine V_iload_n (pc := 57) dX11_then_57 4 rfl rfl ?_
          refine V_if_ne (pc := 58) (tgt := 70) dX11_then_58 (by decide) (fun h58 => ?_) (fun h58 => ?_)
          · skip
            refine V_iload_n (pc := 70) dX11_then_70 4 rfl rfl ?_
            refine V_iconst (v := 1) (pc := 71) dX11_then_71 (by decide) ?_
            refine V_icmp_ne (pc := 72) (tgt := 82) dX11_then_72 (by decide) (fun h72 => ?_) (fun h72 => ?_)
            · skip
              refine V_aload_n (pc := 82) dX11_then_82 1 rfl rfl ?_
              refine Mg_carry (pc := 83) (v := (mRn S a.toNatClampNeg j).2) rfl dX11_then_83 ?_
              exact V_iret (pc := 86) dX11_then_86 (Nat.le_of_ble_eq_true rfl) (Nat.le_of_ble_eq_true rfl) (hB _ _ ⟨congrArg (fun z => some (Value.int z)) (by rw [if_pos ⟨h5, h15, h24⟩, ← ej]; simp [*]), by rw [if_pos ⟨h5, h15, h24⟩, ← ej]⟩)
            · skip
              refine V_aload_n (pc := 75) dX11_then_75 1 rfl rfl ?_
              refine Mg_state (pc := 76) (v := (mRn S a.toNatClampNeg j).1) rfl dX11_then_76 ?_
              refine V_goto (pc := 79) (tgt := 86) dX11_then_79 (by decide) ?_
              exact V_iret (pc := 86) dX11_then_86 (Nat.le_of_ble_eq_true rfl) (Nat.le_of_ble_eq_true rfl) (hB _ _ ⟨congrArg (fun z => some (Value.int z)) (by rw [if_pos ⟨h5, h15, h24⟩, ← ej]; simp [*]), by rw [if_pos ⟨h5, h15, h24⟩, ← ej]⟩)
          · skip
            refine V_aload_n (pc := 61) dX11_then_61 1 rfl rfl ?_
            refine Mg_state (pc := 62) (v := (mRn S a.toNatClampNeg j).1) rfl dX11_then_62 ?_
            refine V_iconst (v := 1) (pc := 65) dX11_then_65 (by decide) ?_
            refine V_iand (pc := 66) dX11_then_66 ?_
            refine V_goto (pc := 67) (tgt := 86) dX11_then_67 (by decide) ?_
            exact V_iret (pc := 86) dX11_then_86 (Nat.le_of_ble_eq_true rfl) (Nat.le_of_ble_eq_true rfl) (hB _ _ ⟨congrArg (fun z => some (Value.int z)) (by rw [if_pos ⟨h5, h15, h24⟩, ← ej]; simp [*]), by rw [if_pos ⟨h5, h15, h24⟩, ← ej]⟩)
        · skip
          have hj : j < n.toNatClampNeg := jlt h42 (Nat.lt_of_le_of_lt hI39 (clampLt _))
          refine V_aload_n (pc := 45) dX11_then_45 1 rfl rfl ?_
          refine McVi (pc := 46) dX11_then_46 (cM_steps Z _ _ _ _ _ _) kM_144 rfl rfl (Nat.le_of_ble_eq_true rfl) (by decide) (by decide) ?_
          refine V_istore (pc := 49) (L2 := [(4, .int (nI j)), (0, .ref (Z.2.2.2 99)), (1, .int a), (2, .int n), (3, .int b)]) dX11_then_49 (by decide) rfl (fun x5_49 ex5_49 => ?_)
          refine V_iinc (pc := 51) (v := 1) (L2 := [(5, .int x5_49), (0, .ref (Z.2.2.2 99)), (1, .int a), (2, .int n), (3, .int b)]) dX11_then_51 1 rfl (by decide) (by decide) rfl (fun x4_51 ex4_51 => ?_)
          rw [nI_1] at ex4_51
          subst ex4_51
          refine V_goto (pc := 54) (tgt := 39) dX11_then_54 (by decide) ?_
          refine V_sub (L' := [(4, .int (nI (j + 1))), (0, .ref (Z.2.2.2 99)), (1, .int a), (2, .int n), (3, .int b)]) [0, 2, 3, 4, 5] rfl ?_
          refine ih39 ((j + 1)) ?_ ?_
          · show ((j + 1)) ≤ n.toNatClampNeg
            exact hj
          · show n.toNatClampNeg - (j + 1) < n.toNatClampNeg - j
            omega
      · skip
        refine V_sipush (v := (-1000)) (pc := 27) dX11_then_27 (by decide) ?_
        exact V_iret (pc := 30) dX11_then_30 (Nat.le_of_ble_eq_true rfl) (Nat.le_of_ble_eq_true rfl) (hB _ _ ⟨congrArg (fun z => some (Value.int z)) (by exact (if_neg (fun h => h24 h.2.2)).symm), by exact (if_neg (fun h => h24 h.2.2)).symm⟩)
set_option maxHeartbeats 4000000 in
set_option maxRecDepth 100000 in
theorem cM_tells (Z : VZ) (S : MS) (a : Int32) (n : Int32) (ha : vp_in a 4) (hn : n.toNatClampNeg ≤ 40) : CtF MW Z yX11_tells cX11_tells 4 none 3 0 0 [.ref (Z.2.2.2 99), .int a, .int n] (S) none (mTells S a.toNatClampNeg n n.toNatClampNeg) := by
  refine V_entry (own := RX11) (by decide) rfl (Nat.le_of_ble_eq_true rfl) ?_
  intro B hB
  refine V_sub (L' := [(0, .ref (Z.2.2.2 99)), (1, .int a), (2, .int n)]) [0, 1, 2] rfl ?_
  refine V_aload_n (pc := 0) dX11_tells_0 0 rfl rfl ?_
  refine V_iload_n (pc := 1) dX11_tells_1 1 rfl rfl ?_
  refine McVv (pc := 2) dX11_tells_2 (cM_thinks Z _ _ (by assumption)) kM_140 rfl rfl (Nat.le_of_ble_eq_true rfl) (by decide) (by decide) ?_
  refine V_aload_n (pc := 5) dX11_tells_5 0 rfl rfl ?_
  refine V_iload_n (pc := 6) dX11_tells_6 2 rfl rfl ?_
  refine Mp_length (pc := 7) dX11_tells_7 ?_
  refine V_eqS _ (mTells0 S _ _ _ _ _ n) ?_
  refine V_iconst (v := 0) (pc := 10) dX11_tells_10 (by decide) ?_
  refine V_istore_n (pc := 11) (L2 := [(0, .ref (Z.2.2.2 99)), (1, .int a), (2, .int n)]) dX11_tells_11 rfl (by decide) rfl (fun x3_11 ex3_11 => ?_)
  subst ex3_11
  refine V_sub (L' := [(3, .int (nI 0)), (0, .ref (Z.2.2.2 99)), (1, .int a), (2, .int n)]) [0, 1, 2, 3] rfl ?_
  refine Vloop (σ := Nat) (fun x => x ≤ n.toNatClampNeg) (fun x => n.toNatClampNeg - x) (fun x => V MW Z cX11_tells RX11 4 none 3 0 0 B 0 0 12 [(3, .int (nI x)), (0, .ref (Z.2.2.2 99)), (1, .int a), (2, .int n)] [] (mTells S a.toNatClampNeg n x)) ?_ 0 (by exact Nat.zero_le _)
  rintro j hI12 ih12
  have hI12 : j ≤ n.toNatClampNeg := hI12
  show V MW Z cX11_tells RX11 4 none 3 0 0 B 0 0 12 [(3, .int (nI j)), (0, .ref (Z.2.2.2 99)), (1, .int a), (2, .int n)] [] (mTells S a.toNatClampNeg n j)
  refine V_iload_n (pc := 12) dX11_tells_12 0 rfl rfl ?_
  refine V_iload_n (pc := 13) dX11_tells_13 3 rfl rfl ?_
  refine V_icmp_ge (pc := 14) (tgt := 33) dX11_tells_14 (by decide) (fun h14 => ?_) (fun h14 => ?_)
  · skip
    have hj : n.toNatClampNeg ≤ j := jge h14 (Nat.lt_of_le_of_lt hI12 (clampLt _))
    have ej : j = n.toNatClampNeg := Nat.le_antisymm hI12 hj
    exact V_vret (pc := 33) dX11_tells_33 (Nat.le_of_ble_eq_true rfl) (Nat.le_of_ble_eq_true rfl) (hB _ _ ⟨rfl, by rw [ej]⟩)
  · skip
    have hj : j < n.toNatClampNeg := jlt h14 (Nat.lt_of_le_of_lt hI12 (clampLt _))
    refine V_aload_n (pc := 17) dX11_tells_17 1 rfl rfl ?_
    refine Mg_row (pc := 18) dX11_tells_18 ?_
    refine V_iload_n (pc := 21) dX11_tells_21 0 rfl rfl ?_
    refine V_aload_n (pc := 22) dX11_tells_22 1 rfl rfl ?_
    refine McVi (pc := 23) dX11_tells_23 (cM_steps Z _ _ _ _ _ _) kM_144 rfl rfl (Nat.le_of_ble_eq_true rfl) (by decide) (by decide) ?_
    refine Ms_row (pc := 26) dX11_tells_26 (by exact vp_in_nI (by omega) (by decide)) ?_
    refine V_eqS _ (mTellsP _ _ _ _ _ _ _ _ _ _) ?_
    rw [nI_clamp (by omega)]
    refine V_iinc (pc := 27) (v := 1) (L2 := [(0, .ref (Z.2.2.2 99)), (1, .int a), (2, .int n)]) dX11_tells_27 0 rfl (by decide) (by decide) rfl (fun x3_27 ex3_27 => ?_)
    rw [nI_1] at ex3_27
    subst ex3_27
    refine V_goto (pc := 30) (tgt := 12) dX11_tells_30 (by decide) ?_
    refine V_sub (L' := [(3, .int (nI (j + 1))), (0, .ref (Z.2.2.2 99)), (1, .int a), (2, .int n)]) [0, 1, 2, 3] rfl ?_
    refine ih12 ((j + 1)) ?_ ?_
    · show ((j + 1)) ≤ n.toNatClampNeg
      exact hj
    · show n.toNatClampNeg - (j + 1) < n.toNatClampNeg - j
      omega
set_option maxHeartbeats 4000000 in
set_option maxRecDepth 100000 in
theorem cM_comesTo (Z : VZ) (S : MS) (a : Int32) (ha : vp_in a 4) : CtF MW Z yX11_comesTo cX11_comesTo 3 (some .int) 0 0 0 [.ref (Z.2.2.2 99), .int a] (S) (some (.int (S.1 12))) (mCm S a.toNatClampNeg) := by
  refine V_entry (own := RX11) (by decide) rfl (Nat.le_of_ble_eq_true rfl) ?_
  intro B hB
  refine V_sub (L' := [(0, .ref (Z.2.2.2 99)), (1, .int a)]) [0, 1] rfl ?_
  refine V_aload_n (pc := 0) dX11_comesTo_0 0 rfl rfl ?_
  refine Mg_sorts (pc := 1) dX11_comesTo_1 ?_
  refine V_iload_n (pc := 4) dX11_comesTo_4 1 rfl rfl ?_
  refine V_iconst (v := 0) (pc := 5) dX11_comesTo_5 (by decide) ?_
  refine Ms_sorts (pc := 6) dX11_comesTo_6 (by first | assumption | decide) ?_
  refine V_aload_n (pc := 7) dX11_comesTo_7 0 rfl rfl ?_
  refine Mg_sizes (pc := 8) dX11_comesTo_8 ?_
  refine V_iload_n (pc := 11) dX11_comesTo_11 1 rfl rfl ?_
  refine V_aload_n (pc := 12) dX11_comesTo_12 0 rfl rfl ?_
  refine Mg_length (pc := 13) (v := (S.1 12)) rfl dX11_comesTo_13 ?_
  refine Ms_sizes (pc := 16) dX11_comesTo_16 (by first | assumption | decide) ?_
  refine V_eqS _ (mA_self _ 34) ?_
  refine V_iconst (v := 0) (pc := 17) dX11_comesTo_17 (by decide) ?_
  refine V_istore_n (pc := 18) (L2 := [(0, .ref (Z.2.2.2 99)), (1, .int a)]) dX11_comesTo_18 rfl (by decide) rfl (fun x2_18 ex2_18 => ?_)
  subst ex2_18
  refine V_sub (L' := [(2, .int (nI 0)), (0, .ref (Z.2.2.2 99)), (1, .int a)]) [0, 1, 2] rfl ?_
  refine Vloop (σ := Nat) (fun x => x ≤ 40) (fun x => 40 - x) (fun x => V MW Z cX11_comesTo RX11 3 (some .int) 0 0 0 B 0 0 19 [(2, .int (nI x)), (0, .ref (Z.2.2.2 99)), (1, .int a)] [] (mA (mA (mA S 32 (upd (S.2.2 32) a.toNatClampNeg 0)) 33 (upd (S.2.2 33) a.toNatClampNeg (S.1 12))) 34 (cmI S a.toNatClampNeg x))) ?_ 0 (by exact Nat.zero_le _)
  rintro j hI19 ih19
  have hI19 : j ≤ 40 := hI19
  show V MW Z cX11_comesTo RX11 3 (some .int) 0 0 0 B 0 0 19 [(2, .int (nI j)), (0, .ref (Z.2.2.2 99)), (1, .int a)] [] (mA (mA (mA S 32 (upd (S.2.2 32) a.toNatClampNeg 0)) 33 (upd (S.2.2 33) a.toNatClampNeg (S.1 12))) 34 (cmI S a.toNatClampNeg j))
  refine V_iload_n (pc := 19) dX11_comesTo_19 0 rfl rfl ?_
  refine V_bipush (v := 40) (pc := 20) dX11_comesTo_20 (by decide) ?_
  refine V_icmp_ge (pc := 22) (tgt := 60) dX11_comesTo_22 (by decide) (fun h22 => ?_) (fun h22 => ?_)
  · skip
    have hj : 40 ≤ j := jge h22 (by omega)
    have ej : j = 40 := by omega
    refine V_aload_n (pc := 60) dX11_comesTo_60 1 rfl rfl ?_
    refine Mg_length (pc := 61) (v := (S.1 12)) rfl dX11_comesTo_61 ?_
    exact V_iret (pc := 64) dX11_comesTo_64 (Nat.le_of_ble_eq_true rfl) (Nat.le_of_ble_eq_true rfl) (hB _ _ ⟨congrArg (fun z => some (Value.int z)) (by first | rfl | assumption | (simp_all; done)), by rw [ej]; rfl⟩)
  · skip
    have hj : j < 40 := jlt h22 (by omega)
    refine V_aload_n (pc := 25) dX11_comesTo_25 1 rfl rfl ?_
    refine Mg_items (pc := 26) dX11_comesTo_26 ?_
    refine V_bipush (v := 40) (pc := 29) dX11_comesTo_29 (by decide) ?_
    refine V_iload_n (pc := 31) dX11_comesTo_31 2 rfl rfl ?_
    refine V_imul (pc := 32) dX11_comesTo_32 ?_
    refine V_iload_n (pc := 33) dX11_comesTo_33 0 rfl rfl ?_
    refine V_iadd (pc := 34) dX11_comesTo_34 ?_
    refine V_iload_n (pc := 35) dX11_comesTo_35 0 rfl rfl ?_
    refine V_aload_n (pc := 36) dX11_comesTo_36 1 rfl rfl ?_
    refine Mg_length (pc := 37) (v := (S.1 12)) rfl dX11_comesTo_37 ?_
    refine V_icmp_ge (pc := 40) (tgt := 52) dX11_comesTo_40 (by decide) (fun h40 => ?_) (fun h40 => ?_)
    · skip
      refine V_iconst (v := 0) (pc := 52) dX11_comesTo_52 (by decide) ?_
      refine Ms_items (pc := 53) dX11_comesTo_53 (by exact in160 ha hj) ?_
      refine V_eqS (mA (mA (mA S 32 (upd (S.2.2 32) a.toNatClampNeg 0)) 33 (upd (S.2.2 33) a.toNatClampNeg (S.1 12))) 34 (cmI S a.toNatClampNeg (j + 1))) (by
          refine (mA_mA _ 34 _ _).trans ?_
          rw [cl40 ha hj]
          simp only [cmI, it]
          first | rw [if_pos h40] | (rw [if_neg h40]; rw [nI_clamp (by omega)])
          rfl) ?_
      refine V_iinc (pc := 54) (v := 1) (L2 := [(0, .ref (Z.2.2.2 99)), (1, .int a)]) dX11_comesTo_54 0 rfl (by decide) (by decide) rfl (fun x2_54 ex2_54 => ?_)
      rw [nI_1] at ex2_54
      subst ex2_54
      refine V_goto (pc := 57) (tgt := 19) dX11_comesTo_57 (by decide) ?_
      refine V_sub (L' := [(2, .int (nI (j + 1))), (0, .ref (Z.2.2.2 99)), (1, .int a)]) [0, 1, 2] rfl ?_
      refine ih19 ((j + 1)) ?_ ?_
      · show ((j + 1)) ≤ 40
        exact hj
      · show 40 - (j + 1) < 40 - j
        omega
    · skip
      refine V_aload_n (pc := 43) dX11_comesTo_43 1 rfl rfl ?_
      refine Mg_row (pc := 44) dX11_comesTo_44 ?_
      refine V_iload_n (pc := 47) dX11_comesTo_47 0 rfl rfl ?_
      refine Ml_row (pc := 48) dX11_comesTo_48 (by exact vp_in_nI (by omega) (by decide)) ?_
      refine V_goto (pc := 49) (tgt := 53) dX11_comesTo_49 (by decide) ?_
      refine Ms_items (pc := 53) dX11_comesTo_53 (by exact in160 ha hj) ?_
      refine V_eqS (mA (mA (mA S 32 (upd (S.2.2 32) a.toNatClampNeg 0)) 33 (upd (S.2.2 33) a.toNatClampNeg (S.1 12))) 34 (cmI S a.toNatClampNeg (j + 1))) (by
          refine (mA_mA _ 34 _ _).trans ?_
          rw [cl40 ha hj]
          simp only [cmI, it]
          first | rw [if_pos h40] | (rw [if_neg h40]; rw [nI_clamp (by omega)])
          rfl) ?_
      refine V_iinc (pc := 54) (v := 1) (L2 := [(0, .ref (Z.2.2.2 99)), (1, .int a)]) dX11_comesTo_54 0 rfl (by decide) (by decide) rfl (fun x2_54 ex2_54 => ?_)
      rw [nI_1] at ex2_54
      subst ex2_54
      refine V_goto (pc := 57) (tgt := 19) dX11_comesTo_57 (by decide) ?_
      refine V_sub (L' := [(2, .int (nI (j + 1))), (0, .ref (Z.2.2.2 99)), (1, .int a)]) [0, 1, 2] rfl ?_
      refine ih19 ((j + 1)) ?_ ?_
      · show ((j + 1)) ≤ 40
        exact hj
      · show 40 - (j + 1) < 40 - j
        omega
set_option maxHeartbeats 4000000 in
set_option maxRecDepth 100000 in
theorem cM_reads (Z : VZ) (S : MS) (a : Int32) (ha : vp_in a 4) (hs : (S.2.2 33 a.toNatClampNeg).toNatClampNeg ≤ 40) : CtF MW Z yX11_reads cX11_reads 3 none 0 0 0 [.ref (Z.2.2.2 99), .int a] (S) none (mRd S a.toNatClampNeg) := by
  refine V_entry (own := RX11) (by decide) rfl (Nat.le_of_ble_eq_true rfl) ?_
  intro B hB
  refine V_sub (L' := [(0, .ref (Z.2.2.2 99)), (1, .int a)]) [0, 1] rfl ?_
  refine V_aload_n (pc := 0) dX11_reads_0 0 rfl rfl ?_
  refine V_aload_n (pc := 1) dX11_reads_1 0 rfl rfl ?_
  refine Mg_sizes (pc := 2) dX11_reads_2 ?_
  refine V_iload_n (pc := 5) dX11_reads_5 1 rfl rfl ?_
  refine Ml_sizes (pc := 6) dX11_reads_6 (by exact ha) ?_
  refine Mp_length (pc := 7) dX11_reads_7 ?_
  refine V_eqS _ (mA_self _ 11) ?_
  refine V_iconst (v := 0) (pc := 10) dX11_reads_10 (by decide) ?_
  refine V_istore_n (pc := 11) (L2 := [(0, .ref (Z.2.2.2 99)), (1, .int a)]) dX11_reads_11 rfl (by decide) rfl (fun x2_11 ex2_11 => ?_)
  subst ex2_11
  refine V_sub (L' := [(2, .int (nI 0)), (0, .ref (Z.2.2.2 99)), (1, .int a)]) [0, 1, 2] rfl ?_
  refine Vloop (σ := Nat) (fun x => x ≤ (S.2.2 33 a.toNatClampNeg).toNatClampNeg) (fun x => (S.2.2 33 a.toNatClampNeg).toNatClampNeg - x) (fun x => V MW Z cX11_reads RX11 3 none 0 0 0 B 0 0 12 [(2, .int (nI x)), (0, .ref (Z.2.2.2 99)), (1, .int a)] [] (mA (mF S 12 (S.2.2 33 a.toNatClampNeg)) 11 (rdI S a.toNatClampNeg x))) ?_ 0 (by exact Nat.zero_le _)
  rintro j hI12 ih12
  have hI12 : j ≤ (S.2.2 33 a.toNatClampNeg).toNatClampNeg := hI12
  show V MW Z cX11_reads RX11 3 none 0 0 0 B 0 0 12 [(2, .int (nI j)), (0, .ref (Z.2.2.2 99)), (1, .int a)] [] (mA (mF S 12 (S.2.2 33 a.toNatClampNeg)) 11 (rdI S a.toNatClampNeg j))
  refine V_iload_n (pc := 12) dX11_reads_12 0 rfl rfl ?_
  refine V_aload_n (pc := 13) dX11_reads_13 1 rfl rfl ?_
  refine Mg_length (pc := 14) (v := (S.2.2 33 a.toNatClampNeg)) rfl dX11_reads_14 ?_
  refine V_icmp_ge (pc := 17) (tgt := 45) dX11_reads_17 (by decide) (fun h17 => ?_) (fun h17 => ?_)
  · skip
    have hj : (S.2.2 33 a.toNatClampNeg).toNatClampNeg ≤ j := jge h17 (by omega)
    have ej : j = (S.2.2 33 a.toNatClampNeg).toNatClampNeg := by omega
    exact V_vret (pc := 45) dX11_reads_45 (Nat.le_of_ble_eq_true rfl) (Nat.le_of_ble_eq_true rfl) (hB _ _ ⟨rfl, by rw [ej]; rfl⟩)
  · skip
    have hj : j < (S.2.2 33 a.toNatClampNeg).toNatClampNeg := jlt h17 (by omega)
    refine V_aload_n (pc := 20) dX11_reads_20 1 rfl rfl ?_
    refine Mg_row (pc := 21) dX11_reads_21 ?_
    refine V_iload_n (pc := 24) dX11_reads_24 0 rfl rfl ?_
    refine V_aload_n (pc := 25) dX11_reads_25 1 rfl rfl ?_
    refine Mg_items (pc := 26) dX11_reads_26 ?_
    refine V_bipush (v := 40) (pc := 29) dX11_reads_29 (by decide) ?_
    refine V_iload_n (pc := 31) dX11_reads_31 2 rfl rfl ?_
    refine V_imul (pc := 32) dX11_reads_32 ?_
    refine V_iload_n (pc := 33) dX11_reads_33 0 rfl rfl ?_
    refine V_iadd (pc := 34) dX11_reads_34 ?_
    refine Ml_items (pc := 35) dX11_reads_35 (by exact in160 ha (by omega)) ?_
    refine V_iconst (v := 1) (pc := 36) dX11_reads_36 (by decide) ?_
    refine V_iand (pc := 37) dX11_reads_37 ?_
    refine Ms_row (pc := 38) dX11_reads_38 (by exact vp_in_nI (by omega) (by decide)) ?_
    refine V_eqS (mA (mF S 12 (S.2.2 33 a.toNatClampNeg)) 11 (rdI S a.toNatClampNeg (j + 1))) (by
        refine (mA_mA _ 11 _ _).trans ?_
        rw [cl40 ha (by omega), nI_clamp (by omega)]
        rfl) ?_
    refine V_iinc (pc := 39) (v := 1) (L2 := [(0, .ref (Z.2.2.2 99)), (1, .int a)]) dX11_reads_39 0 rfl (by decide) (by decide) rfl (fun x2_39 ex2_39 => ?_)
    rw [nI_1] at ex2_39
    subst ex2_39
    refine V_goto (pc := 42) (tgt := 12) dX11_reads_42 (by decide) ?_
    refine V_sub (L' := [(2, .int (nI (j + 1))), (0, .ref (Z.2.2.2 99)), (1, .int a)]) [0, 1, 2] rfl ?_
    refine ih12 ((j + 1)) ?_ ?_
    · show ((j + 1)) ≤ (S.2.2 33 a.toNatClampNeg).toNatClampNeg
      exact hj
    · show _ - (j + 1) < _ - j
      omega
set_option maxHeartbeats 4000000 in
set_option maxRecDepth 100000 in
theorem cM_isThere (Z : VZ) (S : MS) (a : Int32) : CtF MW Z yX11_isThere cX11_isThere 2 (some .boolean) 2 0 0 [.ref (Z.2.2.2 99), .int a] (S) (some (.int (bI ((0 ≤ a ∧ a ≤ 3) ∧ ¬ S.2.2 32 a.toNatClampNeg < 0)))) (S) := by
  refine V_entry (own := RX11) (by decide) rfl (Nat.le_of_ble_eq_true rfl) ?_
  intro B hB
  refine V_sub (L' := [(0, .ref (Z.2.2.2 99)), (1, .int a)]) [0, 1] rfl ?_
  refine V_iload_n (pc := 0) dX11_isThere_0 1 rfl rfl ?_
  refine McSi (pc := 1) dX11_isThere_1 (cM_isSheet Z _ _) kM_150 rfl (Nat.le_of_ble_eq_true rfl) (by decide) (by decide) ?_
  refine V_bif_eq (pc := 4) (tgt := 20) dX11_isThere_4 (by decide) (fun h4 => ?_) (fun h4 => ?_)
  · skip
    refine V_iconst (v := 0) (pc := 20) dX11_isThere_20 (by decide) ?_
    exact V_zret (pc := 21) dX11_isThere_21 (Nat.le_of_ble_eq_true rfl) (Nat.le_of_ble_eq_true rfl) (Or.inl rfl) (hB _ _ ⟨congrArg (fun z => some (Value.int z)) (by exact (bI_f (fun h => h4 h.1)).symm), by rfl⟩)
  · skip
    refine V_aload_n (pc := 7) dX11_isThere_7 0 rfl rfl ?_
    refine Mg_sorts (pc := 8) dX11_isThere_8 ?_
    refine V_iload_n (pc := 11) dX11_isThere_11 1 rfl rfl ?_
    refine Ml_sorts (pc := 12) dX11_isThere_12 (by exact inSh h4) ?_
    refine V_if_lt (pc := 13) (tgt := 20) dX11_isThere_13 (by decide) (fun h13 => ?_) (fun h13 => ?_)
    · skip
      refine V_iconst (v := 0) (pc := 20) dX11_isThere_20 (by decide) ?_
      exact V_zret (pc := 21) dX11_isThere_21 (Nat.le_of_ble_eq_true rfl) (Nat.le_of_ble_eq_true rfl) (Or.inl rfl) (hB _ _ ⟨congrArg (fun z => some (Value.int z)) (by first | exact (bI_t ⟨h4, h13⟩).symm | exact (bI_f (fun h => h.2 h13)).symm | exact (bI_f (fun h => h4 h.1)).symm), by rfl⟩)
    · skip
      refine V_iconst (v := 1) (pc := 16) dX11_isThere_16 (by decide) ?_
      refine V_goto (pc := 17) (tgt := 21) dX11_isThere_17 (by decide) ?_
      exact V_zret (pc := 21) dX11_isThere_21 (Nat.le_of_ble_eq_true rfl) (Nat.le_of_ble_eq_true rfl) (Or.inr rfl) (hB _ _ ⟨congrArg (fun z => some (Value.int z)) (by first | exact (bI_t ⟨h4, h13⟩).symm | exact (bI_f (fun h => h.2 h13)).symm | exact (bI_f (fun h => h4 h.1)).symm), by rfl⟩)
set_option maxHeartbeats 4000000 in
set_option maxRecDepth 100000 in
theorem cM_numberNow (Z : VZ) (S : MS) (hs : (S.1 12).toNatClampNeg ≤ 40) : CtF MW Z yX11_numberNow cX11_numberNow 4 (some .long) 0 0 0 [.ref (Z.2.2.2 99)] (S) (some (.long (nbI (S.2.2 11) (S.1 12).toNatClampNeg))) (S) := by
  refine V_entry (own := RX11) (by decide) rfl (Nat.le_of_ble_eq_true rfl) ?_
  intro B hB
  refine V_sub (L' := [(0, .ref (Z.2.2.2 99))]) [0] rfl ?_
  refine V_lconst (v := 0) (pc := 0) dX11_numberNow_0 (by decide) ?_
  refine V_lstore_n (pc := 1) (L2 := [(0, .ref (Z.2.2.2 99))]) dX11_numberNow_1 rfl (by decide) rfl (fun x1_1 ex1_1 => ?_)
  subst ex1_1
  refine V_iconst (v := 0) (pc := 2) dX11_numberNow_2 (by decide) ?_
  refine V_istore_n (pc := 3) (L2 := [(1, .long 0), (0, .ref (Z.2.2.2 99))]) dX11_numberNow_3 rfl (by decide) rfl (fun x3_3 ex3_3 => ?_)
  subst ex3_3
  refine V_sub (L' := [(3, .int (nI 0)), (1, .long 0), (0, .ref (Z.2.2.2 99))]) [0, 1, 2] rfl ?_
  refine Vloop (σ := Nat × Int64) (fun x => (x.1) ≤ (S.1 12).toNatClampNeg ∧ (x.2) = nbI (S.2.2 11) (x.1)) (fun x => (S.1 12).toNatClampNeg - (x.1)) (fun x => V MW Z cX11_numberNow RX11 4 (some .long) 0 0 0 B 0 0 4 [(3, .int (nI (x.1))), (1, .long (x.2)), (0, .ref (Z.2.2.2 99))] [] (S)) ?_ (0, 0) (by exact ⟨Nat.zero_le _, rfl⟩)
  rintro ⟨j, u⟩ hI4 ih4
  have hI4 : j ≤ (S.1 12).toNatClampNeg ∧ u = nbI (S.2.2 11) j := hI4
  show V MW Z cX11_numberNow RX11 4 (some .long) 0 0 0 B 0 0 4 [(3, .int (nI j)), (1, .long u), (0, .ref (Z.2.2.2 99))] [] (S)
  refine V_iload_n (pc := 4) dX11_numberNow_4 0 rfl rfl ?_
  refine V_aload_n (pc := 5) dX11_numberNow_5 2 rfl rfl ?_
  refine Mg_length (pc := 6) (v := (S.1 12)) rfl dX11_numberNow_6 ?_
  refine V_icmp_ge (pc := 9) (tgt := 30) dX11_numberNow_9 (by decide) (fun h9 => ?_) (fun h9 => ?_)
  · skip
    have hj : (S.1 12).toNatClampNeg ≤ j := jge h9 (Nat.lt_of_le_of_lt hI4.1 (clampLt _))
    have ej : j = (S.1 12).toNatClampNeg := Nat.le_antisymm hI4.1 hj
    refine V_lload_n (pc := 30) dX11_numberNow_30 1 rfl rfl ?_
    exact V_lret (pc := 31) dX11_numberNow_31 (Nat.le_of_ble_eq_true rfl) (Nat.le_of_ble_eq_true rfl) (hB _ _ ⟨congrArg (fun z => some (Value.long z)) (by rw [hI4.2, ej]), by rfl⟩)
  · skip
    have hj : j < (S.1 12).toNatClampNeg := jlt h9 (Nat.lt_of_le_of_lt hI4.1 (clampLt _))
    refine V_lload_n (pc := 12) dX11_numberNow_12 1 rfl rfl ?_
    refine V_aload_n (pc := 13) dX11_numberNow_13 2 rfl rfl ?_
    refine Mg_row (pc := 14) dX11_numberNow_14 ?_
    refine V_iload_n (pc := 17) dX11_numberNow_17 0 rfl rfl ?_
    refine Ml_row (pc := 18) dX11_numberNow_18 (by exact vp_in_nI (by omega) (by decide)) ?_
    refine V_i2l (pc := 19) dX11_numberNow_19 rfl ?_
    refine V_iload_n (pc := 20) dX11_numberNow_20 0 rfl rfl ?_
    refine V_lshl (pc := 21) dX11_numberNow_21 rfl ?_
    refine V_lor (pc := 22) dX11_numberNow_22 ?_
    refine V_lstore_n (pc := 23) (L2 := [(3, .int (nI j)), (0, .ref (Z.2.2.2 99))]) dX11_numberNow_23 rfl (by decide) rfl (fun x1_23 ex1_23 => ?_)
    subst ex1_23
    refine V_iinc (pc := 24) (v := 1) (L2 := [(1, .long (u ||| ((Int32.toInt64 (S.2.2 11 ((nI j)).toNatClampNeg)) <<< (Int32.toInt64 (nI j) &&& 63)))), (0, .ref (Z.2.2.2 99))]) dX11_numberNow_24 1 rfl (by decide) (by decide) rfl (fun x3_24 ex3_24 => ?_)
    rw [nI_1] at ex3_24
    subst ex3_24
    refine V_goto (pc := 27) (tgt := 4) dX11_numberNow_27 (by decide) ?_
    refine V_sub (L' := [(3, .int (nI (j + 1))), (1, .long (u ||| ((Int32.toInt64 (S.2.2 11 ((nI j)).toNatClampNeg)) <<< (Int32.toInt64 (nI j) &&& 63)))), (0, .ref (Z.2.2.2 99))]) [0, 1, 2] rfl ?_
    refine ih4 (((j + 1)), _) ?_ ?_
    · show ((j + 1)) ≤ (S.1 12).toNatClampNeg ∧ ((u ||| ((Int32.toInt64 (S.2.2 11 ((nI j)).toNatClampNeg)) <<< (Int32.toInt64 (nI j) &&& 63)))) = nbI (S.2.2 11) ((j + 1))
      refine ⟨hj, ?_⟩
      rw [hI4.2, nI_clamp (by omega)]
      rfl
    · show _ - (j + 1) < _ - j
      omega
set_option maxHeartbeats 4000000 in
set_option maxRecDepth 100000 in
theorem cM_number (Z : VZ) (S : MS) (a : Int32) (hs : sOK S) : CtF MW Z yX11_number cX11_number 2 (some .long) 3 0 0 [.ref (Z.2.2.2 99), .int a] (S) (some (.long (if (0 ≤ a ∧ a ≤ 3) ∧ ¬ S.2.2 32 a.toNatClampNeg < 0 then nbI (rdI S a.toNatClampNeg (S.2.2 33 a.toNatClampNeg).toNatClampNeg) (S.2.2 33 a.toNatClampNeg).toNatClampNeg else -9223372036854775808))) (if (0 ≤ a ∧ a ≤ 3) ∧ ¬ S.2.2 32 a.toNatClampNeg < 0 then mRd S a.toNatClampNeg else S) := by
  refine V_entry (own := RX11) (by decide) rfl (Nat.le_of_ble_eq_true rfl) ?_
  intro B hB
  refine V_sub (L' := [(0, .ref (Z.2.2.2 99)), (1, .int a)]) [0, 1] rfl ?_
  refine V_aload_n (pc := 0) dX11_number_0 0 rfl rfl ?_
  refine V_iload_n (pc := 1) dX11_number_1 1 rfl rfl ?_
  refine McVi (pc := 2) dX11_number_2 (cM_isThere Z _ _) kM_160 rfl rfl (Nat.le_of_ble_eq_true rfl) (by decide) (by decide) ?_
  refine V_bif_ne (pc := 5) (tgt := 12) dX11_number_5 (by decide) (fun h5 => ?_) (fun h5 => ?_)
  · skip
    refine V_aload_n (pc := 12) dX11_number_12 0 rfl rfl ?_
    refine V_iload_n (pc := 13) dX11_number_13 1 rfl rfl ?_
    refine McVv (pc := 14) dX11_number_14 (cM_reads Z _ _ (by exact inSh h5.1) (by exact sOK_in hs (inSh h5.1))) kM_165 rfl rfl (Nat.le_of_ble_eq_true rfl) (by decide) (by decide) ?_
    refine V_aload_n (pc := 17) dX11_number_17 0 rfl rfl ?_
    refine McVl (pc := 18) dX11_number_18 (cM_numberNow Z _ (by exact sOK_in hs (inSh h5.1))) kM_168 rfl rfl (Nat.le_of_ble_eq_true rfl) (by decide) (by decide) ?_
    exact V_lret (pc := 21) dX11_number_21 (Nat.le_of_ble_eq_true rfl) (Nat.le_of_ble_eq_true rfl) (hB _ _ ⟨congrArg (fun z => some (Value.long z)) (by rw [if_pos h5]; rfl), by rw [if_pos h5]⟩)
  · skip
    refine V_ldc2 (pc := 8) dX11_number_8 tw_1083 ?_
    exact V_lret (pc := 11) dX11_number_11 (Nat.le_of_ble_eq_true rfl) (Nat.le_of_ble_eq_true rfl) (hB _ _ ⟨congrArg (fun z => some (Value.long z)) (by exact (if_neg h5).symm), by exact (if_neg h5).symm⟩)
set_option maxHeartbeats 4000000 in
set_option maxRecDepth 100000 in
theorem cM_restOf (Z : VZ) (S : MS) (c : Int32) (t : Int32) (f : Int32) : CtF MW Z yX11_restOf cX11_restOf 5 (some .int) 1 0 0 [.int c, .int t, .int f] (S) (some (.int (rst c t f))) (S) := by
  refine V_entry (own := RX11) (by decide) rfl (Nat.le_of_ble_eq_true rfl) ?_
  intro B hB
  refine V_sub (L' := [(0, .int c), (1, .int t), (2, .int f)]) [0, 1, 2] rfl ?_
  refine V_iload_n (pc := 0) dX11_restOf_0 2 rfl rfl ?_
  refine V_iconst (v := 1) (pc := 1) dX11_restOf_1 (by decide) ?_
  refine V_iload_n (pc := 2) dX11_restOf_2 0 rfl rfl ?_
  refine V_ishl (pc := 3) dX11_restOf_3 ?_
  refine V_iconst (v := 1) (pc := 4) dX11_restOf_4 (by decide) ?_
  refine V_isub (pc := 5) dX11_restOf_5 ?_
  refine V_iand (pc := 6) dX11_restOf_6 ?_
  refine V_ineg (pc := 7) dX11_restOf_7 ?_
  refine V_istore_n (pc := 8) (L2 := [(0, .int c), (1, .int t), (2, .int f)]) dX11_restOf_8 rfl (by decide) rfl (fun x3_8 ex3_8 => ?_)
  subst ex3_8
  refine V_iconst (v := 0) (pc := 9) dX11_restOf_9 (by decide) ?_
  refine V_istore (pc := 10) (L2 := [(3, .int (-(f &&& ((1 <<< (c &&& 31)) - 1)))), (0, .int c), (1, .int t), (2, .int f)]) dX11_restOf_10 (by decide) rfl (fun x4_10 ex4_10 => ?_)
  subst ex4_10
  refine V_sub (L' := [(4, .int (nI 0)), (3, .int (-(f &&& ((1 <<< (c &&& 31)) - 1)))), (0, .int c), (1, .int t), (2, .int f)]) [0, 1, 2, 3, 4] rfl ?_
  refine Vloop (σ := Nat × Int32) (fun x => (x.1) ≤ c.toNatClampNeg ∧ (x.2) = it (fun i b => if t >>> (nI i &&& 31) &&& 1 = 1 then b + (f &&& (1 <<< (nI i &&& 31) - 1)) <<< ((c - nI i) &&& 31) else b) (x.1) (-(f &&& (1 <<< (c &&& 31) - 1)))) (fun x => c.toNatClampNeg - (x.1)) (fun x => V MW Z cX11_restOf RX11 5 (some .int) 1 0 0 B 0 0 12 [(4, .int (nI (x.1))), (3, .int (x.2)), (0, .int c), (1, .int t), (2, .int f)] [] (S)) ?_ (0, (-(f &&& ((1 <<< (c &&& 31)) - 1)))) (by exact ⟨Nat.zero_le _, rfl⟩)
  rintro ⟨j, u⟩ hI12 ih12
  have hI12 : j ≤ c.toNatClampNeg ∧ u = it (fun i b => if t >>> (nI i &&& 31) &&& 1 = 1 then b + (f &&& (1 <<< (nI i &&& 31) - 1)) <<< ((c - nI i) &&& 31) else b) j (-(f &&& (1 <<< (c &&& 31) - 1))) := hI12
  show V MW Z cX11_restOf RX11 5 (some .int) 1 0 0 B 0 0 12 [(4, .int (nI j)), (3, .int u), (0, .int c), (1, .int t), (2, .int f)] [] (S)
  refine V_iload (pc := 12) dX11_restOf_12 0 rfl ?_
  refine V_iload_n (pc := 14) dX11_restOf_14 2 rfl rfl ?_
  refine V_icmp_ge (pc := 15) (tgt := 49) dX11_restOf_15 (by decide) (fun h15 => ?_) (fun h15 => ?_)
  · skip
    have hj : c.toNatClampNeg ≤ j := jge h15 (Nat.lt_of_le_of_lt hI12.1 (clampLt _))
    have ej : j = c.toNatClampNeg := Nat.le_antisymm hI12.1 hj
    refine V_iload_n (pc := 49) dX11_restOf_49 1 rfl rfl ?_
    exact V_iret (pc := 50) dX11_restOf_50 (Nat.le_of_ble_eq_true rfl) (Nat.le_of_ble_eq_true rfl) (hB _ _ ⟨congrArg (fun z => some (Value.int z)) (by rw [hI12.2, ej]; rfl), by rfl⟩)
  · skip
    have hj : j < c.toNatClampNeg := jlt h15 (Nat.lt_of_le_of_lt hI12.1 (clampLt _))
    refine V_iload_n (pc := 18) dX11_restOf_18 3 rfl rfl ?_
    refine V_iload (pc := 19) dX11_restOf_19 0 rfl ?_
    refine McSi (pc := 21) dX11_restOf_21 (cM_has Z _ _ _) kM_96 rfl (Nat.le_of_ble_eq_true rfl) (by decide) (by decide) ?_
    refine V_bif_eq (pc := 24) (tgt := 43) dX11_restOf_24 (by decide) (fun h24 => ?_) (fun h24 => ?_)
    · skip
      refine V_iinc (pc := 43) (v := 1) (L2 := [(3, .int u), (0, .int c), (1, .int t), (2, .int f)]) dX11_restOf_43 0 rfl (by decide) (by decide) rfl (fun x4_43 ex4_43 => ?_)
      rw [nI_1] at ex4_43
      subst ex4_43
      refine V_goto (pc := 46) (tgt := 12) dX11_restOf_46 (by decide) ?_
      refine V_sub (L' := [(4, .int (nI (j + 1))), (3, .int u), (0, .int c), (1, .int t), (2, .int f)]) [0, 1, 2, 3, 4] rfl ?_
      refine ih12 (((j + 1)), _) ?_ ?_
      · show ((j + 1)) ≤ c.toNatClampNeg ∧ (u) = it (fun i b => if t >>> (nI i &&& 31) &&& 1 = 1 then b + (f &&& (1 <<< (nI i &&& 31) - 1)) <<< ((c - nI i) &&& 31) else b) ((j + 1)) (-(f &&& (1 <<< (c &&& 31) - 1)))
        refine ⟨hj, ?_⟩
        simp only [it]
        first | rw [if_pos h24, hI12.2] | rw [if_neg h24, hI12.2]
      · show c.toNatClampNeg - (j + 1) < c.toNatClampNeg - j
        omega
    · skip
      refine V_iload_n (pc := 27) dX11_restOf_27 1 rfl rfl ?_
      refine V_iload_n (pc := 28) dX11_restOf_28 4 rfl rfl ?_
      refine V_iconst (v := 1) (pc := 29) dX11_restOf_29 (by decide) ?_
      refine V_iload (pc := 30) dX11_restOf_30 0 rfl ?_
      refine V_ishl (pc := 32) dX11_restOf_32 ?_
      refine V_iconst (v := 1) (pc := 33) dX11_restOf_33 (by decide) ?_
      refine V_isub (pc := 34) dX11_restOf_34 ?_
      refine V_iand (pc := 35) dX11_restOf_35 ?_
      refine V_iload_n (pc := 36) dX11_restOf_36 2 rfl rfl ?_
      refine V_iload (pc := 37) dX11_restOf_37 0 rfl ?_
      refine V_isub (pc := 39) dX11_restOf_39 ?_
      refine V_ishl (pc := 40) dX11_restOf_40 ?_
      refine V_iadd (pc := 41) dX11_restOf_41 ?_
      refine V_istore_n (pc := 42) (L2 := [(4, .int (nI j)), (0, .int c), (1, .int t), (2, .int f)]) dX11_restOf_42 rfl (by decide) rfl (fun x3_42 ex3_42 => ?_)
      subst ex3_42
      refine V_iinc (pc := 43) (v := 1) (L2 := [(3, .int (u + ((f &&& ((1 <<< ((nI j) &&& 31)) - 1)) <<< ((c - (nI j)) &&& 31)))), (0, .int c), (1, .int t), (2, .int f)]) dX11_restOf_43 1 rfl (by decide) (by decide) rfl (fun x4_43 ex4_43 => ?_)
      rw [nI_1] at ex4_43
      subst ex4_43
      refine V_goto (pc := 46) (tgt := 12) dX11_restOf_46 (by decide) ?_
      refine V_sub (L' := [(4, .int (nI (j + 1))), (3, .int (u + ((f &&& ((1 <<< ((nI j) &&& 31)) - 1)) <<< ((c - (nI j)) &&& 31)))), (0, .int c), (1, .int t), (2, .int f)]) [0, 1, 2, 3, 4] rfl ?_
      refine ih12 (((j + 1)), _) ?_ ?_
      · show ((j + 1)) ≤ c.toNatClampNeg ∧ ((u + ((f &&& ((1 <<< ((nI j) &&& 31)) - 1)) <<< ((c - (nI j)) &&& 31)))) = it (fun i b => if t >>> (nI i &&& 31) &&& 1 = 1 then b + (f &&& (1 <<< (nI i &&& 31) - 1)) <<< ((c - nI i) &&& 31) else b) ((j + 1)) (-(f &&& (1 <<< (c &&& 31) - 1)))
        refine ⟨hj, ?_⟩
        simp only [it]
        first | rw [if_pos h24, hI12.2] | rw [if_neg h24, hI12.2]
      · show c.toNatClampNeg - (j + 1) < c.toNatClampNeg - j
        omega
set_option maxHeartbeats 4000000 in
set_option maxRecDepth 100000 in
theorem cM_isWithin (Z : VZ) (S : MS) (a : Int32) (b : Int32) (n : Int32) (ha : vp_in a 4) : CtF MW Z yX11_isWithin cX11_isWithin 4 (some .boolean) 0 0 0 [.ref (Z.2.2.2 99), .int a, .int b, .int n] (S) (some (.int (bI (¬ b < 0 ∧ ¬ n < 0 ∧ ¬ S.2.2 33 a.toNatClampNeg - n < b)))) (S) := by
  refine V_entry (own := RX11) (by decide) rfl (Nat.le_of_ble_eq_true rfl) ?_
  intro B hB
  refine V_sub (L' := [(0, .ref (Z.2.2.2 99)), (1, .int a), (2, .int b), (3, .int n)]) [0, 1, 2, 3] rfl ?_
  refine V_iload_n (pc := 0) dX11_isWithin_0 2 rfl rfl ?_
  refine V_if_lt (pc := 1) (tgt := 24) dX11_isWithin_1 (by decide) (fun h1 => ?_) (fun h1 => ?_)
  · skip
    refine V_iconst (v := 0) (pc := 24) dX11_isWithin_24 (by decide) ?_
    exact V_zret (pc := 25) dX11_isWithin_25 (Nat.le_of_ble_eq_true rfl) (Nat.le_of_ble_eq_true rfl) (Or.inl rfl) (hB _ _ ⟨congrArg (fun z => some (Value.int z)) (by exact (bI_f (fun h => h.1 h1)).symm), by rfl⟩)
  · skip
    refine V_iload_n (pc := 4) dX11_isWithin_4 3 rfl rfl ?_
    refine V_if_lt (pc := 5) (tgt := 24) dX11_isWithin_5 (by decide) (fun h5 => ?_) (fun h5 => ?_)
    · skip
      refine V_iconst (v := 0) (pc := 24) dX11_isWithin_24 (by decide) ?_
      exact V_zret (pc := 25) dX11_isWithin_25 (Nat.le_of_ble_eq_true rfl) (Nat.le_of_ble_eq_true rfl) (Or.inl rfl) (hB _ _ ⟨congrArg (fun z => some (Value.int z)) (by exact (bI_f (fun h => h.2.1 h5)).symm), by rfl⟩)
    · skip
      refine V_iload_n (pc := 8) dX11_isWithin_8 2 rfl rfl ?_
      refine V_aload_n (pc := 9) dX11_isWithin_9 0 rfl rfl ?_
      refine Mg_sizes (pc := 10) dX11_isWithin_10 ?_
      refine V_iload_n (pc := 13) dX11_isWithin_13 1 rfl rfl ?_
      refine Ml_sizes (pc := 14) dX11_isWithin_14 (by first | assumption | decide) ?_
      refine V_iload_n (pc := 15) dX11_isWithin_15 3 rfl rfl ?_
      refine V_isub (pc := 16) dX11_isWithin_16 ?_
      refine V_icmp_gt (pc := 17) (tgt := 24) dX11_isWithin_17 (by decide) (fun h17 => ?_) (fun h17 => ?_)
      · skip
        refine V_iconst (v := 0) (pc := 24) dX11_isWithin_24 (by decide) ?_
        exact V_zret (pc := 25) dX11_isWithin_25 (Nat.le_of_ble_eq_true rfl) (Nat.le_of_ble_eq_true rfl) (Or.inl rfl) (hB _ _ ⟨congrArg (fun z => some (Value.int z)) (by first | exact (bI_t ⟨h1, h5, h17⟩).symm | exact (bI_f (fun h => h.2.2 h17)).symm), by rfl⟩)
      · skip
        refine V_iconst (v := 1) (pc := 20) dX11_isWithin_20 (by decide) ?_
        refine V_goto (pc := 21) (tgt := 25) dX11_isWithin_21 (by decide) ?_
        exact V_zret (pc := 25) dX11_isWithin_25 (Nat.le_of_ble_eq_true rfl) (Nat.le_of_ble_eq_true rfl) (Or.inr rfl) (hB _ _ ⟨congrArg (fun z => some (Value.int z)) (by first | exact (bI_t ⟨h1, h5, h17⟩).symm | exact (bI_f (fun h => h.2.2 h17)).symm), by rfl⟩)
