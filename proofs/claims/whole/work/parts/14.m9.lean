theorem ow_eq {x L : Nat} (hx : x < 2 ^ 31) : (if x < L then nI x else (-1 : Int32)) = -1 ↔ ¬ x < L := by
  by_cases h : x < L
  · rw [if_pos h]
    constructor
    · intro e
      have h1 := nI_toInt hx
      rw [e] at h1
      have : (-1 : Int32).toInt = -1 := rfl
      omega
    · intro q; exact absurd h q
  · rw [if_neg h]; exact ⟨fun _ => h, fun _ => rfl⟩
theorem fmis_le (f g : Nat → Int32) : ∀ (k x : Nat), fmis f g k x ≤ x + k
  | 0, x => Nat.le_refl _
  | k + 1, x => by
    simp only [fmis]
    split
    · have := fmis_le f g k (x + 1); omega
    · omega
theorem owT_lt (S : MS) (k c t s y : Int32) (h : (S.1 12).toNatClampNeg ≤ 40) : owT S k c t s y < 2 ^ 31 := by
  have := fmis_le (S.2.2 11) (fun i => (rn k c t i (s, y)).1 &&& 1) (S.1 12).toNatClampNeg 0
  unfold owT
  omega
abbrev LN (S : MS) : Nat := (S.1 12).toNatClampNeg
def rpK (T : MS) (c t s y : Int32) (j : Nat) : Int32 := it (fun q a => if owT T (nI q) c t s y < LN T then a else a ||| 1 <<< (nI q &&& 31)) j 0
def rpC (T : MS) (k c t s : Int32) (j : Nat) : Int32 := it (fun q a => if owT T k c t s (nI q - 9) < LN T then a else a ||| 1 <<< (nI q &&& 31)) j 0
def alS (S T : MS) (j : Nat) : Int32 := it (fun m a => if owT T (S.2.2 1 m) (S.2.2 2 m) (S.2.2 3 m) (S.2.2 4 m) (S.2.2 5 m) < LN T then a else a ||| 1 <<< (nI m &&& 31)) j 0
def rpR (S T : MS) (i : Nat) (w : Int32) : Int32 := if w = 0 then (if owT T (S.2.2 1 i) (S.2.2 2 i) (S.2.2 3 i) (S.2.2 4 i) (S.2.2 5 i) < LN T then nI (owT T (S.2.2 1 i) (S.2.2 2 i) (S.2.2 3 i) (S.2.2 4 i) (S.2.2 5 i)) else -1) else if w = 1 then rpK T (S.2.2 2 i) (S.2.2 3 i) (S.2.2 4 i) (S.2.2 5 i) 6 else rpC T (S.2.2 1 i) (S.2.2 2 i) (S.2.2 3 i) (S.2.2 4 i) 19
def imK (S : MS) (j : Nat) : Nat → Int32 := it (fun k g => va_cpy (S.2.2 (k + 1)) g 0 (4 * k) 4) j (S.2.2 31)
def bkS (S : MS) (j : Nat) : MS := it (fun k T => mA T (k + 1) (va_cpy (T.2.2 31) (T.2.2 (k + 1)) (4 * k) 0 4)) j (mF S 0 (S.1 30))
set_option maxHeartbeats 4000000 in
set_option maxRecDepth 100000 in
theorem cM_alike (Z : VZ) (S : MS) (a_ : Int32) (n_ : Int32) (hm : mOK S) : Ct MW Z yX11_alike cX11_alike 5 (some .int) 4 0 0 [.ref (Z.2.2.2 99), .int a_, .int n_] (S) (fun v S' => v = some (.int (if ((0 ≤ a_ ∧ a_ ≤ S.1 0 - 1) ∧ (0 ≤ n_ ∧ n_ ≤ 40)) then alS S (mTells S a_.toNatClampNeg n_ n_.toNatClampNeg) (S.1 0).toNatClampNeg else -2)) ∧ mCor S S') := by
  refine V_entry (own := RX11) (by decide) rfl (Nat.le_of_ble_eq_true rfl) ?_
  intro B hB
  refine V_sub (L' := [(0, .ref (Z.2.2.2 99)), (1, .int a_), (2, .int n_)]) [0, 1, 2] rfl ?_
  refine V_aload_n (pc := 0) dX11_alike_0 0 rfl rfl ?_
  refine V_iload_n (pc := 1) dX11_alike_1 1 rfl rfl ?_
  refine McVi (pc := 2) dX11_alike_2 (cM_isMachine Z _ _) kM_86 rfl rfl (Nat.le_of_ble_eq_true rfl) (by decide) (by decide) ?_
  refine V_bif_eq (pc := 5) (tgt := 18) dX11_alike_5 (by decide) (fun h5 => ?_) (fun h5 => ?_)
  · skip
    refine V_bipush (v := (-2)) (pc := 18) dX11_alike_18 (by decide) ?_
    exact V_iret (pc := 20) dX11_alike_20 (Nat.le_of_ble_eq_true rfl) (Nat.le_of_ble_eq_true rfl) (hB _ _ ⟨congrArg (fun z => some (Value.int z)) (by exact (if_neg (fun h => h5 h.1)).symm), by exact mCor_rfl S⟩)
  · skip
    refine V_iload_n (pc := 8) dX11_alike_8 2 rfl rfl ?_
    refine V_iconst (v := 0) (pc := 9) dX11_alike_9 (by decide) ?_
    refine V_bipush (v := 40) (pc := 10) dX11_alike_10 (by decide) ?_
    refine McSi (pc := 12) dX11_alike_12 (cM_in Z _ _ _ _) kM_70 rfl (Nat.le_of_ble_eq_true rfl) (by decide) (by decide) ?_
    refine V_bif_ne (pc := 15) (tgt := 21) dX11_alike_15 (by decide) (fun h15 => ?_) (fun h15 => ?_)
    · skip
      refine V_aload_n (pc := 21) dX11_alike_21 0 rfl rfl ?_
      refine V_iload_n (pc := 22) dX11_alike_22 1 rfl rfl ?_
      refine V_iload_n (pc := 23) dX11_alike_23 2 rfl rfl ?_
      refine McVv (pc := 24) dX11_alike_24 (cM_tells Z _ _ _ (by exact inMach hm h5) (by exact in40 h15)) kM_153 rfl rfl (Nat.le_of_ble_eq_true rfl) (by decide) (by decide) ?_
      refine V_iconst (v := 0) (pc := 27) dX11_alike_27 (by decide) ?_
      refine V_istore_n (pc := 28) (L2 := [(0, .ref (Z.2.2.2 99)), (1, .int a_), (2, .int n_)]) dX11_alike_28 rfl (by decide) rfl (fun x3_28 ex3_28 => ?_)
      subst ex3_28
      refine V_iconst (v := 0) (pc := 29) dX11_alike_29 (by decide) ?_
      refine V_istore (pc := 30) (L2 := [(3, .int 0), (0, .ref (Z.2.2.2 99)), (1, .int a_), (2, .int n_)]) dX11_alike_30 (by decide) rfl (fun x4_30 ex4_30 => ?_)
      subst ex4_30
      refine V_sub (L' := [(4, .int (nI 0)), (3, .int 0), (0, .ref (Z.2.2.2 99)), (1, .int a_), (2, .int n_)]) [0, 1, 2, 3, 4] rfl ?_
      refine Vloop (σ := Int32 × Int32 × Int32 × Int32 × Int32 × Nat × Int32) (fun x => (x.2.2.2.2.2.1) ≤ (S.1 0).toNatClampNeg ∧ (x.2.2.2.2.2.2) = alS S (mTells S a_.toNatClampNeg n_ n_.toNatClampNeg) (x.2.2.2.2.2.1)) (fun x => (S.1 0).toNatClampNeg - (x.2.2.2.2.2.1)) (fun x => V MW Z cX11_alike RX11 5 (some .int) 4 0 0 B 0 0 32 [(4, .int (nI (x.2.2.2.2.2.1))), (3, .int (x.2.2.2.2.2.2)), (0, .ref (Z.2.2.2 99)), (1, .int a_), (2, .int n_)] [] (mTh (mTells S a_.toNatClampNeg n_ n_.toNatClampNeg) (x.1) (x.2.1) (x.2.2.1) (x.2.2.2.1) (x.2.2.2.2.1))) ?_ (_, _, _, _, _, 0, 0) (by exact ⟨Nat.zero_le _, rfl⟩)
      rintro ⟨gk, gc, gt, gs, gy, j, u⟩ hI32 ih32
      have hI32 : j ≤ (S.1 0).toNatClampNeg ∧ u = alS S (mTells S a_.toNatClampNeg n_ n_.toNatClampNeg) j := hI32
      show V MW Z cX11_alike RX11 5 (some .int) 4 0 0 B 0 0 32 [(4, .int (nI j)), (3, .int u), (0, .ref (Z.2.2.2 99)), (1, .int a_), (2, .int n_)] [] (mTh (mTells S a_.toNatClampNeg n_ n_.toNatClampNeg) gk gc gt gs gy)
      refine V_iload (pc := 32) dX11_alike_32 0 rfl ?_
      refine V_aload_n (pc := 34) dX11_alike_34 2 rfl rfl ?_
      refine Mg_many (pc := 35) (v := (S.1 0)) rfl dX11_alike_35 ?_
      refine V_icmp_ge (pc := 38) (tgt := 68) dX11_alike_38 (by decide) (fun h38 => ?_) (fun h38 => ?_)
      · skip
        have hj : (S.1 0).toNatClampNeg ≤ j := jge h38 (Nat.lt_of_le_of_lt hI32.1 (clampLt _))
        have ej : j = (S.1 0).toNatClampNeg := Nat.le_antisymm hI32.1 hj
        refine V_iload_n (pc := 68) dX11_alike_68 1 rfl rfl ?_
        exact V_iret (pc := 69) dX11_alike_69 (Nat.le_of_ble_eq_true rfl) (Nat.le_of_ble_eq_true rfl) (hB _ _ ⟨congrArg (fun z => some (Value.int z)) (by rw [hI32.2, ej, if_pos ⟨h5, h15⟩]), by exact mCor_th (mCor_tells S _ _ _) _ _ _ _ _⟩)
      · skip
        have hj : j < (S.1 0).toNatClampNeg := jlt h38 (Nat.lt_of_le_of_lt hI32.1 (clampLt _))
        have hm4 := mOK_le hm
        refine V_aload_n (pc := 41) dX11_alike_41 2 rfl rfl ?_
        refine V_iload (pc := 42) dX11_alike_42 0 rfl ?_
        refine McVv (pc := 44) dX11_alike_44 (cM_thinks Z _ _ (by exact vp_in_nI (by omega) (by decide))) kM_140 rfl rfl (Nat.le_of_ble_eq_true rfl) (by decide) (by decide) ?_
        refine V_eqS (mTh (mTells S a_.toNatClampNeg n_ n_.toNatClampNeg) (S.2.2 1 j) (S.2.2 2 j) (S.2.2 3 j) (S.2.2 4 j) (S.2.2 5 j)) (by rw [nI_clamp (by omega)]; exact mTh_mTh _ _ _ _ _ _ _ _ _ _ _) ?_
        refine V_aload_n (pc := 47) dX11_alike_47 2 rfl rfl ?_
        refine McVi (pc := 48) dX11_alike_48 (cM_otherwise Z _ _ _ _ _ _ (by exact in40 h15)) kM_245 rfl rfl (Nat.le_of_ble_eq_true rfl) (by decide) (by decide) ?_
        refine V_iconst (v := (-1)) (pc := 51) dX11_alike_51 (by decide) ?_
        refine V_icmp_ne (pc := 52) (tgt := 62) dX11_alike_52 (by decide) (fun h52 => ?_) (fun h52 => ?_)
        · skip
          rw [ow_eq (owT_lt (mTells S a_.toNatClampNeg n_ n_.toNatClampNeg) _ _ _ _ _ (in40 h15)), Classical.not_not] at h52
          refine V_iinc (pc := 62) (v := 1) (L2 := [(3, .int u), (0, .ref (Z.2.2.2 99)), (1, .int a_), (2, .int n_)]) dX11_alike_62 0 rfl (by decide) (by decide) rfl (fun x4_62 ex4_62 => ?_)
          rw [nI_1] at ex4_62
          subst ex4_62
          refine V_goto (pc := 65) (tgt := 32) dX11_alike_65 (by decide) ?_
          refine V_sub (L' := [(4, .int (nI (j + 1))), (3, .int u), (0, .ref (Z.2.2.2 99)), (1, .int a_), (2, .int n_)]) [0, 1, 2, 3, 4] rfl ?_
          refine ih32 (_, _, _, _, _, ((j + 1)), _) ?_ ?_
          · show ((j + 1)) ≤ (S.1 0).toNatClampNeg ∧ (u) = alS S (mTells S a_.toNatClampNeg n_ n_.toNatClampNeg) ((j + 1))
            refine ⟨hj, ?_⟩
            show _ = alS S (mTells S a_.toNatClampNeg n_ n_.toNatClampNeg) (j + 1)
            rw [hI32.2]
            simp only [alS, it]
            first | (rw [if_neg h52]; done) | (rw [if_pos h52])
          · show (S.1 0).toNatClampNeg - (j + 1) < (S.1 0).toNatClampNeg - j
            omega
        · skip
          rw [ow_eq (owT_lt (mTells S a_.toNatClampNeg n_ n_.toNatClampNeg) _ _ _ _ _ (in40 h15))] at h52
          refine V_iload_n (pc := 55) dX11_alike_55 1 rfl rfl ?_
          refine V_iconst (v := 1) (pc := 56) dX11_alike_56 (by decide) ?_
          refine V_iload (pc := 57) dX11_alike_57 0 rfl ?_
          refine V_ishl (pc := 59) dX11_alike_59 ?_
          refine V_ior (pc := 60) dX11_alike_60 ?_
          refine V_istore_n (pc := 61) (L2 := [(4, .int (nI j)), (0, .ref (Z.2.2.2 99)), (1, .int a_), (2, .int n_)]) dX11_alike_61 rfl (by decide) rfl (fun x3_61 ex3_61 => ?_)
          subst ex3_61
          refine V_iinc (pc := 62) (v := 1) (L2 := [(3, .int (u ||| (1 <<< ((nI j) &&& 31)))), (0, .ref (Z.2.2.2 99)), (1, .int a_), (2, .int n_)]) dX11_alike_62 1 rfl (by decide) (by decide) rfl (fun x4_62 ex4_62 => ?_)
          rw [nI_1] at ex4_62
          subst ex4_62
          refine V_goto (pc := 65) (tgt := 32) dX11_alike_65 (by decide) ?_
          refine V_sub (L' := [(4, .int (nI (j + 1))), (3, .int (u ||| (1 <<< ((nI j) &&& 31)))), (0, .ref (Z.2.2.2 99)), (1, .int a_), (2, .int n_)]) [0, 1, 2, 3, 4] rfl ?_
          refine ih32 (_, _, _, _, _, ((j + 1)), _) ?_ ?_
          · show ((j + 1)) ≤ (S.1 0).toNatClampNeg ∧ ((u ||| (1 <<< ((nI j) &&& 31)))) = alS S (mTells S a_.toNatClampNeg n_ n_.toNatClampNeg) ((j + 1))
            refine ⟨hj, ?_⟩
            show _ = alS S (mTells S a_.toNatClampNeg n_ n_.toNatClampNeg) (j + 1)
            rw [hI32.2]
            simp only [alS, it]
            first | (rw [if_neg h52]; done) | (rw [if_pos h52])
          · show (S.1 0).toNatClampNeg - (j + 1) < (S.1 0).toNatClampNeg - j
            omega
    · skip
      refine V_bipush (v := (-2)) (pc := 18) dX11_alike_18 (by decide) ?_
      exact V_iret (pc := 20) dX11_alike_20 (Nat.le_of_ble_eq_true rfl) (Nat.le_of_ble_eq_true rfl) (hB _ _ ⟨congrArg (fun z => some (Value.int z)) (by exact (if_neg (fun h => h15 h.2)).symm), by exact mCor_rfl S⟩)
set_option maxHeartbeats 4000000 in
set_option maxRecDepth 100000 in
theorem cM_rowAt (Z : VZ) (S : MS) (a_ : Int32) (k : Nat) (hk : k = if a_ = 0 then 1 else if a_ = 1 then 2 else if a_ = 2 then 3 else if a_ = 3 then 4 else 5) : CtF MW Z yX11_rowAt cX11_rowAt 2 (some (.array .int)) 0 0 0 [.ref (Z.2.2.2 99), .int a_] (S) (some (.ref (Z.2.2.2 k))) (S) := by
  refine V_entry (own := RX11) (by decide) rfl (Nat.le_of_ble_eq_true rfl) ?_
  intro B hB
  refine V_sub (L' := [(0, .ref (Z.2.2.2 99)), (1, .int a_)]) [0, 1] rfl ?_
  refine V_iload_n (pc := 0) dX11_rowAt_0 1 rfl rfl ?_
  by_cases h1_0 : a_ = 0
  · refine V_eqi 0 h1_0 ?_
    refine V_tableIn (pc := 1) (tgt := 32) dX11_rowAt_1 (by decide) (by decide) rfl (by decide) ?_
    refine V_aload_n (pc := 32) dX11_rowAt_32 0 rfl rfl ?_
    refine Mg_kinds (pc := 33) dX11_rowAt_33 ?_
    exact V_aret (pc := 36) dX11_rowAt_36 (Nat.le_of_ble_eq_true rfl) (Nat.le_of_ble_eq_true rfl) (Or.inr ⟨_, rfl⟩) (Or.inr ⟨_, rfl⟩) (hB _ _ ⟨by simp [hk, *], by rfl⟩)
  by_cases h1_1 : a_ = 1
  · refine V_eqi 1 h1_1 ?_
    refine V_tableIn (pc := 1) (tgt := 37) dX11_rowAt_1 (by decide) (by decide) rfl (by decide) ?_
    refine V_aload_n (pc := 37) dX11_rowAt_37 0 rfl rfl ?_
    refine Mg_cells (pc := 38) dX11_rowAt_38 ?_
    exact V_aret (pc := 41) dX11_rowAt_41 (Nat.le_of_ble_eq_true rfl) (Nat.le_of_ble_eq_true rfl) (Or.inr ⟨_, rfl⟩) (Or.inr ⟨_, rfl⟩) (hB _ _ ⟨by simp [hk, *], by rfl⟩)
  by_cases h1_2 : a_ = 2
  · refine V_eqi 2 h1_2 ?_
    refine V_tableIn (pc := 1) (tgt := 42) dX11_rowAt_1 (by decide) (by decide) rfl (by decide) ?_
    refine V_aload_n (pc := 42) dX11_rowAt_42 0 rfl rfl ?_
    refine Mg_taps (pc := 43) dX11_rowAt_43 ?_
    exact V_aret (pc := 46) dX11_rowAt_46 (Nat.le_of_ble_eq_true rfl) (Nat.le_of_ble_eq_true rfl) (Or.inr ⟨_, rfl⟩) (Or.inr ⟨_, rfl⟩) (hB _ _ ⟨by simp [hk, *], by rfl⟩)
  by_cases h1_3 : a_ = 3
  · refine V_eqi 3 h1_3 ?_
    refine V_tableIn (pc := 1) (tgt := 47) dX11_rowAt_1 (by decide) (by decide) rfl (by decide) ?_
    refine V_aload_n (pc := 47) dX11_rowAt_47 0 rfl rfl ?_
    refine Mg_states (pc := 48) dX11_rowAt_48 ?_
    exact V_aret (pc := 51) dX11_rowAt_51 (Nat.le_of_ble_eq_true rfl) (Nat.le_of_ble_eq_true rfl) (Or.inr ⟨_, rfl⟩) (Or.inr ⟨_, rfl⟩) (hB _ _ ⟨by simp [hk, *], by rfl⟩)
  refine V_tableOut (pc := 1) (tgt := 52) dX11_rowAt_1 (by have a0 := lv_neT h1_0 (a := 0) rfl; have a1 := lv_neT h1_1 (a := 1) rfl; have a2 := lv_neT h1_2 (a := 2) rfl; have a3 := lv_neT h1_3 (a := 3) rfl; omega) (by decide) ?_
  refine V_aload_n (pc := 52) dX11_rowAt_52 0 rfl rfl ?_
  refine Mg_carries (pc := 53) dX11_rowAt_53 ?_
  exact V_aret (pc := 56) dX11_rowAt_56 (Nat.le_of_ble_eq_true rfl) (Nat.le_of_ble_eq_true rfl) (Or.inr ⟨_, rfl⟩) (Or.inr ⟨_, rfl⟩) (hB _ _ ⟨by simp [hk, *], by rfl⟩)
set_option maxHeartbeats 4000000 in
set_option maxRecDepth 100000 in
theorem cM_image (Z : VZ) (S : MS) : CtF MW Z yX11_image cX11_image 2 (some .int) 1 0 0 [.ref (Z.2.2.2 99)] (S) (some (.int (S.1 0))) (mA (mF (mF S 29 1) 30 (S.1 0)) 31 (imK S 5)) := by
  refine V_entry (own := RX11) (by decide) rfl (Nat.le_of_ble_eq_true rfl) ?_
  intro B hB
  refine V_sub (L' := [(0, .ref (Z.2.2.2 99))]) [0] rfl ?_
  refine V_aload_n (pc := 0) dX11_image_0 0 rfl rfl ?_
  refine V_iconst (v := 1) (pc := 1) dX11_image_1 (by decide) ?_
  refine Mp_isKept (pc := 2) (by decide) dX11_image_2 ?_
  refine V_aload_n (pc := 5) dX11_image_5 0 rfl rfl ?_
  refine V_aload_n (pc := 6) dX11_image_6 0 rfl rfl ?_
  refine Mg_many (pc := 7) (v := (S.1 0)) rfl dX11_image_7 ?_
  refine Mp_manyKept (pc := 10) dX11_image_10 ?_
  refine V_eqS _ (mA_self _ 31) ?_
  refine V_iconst (v := 0) (pc := 13) dX11_image_13 (by decide) ?_
  refine V_istore_n (pc := 14) (L2 := [(0, .ref (Z.2.2.2 99))]) dX11_image_14 rfl (by decide) rfl (fun x1_14 ex1_14 => ?_)
  subst ex1_14
  refine V_sub (L' := [(1, .int (nI 0)), (0, .ref (Z.2.2.2 99))]) [0, 1] rfl ?_
  refine Vloop (σ := Nat) (fun x => x ≤ 5) (fun x => 5 - x) (fun x => V MW Z cX11_image RX11 2 (some .int) 1 0 0 B 0 0 15 [(1, .int (nI x)), (0, .ref (Z.2.2.2 99))] [] (mA (mF (mF S 29 1) 30 (S.1 0)) 31 (imK S x))) ?_ 0 (by exact Nat.zero_le _)
  rintro j hI15 ih15
  have hI15 : j ≤ 5 := hI15
  show V MW Z cX11_image RX11 2 (some .int) 1 0 0 B 0 0 15 [(1, .int (nI j)), (0, .ref (Z.2.2.2 99))] [] (mA (mF (mF S 29 1) 30 (S.1 0)) 31 (imK S j))
  refine V_iload_n (pc := 15) dX11_image_15 0 rfl rfl ?_
  refine V_iconst (v := 5) (pc := 16) dX11_image_16 (by decide) ?_
  refine V_icmp_ge (pc := 17) (tgt := 43) dX11_image_17 (by decide) (fun h17 => ?_) (fun h17 => ?_)
  · skip
    have hj : 5 ≤ j := jge h17 (by omega)
    have ej : j = 5 := by omega
    refine V_aload_n (pc := 43) dX11_image_43 1 rfl rfl ?_
    refine Mg_many (pc := 44) (v := (S.1 0)) rfl dX11_image_44 ?_
    exact V_iret (pc := 47) dX11_image_47 (Nat.le_of_ble_eq_true rfl) (Nat.le_of_ble_eq_true rfl) (hB _ _ ⟨congrArg (fun z => some (Value.int z)) (by first | rfl | assumption | (simp_all; done)), by rw [ej]⟩)
  · skip
    have hj : j < 5 := jlt h17 (by omega)
    obtain q | q | q | q | q : j = 0 ∨ j = 1 ∨ j = 2 ∨ j = 3 ∨ j = 4 := by omega
    all_goals subst q
    · skip
      refine V_aload_n (pc := 20) dX11_image_20 1 rfl rfl ?_
      refine V_iload_n (pc := 21) dX11_image_21 0 rfl rfl ?_
      refine McVr (pc := 22) dX11_image_22 (cM_rowAt Z _ _ 1 (by decide)) kM_334 rfl rfl (Nat.le_of_ble_eq_true rfl) (by decide) (by decide) ?_
      refine V_iconst (v := 0) (pc := 25) dX11_image_25 (by decide) ?_
      refine V_aload_n (pc := 26) dX11_image_26 1 rfl rfl ?_
      refine Mg_kept (pc := 27) dX11_image_27 ?_
      refine V_iconst (v := 4) (pc := 30) dX11_image_30 (by decide) ?_
      refine V_iload_n (pc := 31) dX11_image_31 0 rfl rfl ?_
      refine V_imul (pc := 32) dX11_image_32 ?_
      refine V_iconst (v := 4) (pc := 33) dX11_image_33 (by decide) ?_
      refine Mcpy_1_31 (pc := 34) dX11_image_34 (by decide) (by decide) (by decide) (by decide) (by decide) (by decide) (Nat.le_of_ble_eq_true rfl) ?_
      refine V_eqS _ (mA_mA _ 31 _ _) ?_
      refine V_iinc (pc := 37) (v := 1) (L2 := [(0, .ref (Z.2.2.2 99))]) dX11_image_37 0 rfl (by decide) (by decide) rfl (fun x1_37 ex1_37 => ?_)
      rw [nI_1] at ex1_37
      subst ex1_37
      refine V_goto (pc := 40) (tgt := 15) dX11_image_40 (by decide) ?_
      refine V_sub (L' := [(1, .int (nI (0 + 1))), (0, .ref (Z.2.2.2 99))]) [0, 1] rfl ?_
      refine ih15 ((0 + 1)) ?_ ?_
      · show ((0 + 1)) ≤ 5
        show _ + 1 ≤ 5
        decide
      · decide
    · skip
      refine V_aload_n (pc := 20) dX11_image_20 1 rfl rfl ?_
      refine V_iload_n (pc := 21) dX11_image_21 0 rfl rfl ?_
      refine McVr (pc := 22) dX11_image_22 (cM_rowAt Z _ _ 2 (by decide)) kM_334 rfl rfl (Nat.le_of_ble_eq_true rfl) (by decide) (by decide) ?_
      refine V_iconst (v := 0) (pc := 25) dX11_image_25 (by decide) ?_
      refine V_aload_n (pc := 26) dX11_image_26 1 rfl rfl ?_
      refine Mg_kept (pc := 27) dX11_image_27 ?_
      refine V_iconst (v := 4) (pc := 30) dX11_image_30 (by decide) ?_
      refine V_iload_n (pc := 31) dX11_image_31 0 rfl rfl ?_
      refine V_imul (pc := 32) dX11_image_32 ?_
      refine V_iconst (v := 4) (pc := 33) dX11_image_33 (by decide) ?_
      refine Mcpy_2_31 (pc := 34) dX11_image_34 (by decide) (by decide) (by decide) (by decide) (by decide) (by decide) (Nat.le_of_ble_eq_true rfl) ?_
      refine V_eqS _ (mA_mA _ 31 _ _) ?_
      refine V_iinc (pc := 37) (v := 1) (L2 := [(0, .ref (Z.2.2.2 99))]) dX11_image_37 0 rfl (by decide) (by decide) rfl (fun x1_37 ex1_37 => ?_)
      rw [nI_1] at ex1_37
      subst ex1_37
      refine V_goto (pc := 40) (tgt := 15) dX11_image_40 (by decide) ?_
      refine V_sub (L' := [(1, .int (nI (1 + 1))), (0, .ref (Z.2.2.2 99))]) [0, 1] rfl ?_
      refine ih15 ((1 + 1)) ?_ ?_
      · show ((1 + 1)) ≤ 5
        show _ + 1 ≤ 5
        decide
      · decide
    · skip
      refine V_aload_n (pc := 20) dX11_image_20 1 rfl rfl ?_
      refine V_iload_n (pc := 21) dX11_image_21 0 rfl rfl ?_
      refine McVr (pc := 22) dX11_image_22 (cM_rowAt Z _ _ 3 (by decide)) kM_334 rfl rfl (Nat.le_of_ble_eq_true rfl) (by decide) (by decide) ?_
      refine V_iconst (v := 0) (pc := 25) dX11_image_25 (by decide) ?_
      refine V_aload_n (pc := 26) dX11_image_26 1 rfl rfl ?_
      refine Mg_kept (pc := 27) dX11_image_27 ?_
      refine V_iconst (v := 4) (pc := 30) dX11_image_30 (by decide) ?_
      refine V_iload_n (pc := 31) dX11_image_31 0 rfl rfl ?_
      refine V_imul (pc := 32) dX11_image_32 ?_
      refine V_iconst (v := 4) (pc := 33) dX11_image_33 (by decide) ?_
      refine Mcpy_3_31 (pc := 34) dX11_image_34 (by decide) (by decide) (by decide) (by decide) (by decide) (by decide) (Nat.le_of_ble_eq_true rfl) ?_
      refine V_eqS _ (mA_mA _ 31 _ _) ?_
      refine V_iinc (pc := 37) (v := 1) (L2 := [(0, .ref (Z.2.2.2 99))]) dX11_image_37 0 rfl (by decide) (by decide) rfl (fun x1_37 ex1_37 => ?_)
      rw [nI_1] at ex1_37
      subst ex1_37
      refine V_goto (pc := 40) (tgt := 15) dX11_image_40 (by decide) ?_
      refine V_sub (L' := [(1, .int (nI (2 + 1))), (0, .ref (Z.2.2.2 99))]) [0, 1] rfl ?_
      refine ih15 ((2 + 1)) ?_ ?_
      · show ((2 + 1)) ≤ 5
        show _ + 1 ≤ 5
        decide
      · decide
    · skip
      refine V_aload_n (pc := 20) dX11_image_20 1 rfl rfl ?_
      refine V_iload_n (pc := 21) dX11_image_21 0 rfl rfl ?_
      refine McVr (pc := 22) dX11_image_22 (cM_rowAt Z _ _ 4 (by decide)) kM_334 rfl rfl (Nat.le_of_ble_eq_true rfl) (by decide) (by decide) ?_
      refine V_iconst (v := 0) (pc := 25) dX11_image_25 (by decide) ?_
      refine V_aload_n (pc := 26) dX11_image_26 1 rfl rfl ?_
      refine Mg_kept (pc := 27) dX11_image_27 ?_
      refine V_iconst (v := 4) (pc := 30) dX11_image_30 (by decide) ?_
      refine V_iload_n (pc := 31) dX11_image_31 0 rfl rfl ?_
      refine V_imul (pc := 32) dX11_image_32 ?_
      refine V_iconst (v := 4) (pc := 33) dX11_image_33 (by decide) ?_
      refine Mcpy_4_31 (pc := 34) dX11_image_34 (by decide) (by decide) (by decide) (by decide) (by decide) (by decide) (Nat.le_of_ble_eq_true rfl) ?_
      refine V_eqS _ (mA_mA _ 31 _ _) ?_
      refine V_iinc (pc := 37) (v := 1) (L2 := [(0, .ref (Z.2.2.2 99))]) dX11_image_37 0 rfl (by decide) (by decide) rfl (fun x1_37 ex1_37 => ?_)
      rw [nI_1] at ex1_37
      subst ex1_37
      refine V_goto (pc := 40) (tgt := 15) dX11_image_40 (by decide) ?_
      refine V_sub (L' := [(1, .int (nI (3 + 1))), (0, .ref (Z.2.2.2 99))]) [0, 1] rfl ?_
      refine ih15 ((3 + 1)) ?_ ?_
      · show ((3 + 1)) ≤ 5
        show _ + 1 ≤ 5
        decide
      · decide
    · skip
      refine V_aload_n (pc := 20) dX11_image_20 1 rfl rfl ?_
      refine V_iload_n (pc := 21) dX11_image_21 0 rfl rfl ?_
      refine McVr (pc := 22) dX11_image_22 (cM_rowAt Z _ _ 5 (by decide)) kM_334 rfl rfl (Nat.le_of_ble_eq_true rfl) (by decide) (by decide) ?_
      refine V_iconst (v := 0) (pc := 25) dX11_image_25 (by decide) ?_
      refine V_aload_n (pc := 26) dX11_image_26 1 rfl rfl ?_
      refine Mg_kept (pc := 27) dX11_image_27 ?_
      refine V_iconst (v := 4) (pc := 30) dX11_image_30 (by decide) ?_
      refine V_iload_n (pc := 31) dX11_image_31 0 rfl rfl ?_
      refine V_imul (pc := 32) dX11_image_32 ?_
      refine V_iconst (v := 4) (pc := 33) dX11_image_33 (by decide) ?_
      refine Mcpy_5_31 (pc := 34) dX11_image_34 (by decide) (by decide) (by decide) (by decide) (by decide) (by decide) (Nat.le_of_ble_eq_true rfl) ?_
      refine V_eqS _ (mA_mA _ 31 _ _) ?_
      refine V_iinc (pc := 37) (v := 1) (L2 := [(0, .ref (Z.2.2.2 99))]) dX11_image_37 0 rfl (by decide) (by decide) rfl (fun x1_37 ex1_37 => ?_)
      rw [nI_1] at ex1_37
      subst ex1_37
      refine V_goto (pc := 40) (tgt := 15) dX11_image_40 (by decide) ?_
      refine V_sub (L' := [(1, .int (nI (4 + 1))), (0, .ref (Z.2.2.2 99))]) [0, 1] rfl ?_
      refine ih15 ((4 + 1)) ?_ ?_
      · show ((4 + 1)) ≤ 5
        show _ + 1 ≤ 5
        decide
      · decide
set_option maxHeartbeats 4000000 in
set_option maxRecDepth 100000 in
theorem cM_back (Z : VZ) (S : MS) : CtF MW Z yX11_back cX11_back 2 (some .int) 1 0 0 [.ref (Z.2.2.2 99)] (S) (some (.int (if S.1 29 = 0 then -3 else S.1 30))) (if S.1 29 = 0 then S else bkS S 5) := by
  refine V_entry (own := RX11) (by decide) rfl (Nat.le_of_ble_eq_true rfl) ?_
  intro B hB
  refine V_sub (L' := [(0, .ref (Z.2.2.2 99))]) [0] rfl ?_
  refine V_aload_n (pc := 0) dX11_back_0 0 rfl rfl ?_
  refine Mg_isKept (pc := 1) (v := (S.1 29)) rfl dX11_back_1 ?_
  refine V_if_ne (pc := 4) (tgt := 10) dX11_back_4 (by decide) (fun h4 => ?_) (fun h4 => ?_)
  · skip
    refine V_aload_n (pc := 10) dX11_back_10 0 rfl rfl ?_
    refine V_aload_n (pc := 11) dX11_back_11 0 rfl rfl ?_
    refine Mg_manyKept (pc := 12) (v := (S.1 30)) rfl dX11_back_12 ?_
    refine Mp_many (pc := 15) dX11_back_15 ?_
    refine V_iconst (v := 0) (pc := 18) dX11_back_18 (by decide) ?_
    refine V_istore_n (pc := 19) (L2 := [(0, .ref (Z.2.2.2 99))]) dX11_back_19 rfl (by decide) rfl (fun x1_19 ex1_19 => ?_)
    subst ex1_19
    refine V_sub (L' := [(1, .int (nI 0)), (0, .ref (Z.2.2.2 99))]) [0, 1] rfl ?_
    refine Vloop (σ := Nat) (fun x => x ≤ 5) (fun x => 5 - x) (fun x => V MW Z cX11_back RX11 2 (some .int) 1 0 0 B 0 0 20 [(1, .int (nI x)), (0, .ref (Z.2.2.2 99))] [] (bkS S x)) ?_ 0 (by exact Nat.zero_le _)
    rintro j hI20 ih20
    have hI20 : j ≤ 5 := hI20
    show V MW Z cX11_back RX11 2 (some .int) 1 0 0 B 0 0 20 [(1, .int (nI j)), (0, .ref (Z.2.2.2 99))] [] (bkS S j)
    refine V_iload_n (pc := 20) dX11_back_20 0 rfl rfl ?_
    refine V_iconst (v := 5) (pc := 21) dX11_back_21 (by decide) ?_
    refine V_icmp_ge (pc := 22) (tgt := 48) dX11_back_22 (by decide) (fun h22 => ?_) (fun h22 => ?_)
    · skip
      have hj : 5 ≤ j := jge h22 (by omega)
      have ej : j = 5 := by omega
      refine V_eqS (bkS S 5) (by rw [ej]) ?_
      refine V_aload_n (pc := 48) dX11_back_48 1 rfl rfl ?_
      refine Mg_many (pc := 49) (v := (S.1 30)) rfl dX11_back_49 ?_
      exact V_iret (pc := 52) dX11_back_52 (Nat.le_of_ble_eq_true rfl) (Nat.le_of_ble_eq_true rfl) (hB _ _ ⟨congrArg (fun z => some (Value.int z)) (by exact (if_neg h4).symm), by exact (if_neg h4).symm⟩)
    · skip
      have hj : j < 5 := jlt h22 (by omega)
      obtain q | q | q | q | q : j = 0 ∨ j = 1 ∨ j = 2 ∨ j = 3 ∨ j = 4 := by omega
      all_goals subst q
      · skip
        refine V_aload_n (pc := 25) dX11_back_25 1 rfl rfl ?_
        refine Mg_kept (pc := 26) dX11_back_26 ?_
        refine V_iconst (v := 4) (pc := 29) dX11_back_29 (by decide) ?_
        refine V_iload_n (pc := 30) dX11_back_30 0 rfl rfl ?_
        refine V_imul (pc := 31) dX11_back_31 ?_
        refine V_aload_n (pc := 32) dX11_back_32 1 rfl rfl ?_
        refine V_iload_n (pc := 33) dX11_back_33 0 rfl rfl ?_
        refine McVr (pc := 34) dX11_back_34 (cM_rowAt Z _ _ 1 (by decide)) kM_334 rfl rfl (Nat.le_of_ble_eq_true rfl) (by decide) (by decide) ?_
        refine V_iconst (v := 0) (pc := 37) dX11_back_37 (by decide) ?_
        refine V_iconst (v := 4) (pc := 38) dX11_back_38 (by decide) ?_
        refine Mcpy_31_1 (pc := 39) dX11_back_39 (by decide) (by decide) (by decide) (by decide) (by decide) (by decide) (Nat.le_of_ble_eq_true rfl) ?_
        refine V_iinc (pc := 42) (v := 1) (L2 := [(0, .ref (Z.2.2.2 99))]) dX11_back_42 0 rfl (by decide) (by decide) rfl (fun x1_42 ex1_42 => ?_)
        rw [nI_1] at ex1_42
        subst ex1_42
        refine V_goto (pc := 45) (tgt := 20) dX11_back_45 (by decide) ?_
        refine V_sub (L' := [(1, .int (nI (0 + 1))), (0, .ref (Z.2.2.2 99))]) [0, 1] rfl ?_
        refine ih20 ((0 + 1)) ?_ ?_
        · show ((0 + 1)) ≤ 5
          show _ + 1 ≤ 5
          decide
        · decide
      · skip
        refine V_aload_n (pc := 25) dX11_back_25 1 rfl rfl ?_
        refine Mg_kept (pc := 26) dX11_back_26 ?_
        refine V_iconst (v := 4) (pc := 29) dX11_back_29 (by decide) ?_
        refine V_iload_n (pc := 30) dX11_back_30 0 rfl rfl ?_
        refine V_imul (pc := 31) dX11_back_31 ?_
        refine V_aload_n (pc := 32) dX11_back_32 1 rfl rfl ?_
        refine V_iload_n (pc := 33) dX11_back_33 0 rfl rfl ?_
        refine McVr (pc := 34) dX11_back_34 (cM_rowAt Z _ _ 2 (by decide)) kM_334 rfl rfl (Nat.le_of_ble_eq_true rfl) (by decide) (by decide) ?_
        refine V_iconst (v := 0) (pc := 37) dX11_back_37 (by decide) ?_
        refine V_iconst (v := 4) (pc := 38) dX11_back_38 (by decide) ?_
        refine Mcpy_31_2 (pc := 39) dX11_back_39 (by decide) (by decide) (by decide) (by decide) (by decide) (by decide) (Nat.le_of_ble_eq_true rfl) ?_
        refine V_iinc (pc := 42) (v := 1) (L2 := [(0, .ref (Z.2.2.2 99))]) dX11_back_42 0 rfl (by decide) (by decide) rfl (fun x1_42 ex1_42 => ?_)
        rw [nI_1] at ex1_42
        subst ex1_42
        refine V_goto (pc := 45) (tgt := 20) dX11_back_45 (by decide) ?_
        refine V_sub (L' := [(1, .int (nI (1 + 1))), (0, .ref (Z.2.2.2 99))]) [0, 1] rfl ?_
        refine ih20 ((1 + 1)) ?_ ?_
        · show ((1 + 1)) ≤ 5
          show _ + 1 ≤ 5
          decide
        · decide
      · skip
        refine V_aload_n (pc := 25) dX11_back_25 1 rfl rfl ?_
        refine Mg_kept (pc := 26) dX11_back_26 ?_
        refine V_iconst (v := 4) (pc := 29) dX11_back_29 (by decide) ?_
        refine V_iload_n (pc := 30) dX11_back_30 0 rfl rfl ?_
        refine V_imul (pc := 31) dX11_back_31 ?_
        refine V_aload_n (pc := 32) dX11_back_32 1 rfl rfl ?_
        refine V_iload_n (pc := 33) dX11_back_33 0 rfl rfl ?_
        refine McVr (pc := 34) dX11_back_34 (cM_rowAt Z _ _ 3 (by decide)) kM_334 rfl rfl (Nat.le_of_ble_eq_true rfl) (by decide) (by decide) ?_
        refine V_iconst (v := 0) (pc := 37) dX11_back_37 (by decide) ?_
        refine V_iconst (v := 4) (pc := 38) dX11_back_38 (by decide) ?_
        refine Mcpy_31_3 (pc := 39) dX11_back_39 (by decide) (by decide) (by decide) (by decide) (by decide) (by decide) (Nat.le_of_ble_eq_true rfl) ?_
        refine V_iinc (pc := 42) (v := 1) (L2 := [(0, .ref (Z.2.2.2 99))]) dX11_back_42 0 rfl (by decide) (by decide) rfl (fun x1_42 ex1_42 => ?_)
        rw [nI_1] at ex1_42
        subst ex1_42
        refine V_goto (pc := 45) (tgt := 20) dX11_back_45 (by decide) ?_
        refine V_sub (L' := [(1, .int (nI (2 + 1))), (0, .ref (Z.2.2.2 99))]) [0, 1] rfl ?_
        refine ih20 ((2 + 1)) ?_ ?_
        · show ((2 + 1)) ≤ 5
          show _ + 1 ≤ 5
          decide
        · decide
      · skip
        refine V_aload_n (pc := 25) dX11_back_25 1 rfl rfl ?_
        refine Mg_kept (pc := 26) dX11_back_26 ?_
        refine V_iconst (v := 4) (pc := 29) dX11_back_29 (by decide) ?_
        refine V_iload_n (pc := 30) dX11_back_30 0 rfl rfl ?_
        refine V_imul (pc := 31) dX11_back_31 ?_
        refine V_aload_n (pc := 32) dX11_back_32 1 rfl rfl ?_
        refine V_iload_n (pc := 33) dX11_back_33 0 rfl rfl ?_
        refine McVr (pc := 34) dX11_back_34 (cM_rowAt Z _ _ 4 (by decide)) kM_334 rfl rfl (Nat.le_of_ble_eq_true rfl) (by decide) (by decide) ?_
        refine V_iconst (v := 0) (pc := 37) dX11_back_37 (by decide) ?_
        refine V_iconst (v := 4) (pc := 38) dX11_back_38 (by decide) ?_
        refine Mcpy_31_4 (pc := 39) dX11_back_39 (by decide) (by decide) (by decide) (by decide) (by decide) (by decide) (Nat.le_of_ble_eq_true rfl) ?_
        refine V_iinc (pc := 42) (v := 1) (L2 := [(0, .ref (Z.2.2.2 99))]) dX11_back_42 0 rfl (by decide) (by decide) rfl (fun x1_42 ex1_42 => ?_)
        rw [nI_1] at ex1_42
        subst ex1_42
        refine V_goto (pc := 45) (tgt := 20) dX11_back_45 (by decide) ?_
        refine V_sub (L' := [(1, .int (nI (3 + 1))), (0, .ref (Z.2.2.2 99))]) [0, 1] rfl ?_
        refine ih20 ((3 + 1)) ?_ ?_
        · show ((3 + 1)) ≤ 5
          show _ + 1 ≤ 5
          decide
        · decide
      · skip
        refine V_aload_n (pc := 25) dX11_back_25 1 rfl rfl ?_
        refine Mg_kept (pc := 26) dX11_back_26 ?_
        refine V_iconst (v := 4) (pc := 29) dX11_back_29 (by decide) ?_
        refine V_iload_n (pc := 30) dX11_back_30 0 rfl rfl ?_
        refine V_imul (pc := 31) dX11_back_31 ?_
        refine V_aload_n (pc := 32) dX11_back_32 1 rfl rfl ?_
        refine V_iload_n (pc := 33) dX11_back_33 0 rfl rfl ?_
        refine McVr (pc := 34) dX11_back_34 (cM_rowAt Z _ _ 5 (by decide)) kM_334 rfl rfl (Nat.le_of_ble_eq_true rfl) (by decide) (by decide) ?_
        refine V_iconst (v := 0) (pc := 37) dX11_back_37 (by decide) ?_
        refine V_iconst (v := 4) (pc := 38) dX11_back_38 (by decide) ?_
        refine Mcpy_31_5 (pc := 39) dX11_back_39 (by decide) (by decide) (by decide) (by decide) (by decide) (by decide) (Nat.le_of_ble_eq_true rfl) ?_
        refine V_iinc (pc := 42) (v := 1) (L2 := [(0, .ref (Z.2.2.2 99))]) dX11_back_42 0 rfl (by decide) (by decide) rfl (fun x1_42 ex1_42 => ?_)
        rw [nI_1] at ex1_42
        subst ex1_42
        refine V_goto (pc := 45) (tgt := 20) dX11_back_45 (by decide) ?_
        refine V_sub (L' := [(1, .int (nI (4 + 1))), (0, .ref (Z.2.2.2 99))]) [0, 1] rfl ?_
        refine ih20 ((4 + 1)) ?_ ?_
        · show ((4 + 1)) ≤ 5
          show _ + 1 ≤ 5
          decide
        · decide
  · skip
    refine V_bipush (v := (-3)) (pc := 7) dX11_back_7 (by decide) ?_
    exact V_iret (pc := 9) dX11_back_9 (Nat.le_of_ble_eq_true rfl) (Nat.le_of_ble_eq_true rfl) (hB _ _ ⟨congrArg (fun z => some (Value.int z)) (by exact (if_pos h4).symm), by exact (if_pos h4).symm⟩)
