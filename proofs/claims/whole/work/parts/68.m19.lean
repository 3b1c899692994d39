/-- the word of w bits at a place -/
abbrev wN (X q w : Nat) : Nat := X / 2 ^ q % 2 ^ w
theorem wN_lt (X q : Nat) {w : Nat} (hw : w ≤ 8) : wN X q w < 256 := Nat.lt_of_lt_of_le (Nat.mod_lt _ (Nat.two_pow_pos w)) (show 2 ^ w ≤ 2 ^ 8 from Nat.pow_le_pow_right (by decide) hw)
theorem wN_s (X q w : Nat) : wN X q (w + 1) = wN X q w + tb X (q + w) * 2 ^ w := by
  unfold wN tb
  rw [Nat.mod_pow_succ, Nat.div_div_eq_div_mul, ← Nat.pow_add, Nat.mul_comm (2 ^ w)]
theorem wdA_N {f : Nat → Int32} {X q : Nat} (w : Nat) (hw : w ≤ 8) (h : ∀ i, i < q + w → f i = nI (tb X i)) : wdA f q w = nI (wN X q w) := by
  induction w with
  | zero =>
    show (0 : Int32) = nI (X / 2 ^ q % 2 ^ 0)
    rw [Nat.pow_zero, Nat.mod_one]
    rfl
  | succ w ih =>
    show wdA f q w ||| f (q + w) <<< (nI w &&& 31) = _
    have lt : wN X q w < 2 ^ w := Nat.mod_lt _ (Nat.two_pow_pos w)
    have tl := tb_lt X (q + w)
    have p : 2 ^ w ≤ 2 ^ 8 := Nat.pow_le_pow_right (by decide) (by omega)
    have p2 : tb X (q + w) * 2 ^ w < 2 ^ 32 := by
      rcases (show tb X (q + w) = 0 ∨ tb X (q + w) = 1 by omega) with e | e <;> rw [e] <;> omega
    have hsm : ((nI w &&& 31).toBitVec.smod 32).toNat = w := by
      have : ∀ n, n < 32 → ((nI n &&& 31).toBitVec.smod 32).toNat = n := by decide +kernel
      exact this w (by omega)
    rw [ih (by omega) (fun i hi => h i (by omega)), h (q + w) (by omega), pk_shlN _ w hsm p2, nx_or, or_add lt, wN_s]
def cntN (X w j v : Nat) : Nat := it (fun i c => if wN X i w = v then c + 1 else c) j 0
theorem cntN_s (X w j v : Nat) : cntN X w (j + 1) v = if wN X j w = v then cntN X w j v + 1 else cntN X w j v := rfl
theorem cntN_le (X w j v : Nat) : cntN X w j v ≤ j := by
  induction j with
  | zero => exact Nat.le_of_eq rfl
  | succ j ih => rw [cntN_s]; split <;> omega
def unl (X w j : Nat) : Nat := it (fun i u => if cntN X w i (wN X i w) = 0 then u + 1 else u) j 0
theorem unl_s (X w j : Nat) : unl X w (j + 1) = if cntN X w j (wN X j w) = 0 then unl X w j + 1 else unl X w j := rfl
def bsN (X w n j : Nat) : Nat := it (fun i b => if b = 0 ∨ cntN X w n (b - 1) < cntN X w n (wN X i w) then wN X i w + 1 else b) j 0
theorem bsN_s (X w n j : Nat) : bsN X w n (j + 1) = if bsN X w n j = 0 ∨ cntN X w n (bsN X w n j - 1) < cntN X w n (wN X j w) then wN X j w + 1 else bsN X w n j := rfl
theorem bsN_le (X : Nat) {w : Nat} (hw : w ≤ 8) (n j : Nat) : bsN X w n j ≤ 256 := by
  induction j with
  | zero => exact Nat.zero_le _
  | succ j ih =>
    rw [bsN_s]
    split
    · have := wN_lt X j hw; omega
    · exact ih
theorem bs_lt0 {b : Nat} (h : b ≤ 256) : nI b - 1 < 0 ↔ b = 0 := by
  rcases Nat.eq_zero_or_pos b with z | z
  · subst z; exact ⟨fun _ => rfl, fun _ => by decide⟩
  · obtain ⟨k, rfl⟩ : ∃ k, b = k + 1 := ⟨b - 1, by omega⟩
    rw [nI_pred]
    exact ⟨fun z => absurd z (nI_pos (by omega)), fun z => by omega⟩
theorem czW_at (T : MS) (j k : Nat) (h : k < j) : it (fun i g => upd g i 0) j (T.2.2 19) k = 0 := by
  induction j with
  | zero => omega
  | succ j ih =>
    show upd (it (fun i g => upd g i 0) j (T.2.2 19)) j 0 k = 0
    rw [upd_at]
    split
    · rfl
    · exact ih (by omega)
/-- what windows answers -/
def wiR (X w n : Nat) (v : Int32) : Int32 := if v = 0 then nI (unl X w n) else if v = 1 ∨ bsN X w n n = 0 then nI (bsN X w n n) - 1 else nI (cntN X w n (bsN X w n n - 1))
set_option maxHeartbeats 4000000 in
set_option maxRecDepth 100000 in
theorem cM_windows (Z : VZ) (S : MS) (a_ : Int32) (w_ : Int32) (v_ : Int32) (hs : sOK2 S) : Ct MW Z yX11_windows cX11_windows 8 (some .int) 2 0 0 [.ref (Z.2.2.2 99), .int a_, .int w_, .int v_] (S) (fun v S' => v = some (.int (if ((0 ≤ a_ ∧ a_ ≤ 3) ∧ (1 ≤ w_ ∧ w_ ≤ 8) ∧ (0 ≤ v_ ∧ v_ ≤ 2)) then (if 0 ≤ S.2.2 32 a_.toNatClampNeg then wiR (rwX (fun i => S.2.2 34 (40 * a_.toNatClampNeg + i)) (S.2.2 33 a_.toNatClampNeg).toNatClampNeg) w_.toNatClampNeg ((S.2.2 33 a_.toNatClampNeg).toNatClampNeg + 1 - w_.toNatClampNeg) v_ else -11) else -2)) ∧ mCor S S') := by
  refine V_entry (own := RX11) (by decide) rfl (Nat.le_of_ble_eq_true rfl) ?_
  intro B hB
  refine V_sub (L' := [(0, .ref (Z.2.2.2 99)), (1, .int a_), (2, .int w_), (3, .int v_)]) [0, 1, 2, 3] rfl ?_
  refine V_iload_n (pc := 0) dX11_windows_0 1 rfl rfl ?_
  refine McSi (pc := 1) dX11_windows_1 (cM_isSheet Z _ _) kM_150 rfl (Nat.le_of_ble_eq_true rfl) (by decide) (by decide) ?_
  refine V_bif_eq (pc := 4) (tgt := 26) dX11_windows_4 (by decide) (fun h4 => ?_) (fun h4 => ?_)
  · skip
    refine V_bipush (v := (-2)) (pc := 26) dX11_windows_26 (by decide) ?_
    exact V_iret (pc := 28) dX11_windows_28 (Nat.le_of_ble_eq_true rfl) (Nat.le_of_ble_eq_true rfl) (hB _ _ ⟨congrArg (fun z => some (Value.int z)) (by first | exact (if_neg (fun h => h4 h.1)).symm | exact (if_neg (fun h => h14 h.2.1)).symm | exact (if_neg (fun h => h23 h.2.2)).symm), by exact mCor_rfl S⟩)
  · skip
    refine V_iload_n (pc := 7) dX11_windows_7 2 rfl rfl ?_
    refine V_iconst (v := 1) (pc := 8) dX11_windows_8 (by decide) ?_
    refine V_bipush (v := 8) (pc := 9) dX11_windows_9 (by decide) ?_
    refine McSi (pc := 11) dX11_windows_11 (cM_in Z _ _ _ _) kM_70 rfl (Nat.le_of_ble_eq_true rfl) (by decide) (by decide) ?_
    refine V_bif_eq (pc := 14) (tgt := 26) dX11_windows_14 (by decide) (fun h14 => ?_) (fun h14 => ?_)
    · skip
      refine V_bipush (v := (-2)) (pc := 26) dX11_windows_26 (by decide) ?_
      exact V_iret (pc := 28) dX11_windows_28 (Nat.le_of_ble_eq_true rfl) (Nat.le_of_ble_eq_true rfl) (hB _ _ ⟨congrArg (fun z => some (Value.int z)) (by first | exact (if_neg (fun h => h4 h.1)).symm | exact (if_neg (fun h => h14 h.2.1)).symm | exact (if_neg (fun h => h23 h.2.2)).symm), by exact mCor_rfl S⟩)
    · skip
      refine V_iload_n (pc := 17) dX11_windows_17 3 rfl rfl ?_
      refine V_iconst (v := 0) (pc := 18) dX11_windows_18 (by decide) ?_
      refine V_iconst (v := 2) (pc := 19) dX11_windows_19 (by decide) ?_
      refine McSi (pc := 20) dX11_windows_20 (cM_in Z _ _ _ _) kM_70 rfl (Nat.le_of_ble_eq_true rfl) (by decide) (by decide) ?_
      refine V_bif_ne (pc := 23) (tgt := 29) dX11_windows_23 (by decide) (fun h23 => ?_) (fun h23 => ?_)
      · skip
        refine V_aload_n (pc := 29) dX11_windows_29 0 rfl rfl ?_
        refine Mg_sorts (pc := 30) dX11_windows_30 ?_
        refine V_iload_n (pc := 33) dX11_windows_33 1 rfl rfl ?_
        refine Ml_sorts (pc := 34) dX11_windows_34 (by exact inSh h4) ?_
        refine V_if_ge (pc := 35) (tgt := 41) dX11_windows_35 (by decide) (fun h35 => ?_) (fun h35 => ?_)
        · skip
          refine V_aload_n (pc := 41) dX11_windows_41 0 rfl rfl ?_
          refine V_iload_n (pc := 42) dX11_windows_42 1 rfl rfl ?_
          refine McVv (pc := 43) dX11_windows_43 (cM_reads Z _ _ (by exact inSh h4) (by exact sz_le hs (inSh h4))) kM_165 rfl rfl (Nat.le_of_ble_eq_true rfl) (by decide) (by decide) ?_
          obtain ⟨l_, hl_, el_⟩ := hs _ (in_cl (inSh h4) (by decide)).2
          have ec_ : (S.2.2 33 a_.toNatClampNeg).toNatClampNeg = l_ := by rw [el_, nI_clamp (by omega)]
          obtain ⟨W_, hW_, eW⟩ := nI_of2 (n := 8) rfl (Int32.not_lt.mpr (Int32.le_trans (by decide) h14.1)) h14.2
          have eWc : w_.toNatClampNeg = W_ := by rw [eW, nI_clamp (by omega)]
          have hW1 : 1 ≤ W_ := by
            rcases Nat.eq_zero_or_pos W_ with z | z
            · rw [eW, z] at h14; exact absurd h14.1 (by decide)
            · exact z
          obtain ⟨X_, eX⟩ : ∃ X_, (rwX (fun i => S.2.2 34 (40 * a_.toNatClampNeg + i)) (S.2.2 33 a_.toNatClampNeg).toNatClampNeg) = X_ := ⟨_, rfl⟩
          have rX : ∀ i, i < l_ → (mRd S a_.toNatClampNeg).2.2 11 i = nI (tb X_ i) := by
            intro i hi
            show rdI S a_.toNatClampNeg (S.2.2 33 a_.toNatClampNeg).toNatClampNeg i = _
            rw [rdI_at, ec_, if_pos hi, ← eX, ec_]
            exact rwX_at (fun i => S.2.2 34 (40 * a_.toNatClampNeg + i)) hi
          refine V_eqS _ (mA_self (mRd S a_.toNatClampNeg) 19) ?_
          refine V_iconst (v := 0) (pc := 46) dX11_windows_46 (by decide) ?_
          refine V_istore (pc := 47) (L2 := [(0, .ref (Z.2.2.2 99)), (1, .int a_), (2, .int w_), (3, .int v_)]) dX11_windows_47 (by decide) rfl (fun x4_47 ex4_47 => ?_)
          subst ex4_47
          refine V_sub (L' := [(4, .int (nI 0)), (0, .ref (Z.2.2.2 99)), (1, .int a_), (2, .int w_), (3, .int v_)]) [0, 1, 2, 3, 4] rfl ?_
          refine Vloop (σ := Nat) (fun x => x ≤ 256) (fun x => 256 - x) (fun x => V MW Z cX11_windows RX11 8 (some .int) 2 0 0 B 0 0 49 [(4, .int (nI x)), (0, .ref (Z.2.2.2 99)), (1, .int a_), (2, .int w_), (3, .int v_)] [] (mA (mRd S a_.toNatClampNeg) 19 (it (fun i g => upd g i 0) x ((mRd S a_.toNatClampNeg).2.2 19)))) ?_ 0 (by exact Nat.zero_le _)
          rintro j hI49 ih49
          have hI49 : j ≤ 256 := hI49
          show V MW Z cX11_windows RX11 8 (some .int) 2 0 0 B 0 0 49 [(4, .int (nI j)), (0, .ref (Z.2.2.2 99)), (1, .int a_), (2, .int w_), (3, .int v_)] [] (mA (mRd S a_.toNatClampNeg) 19 (it (fun i g => upd g i 0) j ((mRd S a_.toNatClampNeg).2.2 19)))
          refine V_iload (pc := 49) dX11_windows_49 0 rfl ?_
          refine V_sipush (v := 256) (pc := 51) dX11_windows_51 (by decide) ?_
          refine V_icmp_ge (pc := 54) (tgt := 71) dX11_windows_54 (by decide) (fun h54 => ?_) (fun h54 => ?_)
          · skip
            have hj : 256 ≤ j := jge h54 (by omega)
            have ej : j = 256 := by omega
            refine V_iconst (v := 0) (pc := 71) dX11_windows_71 (by decide) ?_
            refine V_istore (pc := 72) (L2 := [(0, .ref (Z.2.2.2 99)), (1, .int a_), (2, .int w_), (3, .int v_)]) dX11_windows_72 (by decide) rfl (fun x4_72 ex4_72 => ?_)
            subst ex4_72
            refine V_iconst (v := 0) (pc := 74) dX11_windows_74 (by decide) ?_
            refine V_istore (pc := 75) (L2 := [(4, .int 0), (0, .ref (Z.2.2.2 99)), (1, .int a_), (2, .int w_), (3, .int v_)]) dX11_windows_75 (by decide) rfl (fun x5_75 ex5_75 => ?_)
            subst ex5_75
            refine V_sub (L' := [(5, .int (nI 0)), (4, .int (nI 0)), (0, .ref (Z.2.2.2 99)), (1, .int a_), (2, .int w_), (3, .int v_)]) [0, 1, 2, 3, 4, 5] rfl ?_
            refine Vloop (σ := ((Nat → Int32)) × Nat × Nat) (fun x => (x.2.2) ≤ l_ + 1 - W_ ∧ (x.2.1) = unl X_ W_ (x.2.2) ∧ ∀ v, v < 256 → (x.1) v = nI (cntN X_ W_ (x.2.2) v)) (fun x => l_ + 1 - (x.2.2)) (fun x => V MW Z cX11_windows RX11 8 (some .int) 2 0 0 B 0 0 77 [(5, .int (nI (x.2.2))), (4, .int (nI (x.2.1))), (0, .ref (Z.2.2.2 99)), (1, .int a_), (2, .int w_), (3, .int v_)] [] (mA (mRd S a_.toNatClampNeg) 19 (x.1))) ?_ ((it (fun i g => upd g i 0) j ((mRd S a_.toNatClampNeg).2.2 19)), 0, 0) (by exact ⟨Nat.zero_le _, rfl, fun v hv => czW_at _ _ _ (by omega)⟩)
            rintro ⟨g_, u, j⟩ hI77 ih77
            have hI77 : j ≤ l_ + 1 - W_ ∧ u = unl X_ W_ j ∧ ∀ v, v < 256 → g_ v = nI (cntN X_ W_ j v) := hI77
            show V MW Z cX11_windows RX11 8 (some .int) 2 0 0 B 0 0 77 [(5, .int (nI j)), (4, .int (nI u)), (0, .ref (Z.2.2.2 99)), (1, .int a_), (2, .int w_), (3, .int v_)] [] (mA (mRd S a_.toNatClampNeg) 19 g_)
            refine V_iload (pc := 77) dX11_windows_77 0 rfl ?_
            refine V_iload_n (pc := 79) dX11_windows_79 4 rfl rfl ?_
            refine V_iadd (pc := 80) dX11_windows_80 ?_
            refine V_aload_n (pc := 81) dX11_windows_81 2 rfl rfl ?_
            refine Mg_length (pc := 82) (v := (nI l_)) el_ dX11_windows_82 ?_
            refine V_icmp_gt (pc := 85) (tgt := 127) dX11_windows_85 (by decide) (fun h85 => ?_) (fun h85 => ?_)
            · skip
              rw [eW, nI_add, nI_ltI (by omega) (by omega)] at h85
              have ej2 : j = l_ + 1 - W_ := by have := hI77.1; omega
              refine V_iload_n (pc := 127) dX11_windows_127 5 rfl rfl ?_
              have hcn : ∀ v, v < 256 → g_ v = nI (cntN X_ W_ (l_ + 1 - W_) v) := fun v hv => by rw [hI77.2.2 v hv, ej2]
              refine V_if_ne (pc := 128) (tgt := 134) dX11_windows_128 (by decide) (fun h128 => ?_) (fun h128 => ?_)
              · skip
                refine V_iconst (v := (-1)) (pc := 134) dX11_windows_134 (by decide) ?_
                refine V_istore (pc := 135) (L2 := [(4, .int (nI u)), (0, .ref (Z.2.2.2 99)), (1, .int a_), (2, .int w_), (3, .int v_)]) dX11_windows_135 (by decide) rfl (fun x5_135 ex5_135 => ?_)
                subst ex5_135
                refine V_iconst (v := 0) (pc := 137) dX11_windows_137 (by decide) ?_
                refine V_istore (pc := 138) (L2 := [(5, .int (-1)), (4, .int (nI u)), (0, .ref (Z.2.2.2 99)), (1, .int a_), (2, .int w_), (3, .int v_)]) dX11_windows_138 (by decide) rfl (fun x6_138 ex6_138 => ?_)
                subst ex6_138
                refine V_sub (L' := [(6, .int (nI 0)), (5, .int (-1)), (4, .int (nI u)), (0, .ref (Z.2.2.2 99)), (1, .int a_), (2, .int w_), (3, .int v_)]) [0, 1, 2, 3, 4, 5, 6] rfl ?_
                refine Vloop (σ := Nat × Int32) (fun x => (x.1) ≤ l_ + 1 - W_ ∧ (x.2) = nI (bsN X_ W_ (l_ + 1 - W_) (x.1)) - 1) (fun x => l_ + 1 - (x.1)) (fun x => V MW Z cX11_windows RX11 8 (some .int) 2 0 0 B 0 0 140 [(6, .int (nI (x.1))), (5, .int (x.2)), (4, .int (nI u)), (0, .ref (Z.2.2.2 99)), (1, .int a_), (2, .int w_), (3, .int v_)] [] (mA (mRd S a_.toNatClampNeg) 19 g_)) ?_ (0, (-1)) (by exact ⟨Nat.zero_le _, rfl⟩)
                rintro ⟨y, b_⟩ hI140 ih140
                have hI140 : y ≤ l_ + 1 - W_ ∧ b_ = nI (bsN X_ W_ (l_ + 1 - W_) y) - 1 := hI140
                show V MW Z cX11_windows RX11 8 (some .int) 2 0 0 B 0 0 140 [(6, .int (nI y)), (5, .int b_), (4, .int (nI u)), (0, .ref (Z.2.2.2 99)), (1, .int a_), (2, .int w_), (3, .int v_)] [] (mA (mRd S a_.toNatClampNeg) 19 g_)
                refine V_iload (pc := 140) dX11_windows_140 0 rfl ?_
                refine V_iload_n (pc := 142) dX11_windows_142 5 rfl rfl ?_
                refine V_iadd (pc := 143) dX11_windows_143 ?_
                refine V_aload_n (pc := 144) dX11_windows_144 3 rfl rfl ?_
                refine Mg_length (pc := 145) (v := (nI l_)) el_ dX11_windows_145 ?_
                refine V_icmp_gt (pc := 148) (tgt := 192) dX11_windows_148 (by decide) (fun h148 => ?_) (fun h148 => ?_)
                · skip
                  rw [eW, nI_add, nI_ltI (by omega) (by omega)] at h148
                  have ej3 : y = l_ + 1 - W_ := by have := hI140.1; omega
                  subst ej3
                  refine V_iload (pc := 192) dX11_windows_192 1 rfl ?_
                  refine V_if_lt (pc := 194) (tgt := 202) dX11_windows_194 (by decide) (fun h194 => ?_) (fun h194 => ?_)
                  · skip
                    rw [hI140.2, bs_lt0 (bsN_le X_ hW_ _ _)] at h194
                    refine V_iload (pc := 202) dX11_windows_202 1 rfl ?_
                    refine V_goto (pc := 204) (tgt := 214) dX11_windows_204 (by decide) ?_
                    exact V_iret (pc := 214) dX11_windows_214 (Nat.le_of_ble_eq_true rfl) (Nat.le_of_ble_eq_true rfl) (hB _ _ ⟨congrArg (fun z => some (Value.int z)) (by rw [if_pos ⟨h4, h14, h23⟩, if_pos h35, ec_, eWc]; unfold wiR; rw [if_neg h128, if_pos (Or.inr (by rw [← ec_, eX, ec_]; exact h194)), hI140.2, ← ec_, eX]), by exact mCor_rd S _⟩)
                  · skip
                    rw [hI140.2, bs_lt0 (bsN_le X_ hW_ _ _)] at h194
                    have ble := bsN_le X_ hW_ (l_ + 1 - W_) (l_ + 1 - W_)
                    obtain ⟨bb, ebb⟩ : ∃ bb, bsN X_ W_ (l_ + 1 - W_) (l_ + 1 - W_) = bb + 1 := ⟨bsN X_ W_ (l_ + 1 - W_) (l_ + 1 - W_) - 1, by omega⟩
                    have eb : b_ = nI bb := by rw [hI140.2, ebb, nI_pred]
                    refine V_iload_n (pc := 197) dX11_windows_197 6 rfl rfl ?_
                    refine V_iconst (v := 1) (pc := 198) dX11_windows_198 (by decide) ?_
                    refine V_icmp_ne (pc := 199) (tgt := 207) dX11_windows_199 (by decide) (fun h199 => ?_) (fun h199 => ?_)
                    · skip
                      refine V_aload_n (pc := 207) dX11_windows_207 3 rfl rfl ?_
                      refine Mg_counts (pc := 208) dX11_windows_208 ?_
                      refine V_iload (pc := 211) dX11_windows_211 1 rfl ?_
                      refine Ml_counts (pc := 213) dX11_windows_213 (by rw [eb]; exact vp_in_nI (by omega) (by decide)) ?_
                      refine V_eqi (nI (cntN X_ W_ (l_ + 1 - W_) bb)) (by rw [eb, nI_clamp (by omega)]; exact hcn _ (by omega)) ?_
                      exact V_iret (pc := 214) dX11_windows_214 (Nat.le_of_ble_eq_true rfl) (Nat.le_of_ble_eq_true rfl) (hB _ _ ⟨congrArg (fun z => some (Value.int z)) (by rw [if_pos ⟨h4, h14, h23⟩, if_pos h35, ec_, eWc]; unfold wiR; rw [if_neg h128]; first | (rw [if_pos (Or.inl h199), hI140.2, ← ec_, eX]; done) | (rw [if_neg (fun z => z.elim h199 (fun z => h194 (by rw [← ec_, eX, ec_] at z; exact z))), ← ec_, eX, ec_, ebb, Nat.add_sub_cancel]; done)), by exact mCor_rd S _⟩)
                    · skip
                      refine V_iload (pc := 202) dX11_windows_202 1 rfl ?_
                      refine V_goto (pc := 204) (tgt := 214) dX11_windows_204 (by decide) ?_
                      exact V_iret (pc := 214) dX11_windows_214 (Nat.le_of_ble_eq_true rfl) (Nat.le_of_ble_eq_true rfl) (hB _ _ ⟨congrArg (fun z => some (Value.int z)) (by rw [if_pos ⟨h4, h14, h23⟩, if_pos h35, ec_, eWc]; unfold wiR; rw [if_neg h128]; first | (rw [if_pos (Or.inl h199), hI140.2, ← ec_, eX]; done) | (rw [if_neg (fun z => z.elim h199 (fun z => h194 (by rw [← ec_, eX, ec_] at z; exact z))), ← ec_, eX, ec_, ebb, Nat.add_sub_cancel]; done)), by exact mCor_rd S _⟩)
                · skip
                  rw [eW, nI_add, nI_ltI (by omega) (by omega), Nat.not_lt] at h148
                  refine V_aload_n (pc := 151) dX11_windows_151 3 rfl rfl ?_
                  refine V_iload (pc := 152) dX11_windows_152 0 rfl ?_
                  refine V_iload_n (pc := 154) dX11_windows_154 5 rfl rfl ?_
                  refine McVi (pc := 155) dX11_windows_155 (cM_wordAt Z _ _ _ (by rw [eWc]; omega)) kM_236 rfl rfl (Nat.le_of_ble_eq_true rfl) (by decide) (by decide) ?_
                  refine V_eqi (nI (wN X_ y W_)) (by rw [eWc]; exact wdA_N W_ hW_ (fun i hi => rX i (by omega))) ?_
                  have wlt := wN_lt X_ y hW_
                  have ble := bsN_le X_ hW_ (l_ + 1 - W_) y
                  refine V_istore (pc := 158) (L2 := [(6, .int (nI y)), (5, .int b_), (4, .int (nI u)), (0, .ref (Z.2.2.2 99)), (1, .int a_), (2, .int w_), (3, .int v_)]) dX11_windows_158 (by decide) rfl (fun x7_158 ex7_158 => ?_)
                  subst ex7_158
                  refine V_iload (pc := 160) dX11_windows_160 2 rfl ?_
                  refine V_if_lt (pc := 162) (tgt := 182) dX11_windows_162 (by decide) (fun h162 => ?_) (fun h162 => ?_)
                  · skip
                    rw [hI140.2, bs_lt0 ble] at h162
                    have htk : bsN X_ W_ (l_ + 1 - W_) (y + 1) = wN X_ y W_ + 1 := by rw [bsN_s, if_pos (Or.inl h162)]
                    refine V_iload (pc := 182) dX11_windows_182 0 rfl ?_
                    refine V_istore (pc := 184) (L2 := [(7, .int (nI (wN X_ y W_))), (6, .int (nI y)), (4, .int (nI u)), (0, .ref (Z.2.2.2 99)), (1, .int a_), (2, .int w_), (3, .int v_)]) dX11_windows_184 (by decide) rfl (fun x5_184 ex5_184 => ?_)
                    subst ex5_184
                    refine V_iinc (pc := 186) (v := 1) (L2 := [(5, .int (nI (wN X_ y W_))), (7, .int (nI (wN X_ y W_))), (4, .int (nI u)), (0, .ref (Z.2.2.2 99)), (1, .int a_), (2, .int w_), (3, .int v_)]) dX11_windows_186 2 rfl (by decide) (by decide) rfl (fun x6_186 ex6_186 => ?_)
                    rw [nI_1] at ex6_186
                    subst ex6_186
                    refine V_goto (pc := 189) (tgt := 140) dX11_windows_189 (by decide) ?_
                    refine V_sub (L' := [(6, .int (nI (y + 1))), (5, .int (nI (wN X_ y W_))), (4, .int (nI u)), (0, .ref (Z.2.2.2 99)), (1, .int a_), (2, .int w_), (3, .int v_)]) [0, 1, 3, 4, 5, 6, 7] rfl ?_
                    refine ih140 (((y + 1)), _) ?_ ?_
                    · refine ⟨by show y + 1 ≤ _; omega, ?_⟩
                      show _ = nI (bsN X_ W_ (l_ + 1 - W_) (y + 1)) - 1
                      rw [htk, nI_pred]; rfl
                    · show l_ + 1 - (y + 1) < l_ + 1 - y
                      omega
                  · skip
                    rw [hI140.2, bs_lt0 ble] at h162
                    obtain ⟨bb, ebb⟩ : ∃ bb, bsN X_ W_ (l_ + 1 - W_) y = bb + 1 := ⟨bsN X_ W_ (l_ + 1 - W_) y - 1, by omega⟩
                    have eb : b_ = nI bb := by rw [hI140.2, ebb, nI_pred]
                    refine V_aload_n (pc := 165) dX11_windows_165 4 rfl rfl ?_
                    refine Mg_counts (pc := 166) dX11_windows_166 ?_
                    refine V_iload (pc := 169) dX11_windows_169 0 rfl ?_
                    refine Ml_counts (pc := 171) dX11_windows_171 (by exact vp_in_nI wlt (by decide)) ?_
                    refine V_eqi (nI (cntN X_ W_ (l_ + 1 - W_) (wN X_ y W_))) (by rw [nI_clamp (by omega)]; exact hcn _ wlt) ?_
                    refine V_aload_n (pc := 172) dX11_windows_172 4 rfl rfl ?_
                    refine Mg_counts (pc := 173) dX11_windows_173 ?_
                    refine V_iload (pc := 176) dX11_windows_176 2 rfl ?_
                    refine Ml_counts (pc := 178) dX11_windows_178 (by rw [eb]; exact vp_in_nI (by omega) (by decide)) ?_
                    refine V_eqi (nI (cntN X_ W_ (l_ + 1 - W_) bb)) (by rw [eb, nI_clamp (by omega)]; exact hcn _ (by omega)) ?_
                    have c1 := cntN_le X_ W_ (l_ + 1 - W_) bb
                    have c2 := cntN_le X_ W_ (l_ + 1 - W_) (wN X_ y W_)
                    refine V_icmp_le (pc := 179) (tgt := 186) dX11_windows_179 (by decide) (fun h179 => ?_) (fun h179 => ?_)
                    · skip
                      rw [nI_leI (by omega) (by omega)] at h179
                      have hkp : bsN X_ W_ (l_ + 1 - W_) (y + 1) = bsN X_ W_ (l_ + 1 - W_) y := by rw [bsN_s, if_neg]; rintro (z | z); exact h162 z; rw [ebb, Nat.add_sub_cancel] at z; omega
                      refine V_iinc (pc := 186) (v := 1) (L2 := [(7, .int (nI (wN X_ y W_))), (5, .int b_), (4, .int (nI u)), (0, .ref (Z.2.2.2 99)), (1, .int a_), (2, .int w_), (3, .int v_)]) dX11_windows_186 1 rfl (by decide) (by decide) rfl (fun x6_186 ex6_186 => ?_)
                      rw [nI_1] at ex6_186
                      subst ex6_186
                      refine V_goto (pc := 189) (tgt := 140) dX11_windows_189 (by decide) ?_
                      refine V_sub (L' := [(6, .int (nI (y + 1))), (5, .int b_), (4, .int (nI u)), (0, .ref (Z.2.2.2 99)), (1, .int a_), (2, .int w_), (3, .int v_)]) [0, 2, 3, 4, 5, 6, 7] rfl ?_
                      refine ih140 (((y + 1)), _) ?_ ?_
                      · refine ⟨by show y + 1 ≤ _; omega, ?_⟩
                        show _ = nI (bsN X_ W_ (l_ + 1 - W_) (y + 1)) - 1
                        rw [hkp]; exact hI140.2
                      · show l_ + 1 - (y + 1) < l_ + 1 - y
                        omega
                    · skip
                      rw [nI_leI (by omega) (by omega)] at h179
                      have htk : bsN X_ W_ (l_ + 1 - W_) (y + 1) = wN X_ y W_ + 1 := by rw [bsN_s, if_pos]; right; rw [ebb, Nat.add_sub_cancel]; omega
                      refine V_iload (pc := 182) dX11_windows_182 0 rfl ?_
                      refine V_istore (pc := 184) (L2 := [(7, .int (nI (wN X_ y W_))), (6, .int (nI y)), (4, .int (nI u)), (0, .ref (Z.2.2.2 99)), (1, .int a_), (2, .int w_), (3, .int v_)]) dX11_windows_184 (by decide) rfl (fun x5_184 ex5_184 => ?_)
                      subst ex5_184
                      refine V_iinc (pc := 186) (v := 1) (L2 := [(5, .int (nI (wN X_ y W_))), (7, .int (nI (wN X_ y W_))), (4, .int (nI u)), (0, .ref (Z.2.2.2 99)), (1, .int a_), (2, .int w_), (3, .int v_)]) dX11_windows_186 2 rfl (by decide) (by decide) rfl (fun x6_186 ex6_186 => ?_)
                      rw [nI_1] at ex6_186
                      subst ex6_186
                      refine V_goto (pc := 189) (tgt := 140) dX11_windows_189 (by decide) ?_
                      refine V_sub (L' := [(6, .int (nI (y + 1))), (5, .int (nI (wN X_ y W_))), (4, .int (nI u)), (0, .ref (Z.2.2.2 99)), (1, .int a_), (2, .int w_), (3, .int v_)]) [0, 1, 3, 4, 5, 6, 7] rfl ?_
                      refine ih140 (((y + 1)), _) ?_ ?_
                      · refine ⟨by show y + 1 ≤ _; omega, ?_⟩
                        show _ = nI (bsN X_ W_ (l_ + 1 - W_) (y + 1)) - 1
                        rw [htk, nI_pred]; rfl
                      · show l_ + 1 - (y + 1) < l_ + 1 - y
                        omega
              · skip
                refine V_iload (pc := 131) dX11_windows_131 1 rfl ?_
                exact V_iret (pc := 133) dX11_windows_133 (Nat.le_of_ble_eq_true rfl) (Nat.le_of_ble_eq_true rfl) (hB _ _ ⟨congrArg (fun z => some (Value.int z)) (by rw [if_pos ⟨h4, h14, h23⟩, if_pos h35, ec_, eWc]; unfold wiR; rw [if_pos h128, hI77.2.1, ej2, ← ec_, eX]), by exact mCor_rd S _⟩)
            · skip
              rw [eW, nI_add, nI_ltI (by omega) (by omega), Nat.not_lt] at h85
              refine V_aload_n (pc := 88) dX11_windows_88 2 rfl rfl ?_
              refine V_iload (pc := 89) dX11_windows_89 0 rfl ?_
              refine V_iload_n (pc := 91) dX11_windows_91 4 rfl rfl ?_
              refine McVi (pc := 92) dX11_windows_92 (cM_wordAt Z _ _ _ (by rw [eWc]; omega)) kM_236 rfl rfl (Nat.le_of_ble_eq_true rfl) (by decide) (by decide) ?_
              refine V_eqi (nI (wN X_ j W_)) (by rw [eWc]; exact wdA_N W_ hW_ (fun i hi => rX i (by omega))) ?_
              have wlt := wN_lt X_ j hW_
              refine V_istore (pc := 95) (L2 := [(5, .int (nI j)), (4, .int (nI u)), (0, .ref (Z.2.2.2 99)), (1, .int a_), (2, .int w_), (3, .int v_)]) dX11_windows_95 (by decide) rfl (fun x6_95 ex6_95 => ?_)
              subst ex6_95
              refine V_aload_n (pc := 97) dX11_windows_97 3 rfl rfl ?_
              refine Mg_counts (pc := 98) dX11_windows_98 ?_
              refine V_iload (pc := 101) dX11_windows_101 0 rfl ?_
              refine Ml_counts (pc := 103) dX11_windows_103 (by exact vp_in_nI wlt (by decide)) ?_
              refine V_eqi (nI (cntN X_ W_ j (wN X_ j W_))) (by rw [nI_clamp (by omega)]; exact hI77.2.2 _ wlt) ?_
              refine V_if_ne (pc := 104) (tgt := 110) dX11_windows_104 (by decide) (fun h104 => ?_) (fun h104 => ?_)
              · skip
                have h104 : ¬ cntN X_ W_ j (wN X_ j W_) = 0 := fun z => h104 (by rw [z]; rfl)
                refine V_aload_n (pc := 110) dX11_windows_110 3 rfl rfl ?_
                refine Mg_counts (pc := 111) dX11_windows_111 ?_
                refine V_iload (pc := 114) dX11_windows_114 0 rfl ?_
                refine V_dup2_11 (pc := 116) dX11_windows_116 rfl rfl ?_
                refine Ml_counts (pc := 117) dX11_windows_117 (by exact vp_in_nI wlt (by decide)) ?_
                refine V_eqi (nI (cntN X_ W_ j (wN X_ j W_))) (by rw [nI_clamp (by omega)]; exact hI77.2.2 _ wlt) ?_
                refine V_iconst (v := 1) (pc := 118) dX11_windows_118 (by decide) ?_
                refine V_iadd (pc := 119) dX11_windows_119 ?_
                refine Ms_counts (pc := 120) dX11_windows_120 (by exact vp_in_nI wlt (by decide)) ?_
                refine V_eqS (mA (mRd S a_.toNatClampNeg) 19 (upd g_ (wN X_ j W_) (nI (cntN X_ W_ j (wN X_ j W_) + 1)))) (by refine (mA_mA _ 19 _ _).trans ?_; rw [nI_clamp (by omega), nI_1]; rfl) ?_
                refine V_iinc (pc := 121) (v := 1) (L2 := [(6, .int (nI (wN X_ j W_))), (4, .int (nI u)), (0, .ref (Z.2.2.2 99)), (1, .int a_), (2, .int w_), (3, .int v_)]) dX11_windows_121 1 rfl (by decide) (by decide) rfl (fun x5_121 ex5_121 => ?_)
                rw [nI_1] at ex5_121
                subst ex5_121
                refine V_goto (pc := 124) (tgt := 77) dX11_windows_124 (by decide) ?_
                refine V_sub (L' := [(5, .int (nI (j + 1))), (4, .int (nI u)), (0, .ref (Z.2.2.2 99)), (1, .int a_), (2, .int w_), (3, .int v_)]) [0, 2, 3, 4, 5, 6] rfl ?_
                refine ih77 (_, (u), ((j + 1))) ?_ ?_
                · refine ⟨by show j + 1 ≤ _; omega, ?_, fun v hv => ?_⟩
                  · show _ = unl X_ W_ (j + 1)
                    rw [unl_s]
                    first | (rw [if_pos h104, hI77.2.1]; done) | (rw [if_neg h104, hI77.2.1]; done)
                  · show upd g_ _ _ v = nI (cntN X_ W_ (j + 1) v)
                    rw [upd_at, cntN_s]
                    by_cases e : v = wN X_ j W_
                    · rw [if_pos e, if_pos e.symm, e]
                    · rw [if_neg e, if_neg (fun z => e z.symm)]
                      exact hI77.2.2 v hv
                · show l_ + 1 - (j + 1) < l_ + 1 - j
                  have := hI77.1
                  omega
              · skip
                have h104 : cntN X_ W_ j (wN X_ j W_) = 0 := by
                  rcases Nat.eq_zero_or_pos (cntN X_ W_ j (wN X_ j W_)) with z | z
                  · exact z
                  · exact absurd h104 (nI_ne0 z (by have := cntN_le X_ W_ j (wN X_ j W_); omega))
                refine V_iinc (pc := 107) (v := 1) (L2 := [(6, .int (nI (wN X_ j W_))), (5, .int (nI j)), (0, .ref (Z.2.2.2 99)), (1, .int a_), (2, .int w_), (3, .int v_)]) dX11_windows_107 2 rfl (by decide) (by decide) rfl (fun x4_107 ex4_107 => ?_)
                rw [nI_1] at ex4_107
                subst ex4_107
                refine V_aload_n (pc := 110) dX11_windows_110 3 rfl rfl ?_
                refine Mg_counts (pc := 111) dX11_windows_111 ?_
                refine V_iload (pc := 114) dX11_windows_114 1 rfl ?_
                refine V_dup2_11 (pc := 116) dX11_windows_116 rfl rfl ?_
                refine Ml_counts (pc := 117) dX11_windows_117 (by exact vp_in_nI wlt (by decide)) ?_
                refine V_eqi (nI (cntN X_ W_ j (wN X_ j W_))) (by rw [nI_clamp (by omega)]; exact hI77.2.2 _ wlt) ?_
                refine V_iconst (v := 1) (pc := 118) dX11_windows_118 (by decide) ?_
                refine V_iadd (pc := 119) dX11_windows_119 ?_
                refine Ms_counts (pc := 120) dX11_windows_120 (by exact vp_in_nI wlt (by decide)) ?_
                refine V_eqS (mA (mRd S a_.toNatClampNeg) 19 (upd g_ (wN X_ j W_) (nI (cntN X_ W_ j (wN X_ j W_) + 1)))) (by refine (mA_mA _ 19 _ _).trans ?_; rw [nI_clamp (by omega), nI_1]; rfl) ?_
                refine V_iinc (pc := 121) (v := 1) (L2 := [(4, .int (nI (u + 1))), (6, .int (nI (wN X_ j W_))), (0, .ref (Z.2.2.2 99)), (1, .int a_), (2, .int w_), (3, .int v_)]) dX11_windows_121 2 rfl (by decide) (by decide) rfl (fun x5_121 ex5_121 => ?_)
                rw [nI_1] at ex5_121
                subst ex5_121
                refine V_goto (pc := 124) (tgt := 77) dX11_windows_124 (by decide) ?_
                refine V_sub (L' := [(5, .int (nI (j + 1))), (4, .int (nI (u + 1))), (0, .ref (Z.2.2.2 99)), (1, .int a_), (2, .int w_), (3, .int v_)]) [0, 1, 3, 4, 5, 6] rfl ?_
                refine ih77 (_, ((u + 1)), ((j + 1))) ?_ ?_
                · refine ⟨by show j + 1 ≤ _; omega, ?_, fun v hv => ?_⟩
                  · show _ = unl X_ W_ (j + 1)
                    rw [unl_s]
                    first | (rw [if_pos h104, hI77.2.1]; done) | (rw [if_neg h104, hI77.2.1]; done)
                  · show upd g_ _ _ v = nI (cntN X_ W_ (j + 1) v)
                    rw [upd_at, cntN_s]
                    by_cases e : v = wN X_ j W_
                    · rw [if_pos e, if_pos e.symm, e]
                    · rw [if_neg e, if_neg (fun z => e z.symm)]
                      exact hI77.2.2 v hv
                · show l_ + 1 - (j + 1) < l_ + 1 - j
                  have := hI77.1
                  omega
          · skip
            have hj : j < 256 := jlt h54 (by omega)
            refine V_aload_n (pc := 57) dX11_windows_57 1 rfl rfl ?_
            refine Mg_counts (pc := 58) dX11_windows_58 ?_
            refine V_iload (pc := 61) dX11_windows_61 0 rfl ?_
            refine V_iconst (v := 0) (pc := 63) dX11_windows_63 (by decide) ?_
            refine Ms_counts (pc := 64) dX11_windows_64 (by exact vp_in_nI (by omega) (by decide)) ?_
            refine V_eqS (mA (mRd S a_.toNatClampNeg) 19 (it (fun i g => upd g i 0) (j + 1) ((mRd S a_.toNatClampNeg).2.2 19))) (by refine (mA_mA _ 19 _ _).trans ?_; rw [nI_clamp (by omega)]; rfl) ?_
            refine V_iinc (pc := 65) (v := 1) (L2 := [(0, .ref (Z.2.2.2 99)), (1, .int a_), (2, .int w_), (3, .int v_)]) dX11_windows_65 0 rfl (by decide) (by decide) rfl (fun x4_65 ex4_65 => ?_)
            rw [nI_1] at ex4_65
            subst ex4_65
            refine V_goto (pc := 68) (tgt := 49) dX11_windows_68 (by decide) ?_
            refine V_sub (L' := [(4, .int (nI (j + 1))), (0, .ref (Z.2.2.2 99)), (1, .int a_), (2, .int w_), (3, .int v_)]) [0, 1, 2, 3, 4] rfl ?_
            refine ih49 ((j + 1)) ?_ ?_
            · show ((j + 1)) ≤ 256
              exact hj
            · show 256 - (j + 1) < 256 - j
              omega
        · skip
          refine V_bipush (v := (-11)) (pc := 38) dX11_windows_38 (by decide) ?_
          exact V_iret (pc := 40) dX11_windows_40 (Nat.le_of_ble_eq_true rfl) (Nat.le_of_ble_eq_true rfl) (hB _ _ ⟨congrArg (fun z => some (Value.int z)) (by rw [if_pos ⟨h4, h14, h23⟩, if_neg h35]), by exact mCor_rfl S⟩)
      · skip
        refine V_bipush (v := (-2)) (pc := 26) dX11_windows_26 (by decide) ?_
        exact V_iret (pc := 28) dX11_windows_28 (Nat.le_of_ble_eq_true rfl) (Nat.le_of_ble_eq_true rfl) (hB _ _ ⟨congrArg (fun z => some (Value.int z)) (by first | exact (if_neg (fun h => h4 h.1)).symm | exact (if_neg (fun h => h14 h.2.1)).symm | exact (if_neg (fun h => h23 h.2.2)).symm), by exact mCor_rfl S⟩)
