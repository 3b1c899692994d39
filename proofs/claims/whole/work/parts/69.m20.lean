theorem leaX_pos {N : Int} {n : Nat} {A B : Int} (h : leaX N n A B) : 1 ≤ B := by
  rcases h with ⟨_, _, h⟩ | ⟨_, h⟩
  · omega
  · have := h.1.2.1; omega
/-- cells, taps, state, carry of the machine that the reference builds -/
def mbC (B : Int) : Nat := dgl (B + 1).toNat - 1
def mbT (B : Int) (c j : Nat) : Int32 := it (fun i (a : Int32) => if ((iL B + 1) >>> (Int32.toInt64 (nI c - nI i) &&& 63)) &&& 1 = 1 then a ||| 1 <<< (nI i &&& 31) else a) j 0
def mbF (A B : Int) (j : Nat) : Int64 := it (fun _ (x : Int64) => (x - Int32.toInt64 (x &&& 1).toInt32 * iL B) / 2) j (iL A)
def mbS (A B : Int) (j : Nat) : Int32 := it (fun i (a : Int32) => a ||| (mbF A B i &&& 1).toInt32 <<< (nI i &&& 31)) j 0
def mbY (A B : Int) (c : Nat) : Int64 := (Int32.toInt64 (rst (nI c) (mbT B c c) (mbS A B c)) - iL A) / 1 <<< (Int32.toInt64 (nI c) &&& 63)
abbrev mbOK (A B : Int) : Prop := mbC B ≤ 6 ∧ ¬ lg_cmp (mbY A B (mbC B)) (-9) < 0 ∧ lg_cmp (mbY A B (mbC B)) 9 ≤ 0
abbrev mbN (S : MS) (A B : Int) : MS := mF (mLay S (S.1 0).toNatClampNeg 0 (nI (mbC B)) (mbT B (mbC B) (mbC B)) (mbS A B (mbC B)) (mbY A B (mbC B)).toInt32) 0 (S.1 0 + 1)
theorem dgl_lt : ∀ (k n : Nat), n < 2 ^ k → dgl n ≤ k
  | 0, n, h => by
    have : n = 0 := by rw [Nat.pow_zero] at h; omega
    rw [this, dgl_0]
    exact Nat.zero_le _
  | k + 1, n, h => by
    rcases Nat.eq_zero_or_pos n with z | z
    · rw [z, dgl_0]; exact Nat.zero_le _
    · rw [dgl_pos z]
      have := dgl_lt k (n / 2) (by rw [Nat.pow_succ] at h; omega)
      omega
theorem dgl_ge {n : Nat} (h : 2 ≤ n) : 2 ≤ dgl n := by
  rw [dgl_pos (by omega), dgl_pos (by omega)]
  omega
def bldM (S : MS) (a_ : Int32) (v : Option Value) (S' : MS) : Prop := (((¬ (0 ≤ a_ ∧ a_ ≤ 3)) ∨ (0 ≤ S.2.2 32 a_.toNatClampNeg ∧ ¬ S.2.2 33 a_.toNatClampNeg ≤ 24)) ∧ v = some (.int (-2)) ∧ S' = S) ∨ ((0 ≤ a_ ∧ a_ ≤ 3) ∧ ¬ 0 ≤ S.2.2 32 a_.toNatClampNeg ∧ v = some (.int (-11)) ∧ S' = S) ∨ ((0 ≤ a_ ∧ a_ ≤ 3) ∧ 0 ≤ S.2.2 32 a_.toNatClampNeg ∧ S.2.2 33 a_.toNatClampNeg ≤ 24 ∧ S.1 0 = 4 ∧ v = some (.int (-4)) ∧ S' = S) ∨ ((0 ≤ a_ ∧ a_ ≤ 3) ∧ 0 ≤ S.2.2 32 a_.toNatClampNeg ∧ S.2.2 33 a_.toNatClampNeg ≤ 24 ∧ ¬ S.1 0 = 4 ∧ ∃ A B, leaX (rwM S a_.toNatClampNeg (S.2.2 33 a_.toNatClampNeg).toNatClampNeg).toInt (S.2.2 33 a_.toNatClampNeg).toNatClampNeg A B ∧ smQ A ∧ smQ B ∧ ((¬ mbOK A B ∧ v = some (.int (-3)) ∧ mCor S S') ∨ (mbOK A B ∧ v = some (.int (S.1 0 + 1 - 1)) ∧ mCor (mbN S A B) S')))
set_option maxHeartbeats 4000000 in
set_option maxRecDepth 100000 in
theorem cM_build (Z : VZ) (S : MS) (a_ : Int32) (hm : mOK S) (hs : sOK2 S) : Ct MW Z yX11_build cX11_build 9 (some .int) 3 0 0 [.ref (Z.2.2.2 99), .int a_] (S) (fun v S' => bldM S a_ v S') := by
  refine V_entry (own := RX11) (by decide) rfl (Nat.le_of_ble_eq_true rfl) ?_
  intro B hB
  refine V_sub (L' := [(0, .ref (Z.2.2.2 99)), (1, .int a_)]) [0, 1] rfl ?_
  refine V_iload_n (pc := 0) dX11_build_0 1 rfl rfl ?_
  refine McSi (pc := 1) dX11_build_1 (cM_isSheet Z _ _) kM_150 rfl (Nat.le_of_ble_eq_true rfl) (by decide) (by decide) ?_
  refine V_bif_ne (pc := 4) (tgt := 10) dX11_build_4 (by decide) (fun h4 => ?_) (fun h4 => ?_)
  · skip
    refine V_aload_n (pc := 10) dX11_build_10 0 rfl rfl ?_
    refine Mg_sorts (pc := 11) dX11_build_11 ?_
    refine V_iload_n (pc := 14) dX11_build_14 1 rfl rfl ?_
    refine Ml_sorts (pc := 15) dX11_build_15 (by exact inSh h4) ?_
    refine V_if_ge (pc := 16) (tgt := 22) dX11_build_16 (by decide) (fun h16 => ?_) (fun h16 => ?_)
    · skip
      refine V_aload_n (pc := 22) dX11_build_22 0 rfl rfl ?_
      refine Mg_sizes (pc := 23) dX11_build_23 ?_
      refine V_iload_n (pc := 26) dX11_build_26 1 rfl rfl ?_
      refine Ml_sizes (pc := 27) dX11_build_27 (by exact inSh h4) ?_
      refine V_bipush (v := 24) (pc := 28) dX11_build_28 (by decide) ?_
      refine V_icmp_le (pc := 30) (tgt := 36) dX11_build_30 (by decide) (fun h30 => ?_) (fun h30 => ?_)
      · skip
        refine V_aload_n (pc := 36) dX11_build_36 0 rfl rfl ?_
        refine Mg_many (pc := 37) (v := (S.1 0)) rfl dX11_build_37 ?_
        refine V_iconst (v := 4) (pc := 40) dX11_build_40 (by decide) ?_
        refine V_icmp_ne (pc := 41) (tgt := 47) dX11_build_41 (by decide) (fun h41 => ?_) (fun h41 => ?_)
        · skip
          refine V_aload_n (pc := 47) dX11_build_47 0 rfl rfl ?_
          refine V_iload_n (pc := 48) dX11_build_48 1 rfl rfl ?_
          refine McVv (pc := 49) dX11_build_49 (cM_reads Z _ _ (by exact inSh h4) (by exact sz_le hs (inSh h4))) kM_165 rfl rfl (Nat.le_of_ble_eq_true rfl) (by decide) (by decide) ?_
          obtain ⟨l_, hl_, el_⟩ := hs _ (in_cl (inSh h4) (by decide)).2
          have ec_ : (S.2.2 33 a_.toNatClampNeg).toNatClampNeg = l_ := by rw [el_, nI_clamp (by omega)]
          have l24 : l_ ≤ 24 := by
            rw [el_] at h30
            exact (nI_leI (b := 24) (by omega) (by decide)).mp h30
          have hbb := bt_bd (fun i => S.2.2 34 (40 * a_.toNatClampNeg + i)) hl_
          have enb : nbI ((mRd S a_.toNatClampNeg).2.2 11) l_ = rwM S a_.toNatClampNeg l_ := by
            show nbI (rdI S a_.toNatClampNeg (S.2.2 33 a_.toNatClampNeg).toNatClampNeg) l_ = _
            rw [ec_]
            exact nbI_bt S _ _
          refine V_aload_n (pc := 52) dX11_build_52 0 rfl rfl ?_
          refine V_callV (q0 := 0) (ci := 11) (C := RX11) (T := TX11) (N := 35) (pc := 53) dX11_build_53 (cM_layLeast Z _ l_ (by exact el_) (by exact l24) (by rw [enb]; exact hbb)) kM_200 rfl rfl rfl rfl (Nat.le_of_ble_eq_true rfl) (by decide) (by decide) (Nat.le_refl _) (Nat.le_refl _) (fun v53 S53 hp53 => ?_)
          obtain ⟨rfl, A_, B_, rfl, hlea, hsA, hsB⟩ := hp53
          rw [enb] at hlea
          have hB1 := leaX_pos hlea
          have dg2 := dgl_ge (n := (B_ + 1).toNat) (by omega)
          have dgu := dgl_lt 62 (B_ + 1).toNat (by omega)
          obtain ⟨c_, ecd⟩ : ∃ c_, dgl (B_ + 1).toNat = c_ + 1 := ⟨dgl (B_ + 1).toNat - 1, by omega⟩
          have emc : mbC B_ = c_ := by unfold mbC; rw [ecd, Nat.add_sub_cancel]
          refine V_aload_n (pc := 56) dX11_build_56 0 rfl rfl ?_
          refine Mg_below (pc := 57) (v := (iL B_)) rfl dX11_build_57 ?_
          refine V_lconst (v := 1) (pc := 60) dX11_build_60 (by decide) ?_
          refine V_ladd (pc := 61) dX11_build_61 ?_
          refine V_eql (iL (B_ + 1)) (iL_add B_ 1) ?_
          refine McSi (pc := 62) dX11_build_62 (cM_digitsOf Z _ _) kM_203 rfl (Nat.le_of_ble_eq_true rfl) (by decide) (by decide) ?_
          refine V_eqi (nI (dgl (B_ + 1).toNat)) (by rw [iL_t (by omega)]) ?_
          refine V_iconst (v := 1) (pc := 65) dX11_build_65 (by decide) ?_
          refine V_isub (pc := 66) dX11_build_66 ?_
          refine V_eqi (nI c_) (by rw [ecd, nI_pred]) ?_
          refine V_istore_n (pc := 67) (L2 := [(0, .ref (Z.2.2.2 99)), (1, .int a_)]) dX11_build_67 rfl (by decide) rfl (fun x2_67 ex2_67 => ?_)
          subst ex2_67
          refine V_iload_n (pc := 68) dX11_build_68 0 rfl rfl ?_
          refine V_bipush (v := 6) (pc := 69) dX11_build_69 (by decide) ?_
          refine V_icmp_le (pc := 71) (tgt := 77) dX11_build_71 (by decide) (fun h71 => ?_) (fun h71 => ?_)
          · skip
            have hc6 : c_ ≤ 6 := by
              refine Nat.not_lt.mp (fun z => ?_)
              have z2 := (nI_leI (a := c_) (b := 6) (by omega) (by decide)).mp h71
              omega
            refine V_iconst (v := 0) (pc := 77) dX11_build_77 (by decide) ?_
            refine V_istore_n (pc := 78) (L2 := [(2, .int (nI c_)), (0, .ref (Z.2.2.2 99)), (1, .int a_)]) dX11_build_78 rfl (by decide) rfl (fun x3_78 ex3_78 => ?_)
            subst ex3_78
            refine V_iconst (v := 0) (pc := 79) dX11_build_79 (by decide) ?_
            refine V_istore (pc := 80) (L2 := [(3, .int 0), (2, .int (nI c_)), (0, .ref (Z.2.2.2 99)), (1, .int a_)]) dX11_build_80 (by decide) rfl (fun x4_80 ex4_80 => ?_)
            subst ex4_80
            refine V_sub (L' := [(4, .int (nI 0)), (3, .int 0), (2, .int (nI c_)), (0, .ref (Z.2.2.2 99)), (1, .int a_)]) [0, 1, 2, 3, 4] rfl ?_
            refine Vloop (σ := Nat × Int32) (fun x => (x.1) ≤ c_ ∧ (x.2) = mbT B_ c_ (x.1)) (fun x => c_ - (x.1)) (fun x => V MW Z cX11_build RX11 9 (some .int) 3 0 0 B 0 0 82 [(4, .int (nI (x.1))), (3, .int (x.2)), (2, .int (nI c_)), (0, .ref (Z.2.2.2 99)), (1, .int a_)] [] (mL (mRd S a_.toNatClampNeg) A_ B_)) ?_ (0, 0) (by exact ⟨Nat.zero_le _, rfl⟩)
            rintro ⟨j, u⟩ hI82 ih82
            have hI82 : j ≤ c_ ∧ u = mbT B_ c_ j := hI82
            show V MW Z cX11_build RX11 9 (some .int) 3 0 0 B 0 0 82 [(4, .int (nI j)), (3, .int u), (2, .int (nI c_)), (0, .ref (Z.2.2.2 99)), (1, .int a_)] [] (mL (mRd S a_.toNatClampNeg) A_ B_)
            refine V_iload (pc := 82) dX11_build_82 0 rfl ?_
            refine V_iload_n (pc := 84) dX11_build_84 2 rfl rfl ?_
            refine V_icmp_ge (pc := 85) (tgt := 119) dX11_build_85 (by decide) (fun h85 => ?_) (fun h85 => ?_)
            · skip
              have ej : j = c_ := Nat.le_antisymm hI82.1 ((nI_leI (by omega) (by omega)).mp h85)
              refine V_iconst (v := 0) (pc := 119) dX11_build_119 (by decide) ?_
              refine V_istore (pc := 120) (L2 := [(3, .int u), (2, .int (nI c_)), (0, .ref (Z.2.2.2 99)), (1, .int a_)]) dX11_build_120 (by decide) rfl (fun x4_120 ex4_120 => ?_)
              subst ex4_120
              refine V_aload_n (pc := 122) dX11_build_122 3 rfl rfl ?_
              refine Mg_above (pc := 123) (v := (iL A_)) rfl dX11_build_123 ?_
              refine V_lstore (pc := 126) (L2 := [(4, .int 0), (3, .int u), (2, .int (nI c_)), (0, .ref (Z.2.2.2 99)), (1, .int a_)]) dX11_build_126 (by decide) rfl (fun x5_126 ex5_126 => ?_)
              subst ex5_126
              refine V_iconst (v := 0) (pc := 128) dX11_build_128 (by decide) ?_
              refine V_istore (pc := 129) (L2 := [(5, .long (iL A_)), (4, .int 0), (3, .int u), (2, .int (nI c_)), (0, .ref (Z.2.2.2 99)), (1, .int a_)]) dX11_build_129 (by decide) rfl (fun x7_129 ex7_129 => ?_)
              subst ex7_129
              refine V_sub (L' := [(7, .int (nI 0)), (5, .long (iL A_)), (4, .int 0), (3, .int u), (2, .int (nI c_)), (0, .ref (Z.2.2.2 99)), (1, .int a_)]) [0, 1, 2, 3, 4, 5, 6] rfl ?_
              refine Vloop (σ := Nat × Int64 × Int32) (fun x => (x.1) ≤ c_ ∧ (x.2.2) = mbS A_ B_ (x.1) ∧ (x.2.1) = mbF A_ B_ (x.1)) (fun x => c_ - (x.1)) (fun x => V MW Z cX11_build RX11 9 (some .int) 3 0 0 B 0 0 131 [(7, .int (nI (x.1))), (5, .long (x.2.1)), (4, .int (x.2.2)), (3, .int u), (2, .int (nI c_)), (0, .ref (Z.2.2.2 99)), (1, .int a_)] [] (mL (mRd S a_.toNatClampNeg) A_ B_)) ?_ (0, (iL A_), 0) (by exact ⟨Nat.zero_le _, rfl, rfl⟩)
              rintro ⟨j, w_, f_⟩ hI131 ih131
              have hI131 : j ≤ c_ ∧ f_ = mbS A_ B_ j ∧ w_ = mbF A_ B_ j := hI131
              show V MW Z cX11_build RX11 9 (some .int) 3 0 0 B 0 0 131 [(7, .int (nI j)), (5, .long w_), (4, .int f_), (3, .int u), (2, .int (nI c_)), (0, .ref (Z.2.2.2 99)), (1, .int a_)] [] (mL (mRd S a_.toNatClampNeg) A_ B_)
              refine V_iload (pc := 131) dX11_build_131 0 rfl ?_
              refine V_iload_n (pc := 133) dX11_build_133 4 rfl rfl ?_
              refine V_icmp_ge (pc := 134) (tgt := 177) dX11_build_134 (by decide) (fun h134 => ?_) (fun h134 => ?_)
              · skip
                have ej2 : j = c_ := Nat.le_antisymm hI131.1 ((nI_leI (by omega) (by omega)).mp h134)
                refine V_iload_n (pc := 177) dX11_build_177 4 rfl rfl ?_
                refine V_iload_n (pc := 178) dX11_build_178 3 rfl rfl ?_
                refine V_iload (pc := 179) dX11_build_179 2 rfl ?_
                refine McSi (pc := 181) dX11_build_181 (cM_restOf Z _ _ _ _) kM_210 rfl (Nat.le_of_ble_eq_true rfl) (by decide) (by decide) ?_
                refine V_i2l (pc := 184) dX11_build_184 rfl ?_
                refine V_aload_n (pc := 185) dX11_build_185 5 rfl rfl ?_
                refine Mg_above (pc := 186) (v := (iL A_)) rfl dX11_build_186 ?_
                refine V_lsub (pc := 189) dX11_build_189 ?_
                refine V_lconst (v := 1) (pc := 190) dX11_build_190 (by decide) ?_
                refine V_iload_n (pc := 191) dX11_build_191 4 rfl rfl ?_
                refine V_lshl (pc := 192) dX11_build_192 rfl ?_
                refine V_ldiv (pc := 193) dX11_build_193 (by rw [sh_i (by omega)]; intro z; have z2 := (iL_eq (a := ((2 ^ c_ : Nat) : Int)) (b := 0) (by have := p24 (n := c_) (by omega); omega) (by omega)).mp z; have := p24 (n := c_) (by omega); omega) ?_
                refine V_lstore (pc := 194) (L2 := [(5, .long w_), (4, .int f_), (3, .int u), (2, .int (nI c_)), (0, .ref (Z.2.2.2 99)), (1, .int a_)]) dX11_build_194 (by decide) rfl (fun cy_ ecy_ => ?_)
                have ecy : cy_ = mbY A_ B_ c_ := by rw [← ecy_, hI82.2, ej, hI131.2.1, ej2]; rfl
                clear ecy_
                subst ecy
                refine V_lload (pc := 196) dX11_build_196 0 rfl ?_
                refine V_ldc2 (pc := 198) dX11_build_198 tw_1142 ?_
                refine V_lcmp (pc := 201) dX11_build_201 ?_
                refine V_if_lt (pc := 202) (tgt := 214) dX11_build_202 (by decide) (fun h202 => ?_) (fun h202 => ?_)
                · skip
                  refine V_bipush (v := (-3)) (pc := 214) dX11_build_214 (by decide) ?_
                  exact V_iret (pc := 216) dX11_build_216 (Nat.le_of_ble_eq_true rfl) (Nat.le_of_ble_eq_true rfl) (hB _ _ (by exact Or.inr (Or.inr (Or.inr ⟨h4, h16, h30, h41, A_, B_, by rw [ec_]; exact hlea, hsA, hsB, Or.inl ⟨fun h => h.2.1 (by rw [emc]; exact h202), rfl, mCor_L (mCor_rd S _) _ _⟩⟩))))
                · skip
                  refine V_lload (pc := 205) dX11_build_205 0 rfl ?_
                  refine V_ldc2 (pc := 207) dX11_build_207 tw_1143 ?_
                  refine V_lcmp (pc := 210) dX11_build_210 ?_
                  refine V_if_le (pc := 211) (tgt := 217) dX11_build_211 (by decide) (fun h211 => ?_) (fun h211 => ?_)
                  · skip
                    refine V_aload_n (pc := 217) dX11_build_217 5 rfl rfl ?_
                    refine V_aload_n (pc := 218) dX11_build_218 5 rfl rfl ?_
                    refine Mg_many (pc := 219) (v := (S.1 0)) rfl dX11_build_219 ?_
                    refine V_iconst (v := 0) (pc := 222) dX11_build_222 (by decide) ?_
                    refine V_iload_n (pc := 223) dX11_build_223 4 rfl rfl ?_
                    refine V_iload_n (pc := 224) dX11_build_224 3 rfl rfl ?_
                    refine V_iload (pc := 225) dX11_build_225 2 rfl ?_
                    refine V_lload (pc := 227) dX11_build_227 0 rfl ?_
                    refine V_l2i (pc := 229) dX11_build_229 rfl ?_
                    refine McVv (pc := 230) dX11_build_230 (cM_lay Z _ _ _ _ _ _ _ (by exact mOK_in hm h41)) kM_82 rfl rfl (Nat.le_of_ble_eq_true rfl) (by decide) (by decide) ?_
                    refine V_aload_n (pc := 233) dX11_build_233 5 rfl rfl ?_
                    refine V_dup (pc := 234) dX11_build_234 rfl ?_
                    refine Mg_many (pc := 235) (v := (S.1 0)) rfl dX11_build_235 ?_
                    refine V_iconst (v := 1) (pc := 238) dX11_build_238 (by decide) ?_
                    refine V_iadd (pc := 239) dX11_build_239 ?_
                    refine Mp_many (pc := 240) dX11_build_240 ?_
                    refine V_aload_n (pc := 243) dX11_build_243 5 rfl rfl ?_
                    refine Mg_many (pc := 244) (v := (S.1 0 + 1)) rfl dX11_build_244 ?_
                    refine V_iconst (v := 1) (pc := 247) dX11_build_247 (by decide) ?_
                    refine V_isub (pc := 248) dX11_build_248 ?_
                    exact V_iret (pc := 249) dX11_build_249 (Nat.le_of_ble_eq_true rfl) (Nat.le_of_ble_eq_true rfl) (hB _ _ (by exact Or.inr (Or.inr (Or.inr ⟨h4, h16, h30, h41, A_, B_, by rw [ec_]; exact hlea, hsA, hsB, Or.inr ⟨by unfold mbOK; rw [emc]; exact ⟨hc6, h202, h211⟩, rfl, by rw [hI82.2, ej, hI131.2.1, ej2, ← emc]; exact ⟨rfl, rfl, rfl, rfl, ⟨rfl, rfl, rfl, rfl, rfl⟩, rfl, rfl, rfl, rfl, rfl⟩⟩⟩))))
                  · skip
                    refine V_bipush (v := (-3)) (pc := 214) dX11_build_214 (by decide) ?_
                    exact V_iret (pc := 216) dX11_build_216 (Nat.le_of_ble_eq_true rfl) (Nat.le_of_ble_eq_true rfl) (hB _ _ (by exact Or.inr (Or.inr (Or.inr ⟨h4, h16, h30, h41, A_, B_, by rw [ec_]; exact hlea, hsA, hsB, Or.inl ⟨fun h => h211 (by unfold mbOK at h; rw [emc] at h; exact h.2.2), rfl, mCor_L (mCor_rd S _) _ _⟩⟩))))
              · skip
                have hj : j < c_ := Nat.not_le.mp fun q => h134 (nI_le q (by omega))
                refine V_lload (pc := 137) dX11_build_137 1 rfl ?_
                refine V_lconst (v := 1) (pc := 139) dX11_build_139 (by decide) ?_
                refine V_land (pc := 140) dX11_build_140 ?_
                refine V_l2i (pc := 141) dX11_build_141 rfl ?_
                refine V_istore (pc := 142) (L2 := [(7, .int (nI j)), (5, .long w_), (4, .int f_), (3, .int u), (2, .int (nI c_)), (0, .ref (Z.2.2.2 99)), (1, .int a_)]) dX11_build_142 (by decide) rfl (fun x8_142 ex8_142 => ?_)
                subst ex8_142
                refine V_iload (pc := 144) dX11_build_144 3 rfl ?_
                refine V_iload (pc := 146) dX11_build_146 0 rfl ?_
                refine V_iload (pc := 148) dX11_build_148 1 rfl ?_
                refine V_ishl (pc := 150) dX11_build_150 ?_
                refine V_ior (pc := 151) dX11_build_151 ?_
                refine V_istore (pc := 152) (L2 := [(8, .int (Int64.toInt32 (w_ &&& 1))), (7, .int (nI j)), (5, .long w_), (3, .int u), (2, .int (nI c_)), (0, .ref (Z.2.2.2 99)), (1, .int a_)]) dX11_build_152 (by decide) rfl (fun x4_152 ex4_152 => ?_)
                subst ex4_152
                refine V_lload (pc := 154) dX11_build_154 3 rfl ?_
                refine V_iload (pc := 156) dX11_build_156 1 rfl ?_
                refine V_i2l (pc := 158) dX11_build_158 rfl ?_
                refine V_aload_n (pc := 159) dX11_build_159 6 rfl rfl ?_
                refine Mg_below (pc := 160) (v := (iL B_)) rfl dX11_build_160 ?_
                refine V_lmul (pc := 163) dX11_build_163 ?_
                refine V_lsub (pc := 164) dX11_build_164 ?_
                refine V_ldc2 (pc := 165) dX11_build_165 tw_1115 ?_
                refine V_ldiv (pc := 168) dX11_build_168 (by decide) ?_
                refine V_lstore (pc := 169) (L2 := [(4, .int (f_ ||| ((Int64.toInt32 (w_ &&& 1)) <<< ((nI j) &&& 31)))), (8, .int (Int64.toInt32 (w_ &&& 1))), (7, .int (nI j)), (3, .int u), (2, .int (nI c_)), (0, .ref (Z.2.2.2 99)), (1, .int a_)]) dX11_build_169 (by decide) rfl (fun x5_169 ex5_169 => ?_)
                subst ex5_169
                refine V_iinc (pc := 171) (v := 1) (L2 := [(5, .long ((w_ - ((Int32.toInt64 (Int64.toInt32 (w_ &&& 1))) * (iL B_))) / (2))), (4, .int (f_ ||| ((Int64.toInt32 (w_ &&& 1)) <<< ((nI j) &&& 31)))), (8, .int (Int64.toInt32 (w_ &&& 1))), (3, .int u), (2, .int (nI c_)), (0, .ref (Z.2.2.2 99)), (1, .int a_)]) dX11_build_171 3 rfl (by decide) (by decide) rfl (fun x7_171 ex7_171 => ?_)
                rw [nI_1] at ex7_171
                subst ex7_171
                refine V_goto (pc := 174) (tgt := 131) dX11_build_174 (by decide) ?_
                refine V_sub (L' := [(7, .int (nI (j + 1))), (5, .long ((w_ - ((Int32.toInt64 (Int64.toInt32 (w_ &&& 1))) * (iL B_))) / (2))), (4, .int (f_ ||| ((Int64.toInt32 (w_ &&& 1)) <<< ((nI j) &&& 31)))), (3, .int u), (2, .int (nI c_)), (0, .ref (Z.2.2.2 99)), (1, .int a_)]) [0, 1, 2, 4, 5, 6, 7] rfl ?_
                refine ih131 (((j + 1)), _, _) ?_ ?_
                · show ((j + 1)) ≤ c_ ∧ ((f_ ||| ((Int64.toInt32 (w_ &&& 1)) <<< ((nI j) &&& 31)))) = mbS A_ B_ ((j + 1)) ∧ (((w_ - ((Int32.toInt64 (Int64.toInt32 (w_ &&& 1))) * (iL B_))) / (2))) = mbF A_ B_ ((j + 1))
                  refine ⟨hj, ?_, ?_⟩
                  · rw [hI131.2.1, hI131.2.2]; rfl
                  · rw [hI131.2.2]; rfl
                · show c_ - (j + 1) < c_ - j
                  omega
            · skip
              have hj : j < c_ := Nat.not_le.mp fun q => h85 (nI_le q (by omega))
              refine V_aload_n (pc := 88) dX11_build_88 3 rfl rfl ?_
              refine Mg_below (pc := 89) (v := (iL B_)) rfl dX11_build_89 ?_
              refine V_lconst (v := 1) (pc := 92) dX11_build_92 (by decide) ?_
              refine V_ladd (pc := 93) dX11_build_93 ?_
              refine V_iload_n (pc := 94) dX11_build_94 2 rfl rfl ?_
              refine V_iload (pc := 95) dX11_build_95 0 rfl ?_
              refine V_isub (pc := 97) dX11_build_97 ?_
              refine V_lshr (pc := 98) dX11_build_98 rfl ?_
              refine V_lconst (v := 1) (pc := 99) dX11_build_99 (by decide) ?_
              refine V_land (pc := 100) dX11_build_100 ?_
              refine V_lconst (v := 1) (pc := 101) dX11_build_101 (by decide) ?_
              refine V_lcmp (pc := 102) dX11_build_102 ?_
              refine V_if_ne (pc := 103) (tgt := 113) dX11_build_103 (by decide) (fun h103 => ?_) (fun h103 => ?_)
              · skip
                rw [lg_cmp_eq] at h103
                refine V_iinc (pc := 113) (v := 1) (L2 := [(3, .int u), (2, .int (nI c_)), (0, .ref (Z.2.2.2 99)), (1, .int a_)]) dX11_build_113 0 rfl (by decide) (by decide) rfl (fun x4_113 ex4_113 => ?_)
                rw [nI_1] at ex4_113
                subst ex4_113
                refine V_goto (pc := 116) (tgt := 82) dX11_build_116 (by decide) ?_
                refine V_sub (L' := [(4, .int (nI (j + 1))), (3, .int u), (2, .int (nI c_)), (0, .ref (Z.2.2.2 99)), (1, .int a_)]) [0, 1, 2, 3, 4] rfl ?_
                refine ih82 (((j + 1)), _) ?_ ?_
                · show ((j + 1)) ≤ c_ ∧ (u) = mbT B_ c_ ((j + 1))
                  refine ⟨hj, ?_⟩
                  rw [hI82.2]
                  simp only [mbT, it]
                  first | exact (if_pos h103).symm | exact (if_neg h103).symm
                · show c_ - (j + 1) < c_ - j
                  omega
              · skip
                rw [lg_cmp_eq] at h103
                refine V_iload_n (pc := 106) dX11_build_106 1 rfl rfl ?_
                refine V_iconst (v := 1) (pc := 107) dX11_build_107 (by decide) ?_
                refine V_iload (pc := 108) dX11_build_108 0 rfl ?_
                refine V_ishl (pc := 110) dX11_build_110 ?_
                refine V_ior (pc := 111) dX11_build_111 ?_
                refine V_istore_n (pc := 112) (L2 := [(4, .int (nI j)), (2, .int (nI c_)), (0, .ref (Z.2.2.2 99)), (1, .int a_)]) dX11_build_112 rfl (by decide) rfl (fun x3_112 ex3_112 => ?_)
                subst ex3_112
                refine V_iinc (pc := 113) (v := 1) (L2 := [(3, .int (u ||| (1 <<< ((nI j) &&& 31)))), (2, .int (nI c_)), (0, .ref (Z.2.2.2 99)), (1, .int a_)]) dX11_build_113 1 rfl (by decide) (by decide) rfl (fun x4_113 ex4_113 => ?_)
                rw [nI_1] at ex4_113
                subst ex4_113
                refine V_goto (pc := 116) (tgt := 82) dX11_build_116 (by decide) ?_
                refine V_sub (L' := [(4, .int (nI (j + 1))), (3, .int (u ||| (1 <<< ((nI j) &&& 31)))), (2, .int (nI c_)), (0, .ref (Z.2.2.2 99)), (1, .int a_)]) [0, 1, 2, 3, 4] rfl ?_
                refine ih82 (((j + 1)), _) ?_ ?_
                · show ((j + 1)) ≤ c_ ∧ ((u ||| (1 <<< ((nI j) &&& 31)))) = mbT B_ c_ ((j + 1))
                  refine ⟨hj, ?_⟩
                  rw [hI82.2]
                  simp only [mbT, it]
                  first | exact (if_pos h103).symm | exact (if_neg h103).symm
                · show c_ - (j + 1) < c_ - j
                  omega
          · skip
            refine V_bipush (v := (-3)) (pc := 74) dX11_build_74 (by decide) ?_
            exact V_iret (pc := 76) dX11_build_76 (Nat.le_of_ble_eq_true rfl) (Nat.le_of_ble_eq_true rfl) (hB _ _ (by exact Or.inr (Or.inr (Or.inr ⟨h4, h16, h30, h41, A_, B_, by rw [ec_]; exact hlea, hsA, hsB, Or.inl ⟨fun h => h71 (by unfold mbOK at h; rw [emc] at h; exact nI_le h.1 (by decide)), rfl, mCor_L (mCor_rd S _) _ _⟩⟩))))
        · skip
          refine V_bipush (v := (-4)) (pc := 44) dX11_build_44 (by decide) ?_
          exact V_iret (pc := 46) dX11_build_46 (Nat.le_of_ble_eq_true rfl) (Nat.le_of_ble_eq_true rfl) (hB _ _ (by exact Or.inr (Or.inr (Or.inl ⟨h4, h16, h30, h41, rfl, rfl⟩))))
      · skip
        refine V_bipush (v := (-2)) (pc := 33) dX11_build_33 (by decide) ?_
        exact V_iret (pc := 35) dX11_build_35 (Nat.le_of_ble_eq_true rfl) (Nat.le_of_ble_eq_true rfl) (hB _ _ (by exact Or.inl ⟨Or.inr ⟨h16, h30⟩, rfl, rfl⟩))
    · skip
      refine V_bipush (v := (-11)) (pc := 19) dX11_build_19 (by decide) ?_
      exact V_iret (pc := 21) dX11_build_21 (Nat.le_of_ble_eq_true rfl) (Nat.le_of_ble_eq_true rfl) (hB _ _ (by exact Or.inr (Or.inl ⟨h4, h16, rfl, rfl⟩)))
  · skip
    refine V_bipush (v := (-2)) (pc := 7) dX11_build_7 (by decide) ?_
    exact V_iret (pc := 9) dX11_build_9 (Nat.le_of_ble_eq_true rfl) (Nat.le_of_ble_eq_true rfl) (hB _ _ (by exact Or.inl ⟨Or.inl h4, rfl, rfl⟩))
